
set_option maxHeartbeats 4000000 in
theorem y_X9_array {v9_35 : Int32} {g9_34 : Nat → Int32} {p1 : Int32} (k0 : 0 ≤ v9_35.toInt) (k1 : v9_35.toInt ≤ 200) (k2 : y_AV 202 g9_34) : y_Ok (f_X9_array v9_35 g9_34 p1) (fun r => (0 ≤ r.2.toInt) ∧ (r.2.toInt ≤ v9_35.toInt) ∧ (r.1.toInt = 0 ∨ ¬ p1.toInt = 4 ∨ ((g9_34 (Int32.toNatClampNeg (v9_35 - (1 : Int32)))).toInt = 5 ∨ (g9_34 (Int32.toNatClampNeg (v9_35 - (1 : Int32)))).toInt % 16 = 8 ∧ 1048576 ≤ (g9_34 (Int32.toNatClampNeg (v9_35 - (1 : Int32)))).toInt ∧ ¬ (131064 ≤ (g9_34 (Int32.toNatClampNeg (v9_35 - (1 : Int32)))).toInt / 16 ∧ (g9_34 (Int32.toNatClampNeg (v9_35 - (1 : Int32)))).toInt / 16 < 131072)))) := by
  unfold f_X9_array
  refine y_if (fun c1 => ?_) (fun c1 => ?_)
  · skip
    have e2 : (0 : Int32).toInt = 0 := rfl
    have c1' := c1
    rw [← Int32.toInt_inj] at c1'
    refine y_some ?_
    try dsimp only
    refine ⟨?_, ?_, ?_⟩ <;> (first | with_reducible assumption | omega | ((with_reducible refine y_Vl ?_ ?_) <;> omega))
  · skip
    have e3 : (0 : Int32).toInt = 0 := rfl
    have c1' := c1
    rw [← Int32.toInt_inj] at c1'
    try have e4 := @y_subL v9_35 (1 : Int32) (1) rfl (by omega) (by omega)
    refine y_gd (y_gdI (by omega) (by omega)) ?_
    refine y_if (fun c5 => ?_) (fun c5 => ?_)
    · skip
      try have e6 := @y_cl (v9_35 - (1 : Int32)) (by omega)
      try have e7 := k2.at (Int32.toNatClampNeg (v9_35 - (1 : Int32))) (by omega)
      try have e8 := e7.b
      have e9 : (5 : Int32).toInt = 5 := rfl
      have c5' := c5
      rw [← Int32.toInt_inj] at c5'
      have e10 : (1 : Int32).toInt = 1 := rfl
      refine y_some ?_
      try dsimp only
      refine ⟨?_, ?_, ?_⟩ <;> (first | with_reducible assumption | omega | ((with_reducible refine y_Vl ?_ ?_) <;> omega))
    · skip
      try have e11 := @y_cl (v9_35 - (1 : Int32)) (by omega)
      try have e12 := k2.at (Int32.toNatClampNeg (v9_35 - (1 : Int32))) (by omega)
      try have e13 := e12.b
      have e14 : (5 : Int32).toInt = 5 := rfl
      have c5' := c5
      rw [← Int32.toInt_inj] at c5'
      refine y_if (fun c15 => ?_) (fun c15 => ?_)
      · skip
        have e16 := y_and4 (g9_34 (Int32.toNatClampNeg (v9_35 - (1 : Int32))))
        have e17 : (8 : Int32).toInt = 8 := rfl
        have c15' := c15
        rw [← Int32.toInt_inj] at c15'
        refine y_if (fun c18 => ?_) (fun c18 => ?_)
        · skip
          have e19 := y_sar4 (g9_34 (Int32.toNatClampNeg (v9_35 - (1 : Int32))))
          have e20 := y_sar16 ((g9_34 (Int32.toNatClampNeg (v9_35 - (1 : Int32)))) >>> (4 &&& 31))
          have c18' := c18
          rw [← Int32.toInt_inj] at c18'
          refine y_some ?_
          try dsimp only
          refine ⟨?_, ?_, ?_⟩ <;> (first | with_reducible assumption | omega | ((with_reducible refine y_Vl ?_ ?_) <;> omega))
        · skip
          have e21 := y_sar4 (g9_34 (Int32.toNatClampNeg (v9_35 - (1 : Int32))))
          have e22 := y_sar16 ((g9_34 (Int32.toNatClampNeg (v9_35 - (1 : Int32)))) >>> (4 &&& 31))
          have c18' := c18
          rw [← Int32.toInt_inj] at c18'
          refine y_if (fun c23 => ?_) (fun c23 => ?_)
          · skip
            have e24 : (65536 : Int32).toInt = 65536 := rfl
            try have e25 := @y_subL ((g9_34 (Int32.toNatClampNeg (v9_35 - (1 : Int32)))) >>> (4 &&& 31)) (65536 : Int32) (65536) rfl (by omega) (by omega)
            have c23' := c23
            rw [Int32.le_iff_toInt_le] at c23'
            refine y_if (fun c26 => ?_) (fun c26 => ?_)
            · skip
              have e27 : (4 : Int32).toInt = 4 := rfl
              have c26' := c26
              rw [← Int32.toInt_inj] at c26'
              have e28 : (1 : Int32).toInt = 1 := rfl
              refine y_some ?_
              try dsimp only
              refine ⟨?_, ?_, ?_⟩ <;> (first | with_reducible assumption | omega | ((with_reducible refine y_Vl ?_ ?_) <;> omega))
            · skip
              have e29 : (4 : Int32).toInt = 4 := rfl
              have c26' := c26
              rw [← Int32.toInt_inj] at c26'
              refine y_some ?_
              try dsimp only
              refine ⟨?_, ?_, ?_⟩ <;> (first | with_reducible assumption | omega | ((with_reducible refine y_Vl ?_ ?_) <;> omega))
          · skip
            have e30 : (65536 : Int32).toInt = 65536 := rfl
            try have e31 := @y_subL ((g9_34 (Int32.toNatClampNeg (v9_35 - (1 : Int32)))) >>> (4 &&& 31)) (65536 : Int32) (65536) rfl (by omega) (by omega)
            have c23' := c23
            rw [Int32.le_iff_toInt_le] at c23'
            refine y_if (fun c32 => ?_) (fun c32 => ?_)
            · skip
              have e33 : (65528 : Int32).toInt = 65528 := rfl
              have c32' := c32
              rw [Int32.le_iff_toInt_le] at c32'
              refine y_if (fun c34 => ?_) (fun c34 => ?_)
              · skip
                have c34' := c34
                rw [← Int32.toInt_inj] at c34'
                refine y_if (fun c35 => ?_) (fun c35 => ?_)
                · skip
                  try have e36 := @y_subL (((g9_34 (Int32.toNatClampNeg (v9_35 - (1 : Int32)))) >>> (4 &&& 31)) - (65536 : Int32)) (65528 : Int32) (65528) rfl (by omega) (by omega)
                  have e37 : (6 : Int32).toInt = 6 := rfl
                  have c35' := c35
                  rw [← Int32.toInt_inj] at c35'
                  have e38 : (1 : Int32).toInt = 1 := rfl
                  refine y_some ?_
                  try dsimp only
                  refine ⟨?_, ?_, ?_⟩ <;> (first | with_reducible assumption | omega | ((with_reducible refine y_Vl ?_ ?_) <;> omega))
                · skip
                  try have e39 := @y_subL (((g9_34 (Int32.toNatClampNeg (v9_35 - (1 : Int32)))) >>> (4 &&& 31)) - (65536 : Int32)) (65528 : Int32) (65528) rfl (by omega) (by omega)
                  have e40 : (6 : Int32).toInt = 6 := rfl
                  have c35' := c35
                  rw [← Int32.toInt_inj] at c35'
                  refine y_some ?_
                  try dsimp only
                  refine ⟨?_, ?_, ?_⟩ <;> (first | with_reducible assumption | omega | ((with_reducible refine y_Vl ?_ ?_) <;> omega))
              · skip
                have c34' := c34
                rw [← Int32.toInt_inj] at c34'
                refine y_if (fun c41 => ?_) (fun c41 => ?_)
                · skip
                  have e42 : (1 : Int32).toInt = 1 := rfl
                  have c41' := c41
                  rw [← Int32.toInt_inj] at c41'
                  refine y_if (fun c43 => ?_) (fun c43 => ?_)
                  · skip
                    try have e44 := @y_subL (((g9_34 (Int32.toNatClampNeg (v9_35 - (1 : Int32)))) >>> (4 &&& 31)) - (65536 : Int32)) (65528 : Int32) (65528) rfl (by omega) (by omega)
                    have e45 : (7 : Int32).toInt = 7 := rfl
                    have c43' := c43
                    rw [← Int32.toInt_inj] at c43'
                    refine y_some ?_
                    try dsimp only
                    refine ⟨?_, ?_, ?_⟩ <;> (first | with_reducible assumption | omega | ((with_reducible refine y_Vl ?_ ?_) <;> omega))
                  · skip
                    try have e46 := @y_subL (((g9_34 (Int32.toNatClampNeg (v9_35 - (1 : Int32)))) >>> (4 &&& 31)) - (65536 : Int32)) (65528 : Int32) (65528) rfl (by omega) (by omega)
                    have e47 : (7 : Int32).toInt = 7 := rfl
                    have c43' := c43
                    rw [← Int32.toInt_inj] at c43'
                    refine y_some ?_
                    try dsimp only
                    refine ⟨?_, ?_, ?_⟩ <;> (first | with_reducible assumption | omega | ((with_reducible refine y_Vl ?_ ?_) <;> omega))
                · skip
                  have e48 : (1 : Int32).toInt = 1 := rfl
                  have c41' := c41
                  rw [← Int32.toInt_inj] at c41'
                  refine y_if (fun c49 => ?_) (fun c49 => ?_)
                  · skip
                    have e50 : (2 : Int32).toInt = 2 := rfl
                    have c49' := c49
                    rw [← Int32.toInt_inj] at c49'
                    refine y_if (fun c51 => ?_) (fun c51 => ?_)
                    · skip
                      try have e52 := @y_subL (((g9_34 (Int32.toNatClampNeg (v9_35 - (1 : Int32)))) >>> (4 &&& 31)) - (65536 : Int32)) (65528 : Int32) (65528) rfl (by omega) (by omega)
                      have c51' := c51
                      rw [← Int32.toInt_inj] at c51'
                      refine y_some ?_
                      try dsimp only
                      refine ⟨?_, ?_, ?_⟩ <;> (first | with_reducible assumption | omega | ((with_reducible refine y_Vl ?_ ?_) <;> omega))
                    · skip
                      try have e53 := @y_subL (((g9_34 (Int32.toNatClampNeg (v9_35 - (1 : Int32)))) >>> (4 &&& 31)) - (65536 : Int32)) (65528 : Int32) (65528) rfl (by omega) (by omega)
                      have c51' := c51
                      rw [← Int32.toInt_inj] at c51'
                      refine y_some ?_
                      try dsimp only
                      refine ⟨?_, ?_, ?_⟩ <;> (first | with_reducible assumption | omega | ((with_reducible refine y_Vl ?_ ?_) <;> omega))
                  · skip
                    have e54 : (2 : Int32).toInt = 2 := rfl
                    have c49' := c49
                    rw [← Int32.toInt_inj] at c49'
                    refine y_if (fun c55 => ?_) (fun c55 => ?_)
                    · skip
                      have e56 : (3 : Int32).toInt = 3 := rfl
                      have c55' := c55
                      rw [← Int32.toInt_inj] at c55'
                      refine y_if (fun c57 => ?_) (fun c57 => ?_)
                      · skip
                        try have e58 := @y_subL (((g9_34 (Int32.toNatClampNeg (v9_35 - (1 : Int32)))) >>> (4 &&& 31)) - (65536 : Int32)) (65528 : Int32) (65528) rfl (by omega) (by omega)
                        have c57' := c57
                        rw [← Int32.toInt_inj] at c57'
                        refine y_some ?_
                        try dsimp only
                        refine ⟨?_, ?_, ?_⟩ <;> (first | with_reducible assumption | omega | ((with_reducible refine y_Vl ?_ ?_) <;> omega))
                      · skip
                        try have e59 := @y_subL (((g9_34 (Int32.toNatClampNeg (v9_35 - (1 : Int32)))) >>> (4 &&& 31)) - (65536 : Int32)) (65528 : Int32) (65528) rfl (by omega) (by omega)
                        have c57' := c57
                        rw [← Int32.toInt_inj] at c57'
                        refine y_some ?_
                        try dsimp only
                        refine ⟨?_, ?_, ?_⟩ <;> (first | with_reducible assumption | omega | ((with_reducible refine y_Vl ?_ ?_) <;> omega))
                    · skip
                      have e60 : (3 : Int32).toInt = 3 := rfl
                      have c55' := c55
                      rw [← Int32.toInt_inj] at c55'
                      refine y_if (fun c61 => ?_) (fun c61 => ?_)
                      · skip
                        have c61' := c61
                        rw [← Int32.toInt_inj] at c61'
                        refine y_if (fun c62 => ?_) (fun c62 => ?_)
                        · skip
                          try have e63 := @y_subL (((g9_34 (Int32.toNatClampNeg (v9_35 - (1 : Int32)))) >>> (4 &&& 31)) - (65536 : Int32)) (65528 : Int32) (65528) rfl (by omega) (by omega)
                          have c62' := c62
                          rw [← Int32.toInt_inj] at c62'
                          refine y_some ?_
                          try dsimp only
                          refine ⟨?_, ?_, ?_⟩ <;> (first | with_reducible assumption | omega | ((with_reducible refine y_Vl ?_ ?_) <;> omega))
                        · skip
                          try have e64 := @y_subL (((g9_34 (Int32.toNatClampNeg (v9_35 - (1 : Int32)))) >>> (4 &&& 31)) - (65536 : Int32)) (65528 : Int32) (65528) rfl (by omega) (by omega)
                          have c62' := c62
                          rw [← Int32.toInt_inj] at c62'
                          refine y_if (fun c65 => ?_) (fun c65 => ?_)
                          · skip
                            have e66 : (4 : Int32).toInt = 4 := rfl
                            have c65' := c65
                            rw [← Int32.toInt_inj] at c65'
                            refine y_some ?_
                            try dsimp only
                            refine ⟨?_, ?_, ?_⟩ <;> (first | with_reducible assumption | omega | ((with_reducible refine y_Vl ?_ ?_) <;> omega))
                          · skip
                            have e67 : (4 : Int32).toInt = 4 := rfl
                            have c65' := c65
                            rw [← Int32.toInt_inj] at c65'
                            refine y_some ?_
                            try dsimp only
                            refine ⟨?_, ?_, ?_⟩ <;> (first | with_reducible assumption | omega | ((with_reducible refine y_Vl ?_ ?_) <;> omega))
                      · skip
                        have c61' := c61
                        rw [← Int32.toInt_inj] at c61'
                        refine y_if (fun c68 => ?_) (fun c68 => ?_)
                        · skip
                          have e69 : (6 : Int32).toInt = 6 := rfl
                          have c68' := c68
                          rw [← Int32.toInt_inj] at c68'
                          refine y_if (fun c70 => ?_) (fun c70 => ?_)
                          · skip
                            try have e71 := @y_subL (((g9_34 (Int32.toNatClampNeg (v9_35 - (1 : Int32)))) >>> (4 &&& 31)) - (65536 : Int32)) (65528 : Int32) (65528) rfl (by omega) (by omega)
                            have c70' := c70
                            rw [← Int32.toInt_inj] at c70'
                            refine y_some ?_
                            try dsimp only
                            refine ⟨?_, ?_, ?_⟩ <;> (first | with_reducible assumption | omega | ((with_reducible refine y_Vl ?_ ?_) <;> omega))
                          · skip
                            try have e72 := @y_subL (((g9_34 (Int32.toNatClampNeg (v9_35 - (1 : Int32)))) >>> (4 &&& 31)) - (65536 : Int32)) (65528 : Int32) (65528) rfl (by omega) (by omega)
                            have c70' := c70
                            rw [← Int32.toInt_inj] at c70'
                            refine y_some ?_
                            try dsimp only
                            refine ⟨?_, ?_, ?_⟩ <;> (first | with_reducible assumption | omega | ((with_reducible refine y_Vl ?_ ?_) <;> omega))
                        · skip
                          have e73 : (6 : Int32).toInt = 6 := rfl
                          have c68' := c68
                          rw [← Int32.toInt_inj] at c68'
                          refine y_if (fun c74 => ?_) (fun c74 => ?_)
                          · skip
                            have e75 : (7 : Int32).toInt = 7 := rfl
                            have c74' := c74
                            rw [← Int32.toInt_inj] at c74'
                            refine y_if (fun c76 => ?_) (fun c76 => ?_)
                            · skip
                              try have e77 := @y_subL (((g9_34 (Int32.toNatClampNeg (v9_35 - (1 : Int32)))) >>> (4 &&& 31)) - (65536 : Int32)) (65528 : Int32) (65528) rfl (by omega) (by omega)
                              have c76' := c76
                              rw [← Int32.toInt_inj] at c76'
                              refine y_some ?_
                              try dsimp only
                              refine ⟨?_, ?_, ?_⟩ <;> (first | with_reducible assumption | omega | ((with_reducible refine y_Vl ?_ ?_) <;> omega))
                            · skip
                              try have e78 := @y_subL (((g9_34 (Int32.toNatClampNeg (v9_35 - (1 : Int32)))) >>> (4 &&& 31)) - (65536 : Int32)) (65528 : Int32) (65528) rfl (by omega) (by omega)
                              have c76' := c76
                              rw [← Int32.toInt_inj] at c76'
                              refine y_some ?_
                              try dsimp only
                              refine ⟨?_, ?_, ?_⟩ <;> (first | with_reducible assumption | omega | ((with_reducible refine y_Vl ?_ ?_) <;> omega))
                          · skip
                            have e79 : (7 : Int32).toInt = 7 := rfl
                            have c74' := c74
                            rw [← Int32.toInt_inj] at c74'
                            refine y_some ?_
                            try dsimp only
                            refine ⟨?_, ?_, ?_⟩ <;> (first | with_reducible assumption | omega | ((with_reducible refine y_Vl ?_ ?_) <;> omega))
            · skip
              have e80 : (65528 : Int32).toInt = 65528 := rfl
              have c32' := c32
              rw [Int32.le_iff_toInt_le] at c32'
              refine y_if (fun c81 => ?_) (fun c81 => ?_)
              · skip
                have e82 : (4 : Int32).toInt = 4 := rfl
                have c81' := c81
                rw [← Int32.toInt_inj] at c81'
                have e83 : (1 : Int32).toInt = 1 := rfl
                refine y_some ?_
                try dsimp only
                refine ⟨?_, ?_, ?_⟩ <;> (first | with_reducible assumption | omega | ((with_reducible refine y_Vl ?_ ?_) <;> omega))
              · skip
                have e84 : (4 : Int32).toInt = 4 := rfl
                have c81' := c81
                rw [← Int32.toInt_inj] at c81'
                refine y_some ?_
                try dsimp only
                refine ⟨?_, ?_, ?_⟩ <;> (first | with_reducible assumption | omega | ((with_reducible refine y_Vl ?_ ?_) <;> omega))
      · skip
        have e85 := y_and4 (g9_34 (Int32.toNatClampNeg (v9_35 - (1 : Int32))))
        have e86 : (8 : Int32).toInt = 8 := rfl
        have c15' := c15
        rw [← Int32.toInt_inj] at c15'
        refine y_some ?_
        try dsimp only
        refine ⟨?_, ?_, ?_⟩ <;> (first | with_reducible assumption | omega | ((with_reducible refine y_Vl ?_ ?_) <;> omega))
set_option maxHeartbeats 4000000 in
theorem y_X9_arrayLoad {v9_17 : Int32} {v9_35 : Int32} {g9_34 : Nat → Int32} {p1 : Int32} (k0 : 0 ≤ v9_35.toInt) (k1 : v9_35.toInt ≤ v9_17.toInt) (k2 : v9_17.toInt ≤ 200) (k3 : y_AV 202 g9_34) (k4 : 46 ≤ p1.toInt) (k5 : p1.toInt ≤ 53) : y_Ok (f_X9_arrayLoad v9_17 v9_35 g9_34 p1) (fun r => (0 ≤ r.2.1.toInt) ∧ (r.2.1.toInt ≤ v9_17.toInt) ∧ (y_AV 202 r.2.2)) := by
  unfold f_X9_arrayLoad
  have e1 : (1 : Int32).toInt = 1 := rfl
  refine y_bi (y_X9_pop (by omega) (by omega)) (fun r_1 h_r_1 => ?_)
  obtain ⟨h0_r_1, h1_r_1⟩ := h_r_1
  refine y_if (fun c2 => ?_) (fun c2 => ?_)
  · skip
    have e3 : (0 : Int32).toInt = 0 := rfl
    have c2' := c2
    rw [← Int32.toInt_inj] at c2'
    refine y_some ?_
    try dsimp only
    refine ⟨?_, ?_, ?_⟩ <;> (first | with_reducible assumption | omega | ((with_reducible refine y_Vl ?_ ?_) <;> omega) | ((with_reducible refine y_V8 ?_) <;> (first | with_reducible assumption | (unfold y_Tr; omega))) | ((with_reducible refine y_Tr4 ?_ ?_) <;> (first | with_reducible assumption | omega)) | ((with_reducible refine (y_Tr4 ?_ ?_).ty) <;> (first | with_reducible assumption | omega)) | (unfold y_Ty; omega) | (unfold y_Tr; omega) | ((with_reducible refine y_Vdn ?_ ?_ ?_) <;> (first | with_reducible assumption | omega)))
  · skip
    have e4 : (0 : Int32).toInt = 0 := rfl
    have c2' := c2
    rw [← Int32.toInt_inj] at c2'
    refine y_if (fun c5 => ?_) (fun c5 => ?_)
    · skip
      have c5' := c5
      rw [← Int32.toInt_inj] at c5'
      refine y_some ?_
      try dsimp only
      refine ⟨?_, ?_, ?_⟩ <;> (first | with_reducible assumption | omega | ((with_reducible refine y_Vl ?_ ?_) <;> omega) | ((with_reducible refine y_V8 ?_) <;> (first | with_reducible assumption | (unfold y_Tr; omega))) | ((with_reducible refine y_Tr4 ?_ ?_) <;> (first | with_reducible assumption | omega)) | ((with_reducible refine (y_Tr4 ?_ ?_).ty) <;> (first | with_reducible assumption | omega)) | (unfold y_Ty; omega) | (unfold y_Tr; omega) | ((with_reducible refine y_Vdn ?_ ?_ ?_) <;> (first | with_reducible assumption | omega)))
    · skip
      have c5' := c5
      rw [← Int32.toInt_inj] at c5'
      try have e6 := @y_subL r_1.2 (1 : Int32) (1) rfl (by omega) (by omega)
      refine y_gd (y_gdI (by omega) (by omega)) ?_
      try have e7 := @y_subL p1 (46 : Int32) (46) rfl (by omega) (by omega)
      refine y_bi (y_X9_array (by omega) (by omega) (by first | with_reducible assumption | omega | ((with_reducible refine y_Vl ?_ ?_) <;> omega) | ((with_reducible refine y_V8 ?_) <;> (first | with_reducible assumption | (unfold y_Tr; omega))) | ((with_reducible refine y_Tr4 ?_ ?_) <;> (first | with_reducible assumption | omega)) | ((with_reducible refine (y_Tr4 ?_ ?_).ty) <;> (first | with_reducible assumption | omega)) | (unfold y_Ty; omega) | (unfold y_Tr; omega) | ((with_reducible refine y_Vdn ?_ ?_ ?_) <;> (first | with_reducible assumption | omega)))) (fun r_5 h_r_5 => ?_)
      obtain ⟨h0_r_5, h1_r_5, h2_r_5⟩ := h_r_5
      refine y_if (fun c8 => ?_) (fun c8 => ?_)
      · skip
        have c8' := c8
        rw [← Int32.toInt_inj] at c8'
        refine y_some ?_
        try dsimp only
        refine ⟨?_, ?_, ?_⟩ <;> (first | with_reducible assumption | omega | ((with_reducible refine y_Vl ?_ ?_) <;> omega) | ((with_reducible refine y_V8 ?_) <;> (first | with_reducible assumption | (unfold y_Tr; omega))) | ((with_reducible refine y_Tr4 ?_ ?_) <;> (first | with_reducible assumption | omega)) | ((with_reducible refine (y_Tr4 ?_ ?_).ty) <;> (first | with_reducible assumption | omega)) | (unfold y_Ty; omega) | (unfold y_Tr; omega) | ((with_reducible refine y_Vdn ?_ ?_ ?_) <;> (first | with_reducible assumption | omega)))
      · skip
        have c8' := c8
        rw [← Int32.toInt_inj] at c8'
        refine y_if (fun c9 => ?_) (fun c9 => ?_)
        · skip
          have e10 : (50 : Int32).toInt = 50 := rfl
          have c9' := c9
          rw [← Int32.toInt_inj] at c9'
          refine y_if (fun c11 => ?_) (fun c11 => ?_)
          · skip
            try have e12 := @y_cl (r_1.2 - (1 : Int32)) (by omega)
            try have e13 := k3.at (Int32.toNatClampNeg (r_1.2 - (1 : Int32))) (by omega)
            try have e14 := e13.b
            have e15 : (5 : Int32).toInt = 5 := rfl
            have c11' := c11
            rw [← Int32.toInt_inj] at c11'
            refine y_bi (y_X9_push (by omega) (by omega) (by omega) (by first | with_reducible assumption | omega | ((with_reducible refine y_Vl ?_ ?_) <;> omega) | ((with_reducible refine y_V8 ?_) <;> (first | with_reducible assumption | (unfold y_Tr; omega))) | ((with_reducible refine y_Tr4 ?_ ?_) <;> (first | with_reducible assumption | omega)) | ((with_reducible refine (y_Tr4 ?_ ?_).ty) <;> (first | with_reducible assumption | omega)) | (unfold y_Ty; omega) | (unfold y_Tr; omega) | ((with_reducible refine y_Vdn ?_ ?_ ?_) <;> (first | with_reducible assumption | omega))) (by first | with_reducible assumption | omega | ((with_reducible refine y_Vl ?_ ?_) <;> omega) | ((with_reducible refine y_V8 ?_) <;> (first | with_reducible assumption | (unfold y_Tr; omega))) | ((with_reducible refine y_Tr4 ?_ ?_) <;> (first | with_reducible assumption | omega)) | ((with_reducible refine (y_Tr4 ?_ ?_).ty) <;> (first | with_reducible assumption | omega)) | (unfold y_Ty; omega) | (unfold y_Tr; omega) | ((with_reducible refine y_Vdn ?_ ?_ ?_) <;> (first | with_reducible assumption | omega)))) (fun r_17 h_r_17 => ?_)
            obtain ⟨h0_r_17, h1_r_17, h2_r_17⟩ := h_r_17
            refine y_some ?_
            try dsimp only
            refine ⟨?_, ?_, ?_⟩ <;> (first | with_reducible assumption | omega | ((with_reducible refine y_Vl ?_ ?_) <;> omega) | ((with_reducible refine y_V8 ?_) <;> (first | with_reducible assumption | (unfold y_Tr; omega))) | ((with_reducible refine y_Tr4 ?_ ?_) <;> (first | with_reducible assumption | omega)) | ((with_reducible refine (y_Tr4 ?_ ?_).ty) <;> (first | with_reducible assumption | omega)) | (unfold y_Ty; omega) | (unfold y_Tr; omega) | ((with_reducible refine y_Vdn ?_ ?_ ?_) <;> (first | with_reducible assumption | omega)))
          · skip
            try have e16 := @y_cl (r_1.2 - (1 : Int32)) (by omega)
            try have e17 := k3.at (Int32.toNatClampNeg (r_1.2 - (1 : Int32))) (by omega)
            try have e18 := e17.b
            have e19 : (5 : Int32).toInt = 5 := rfl
            have c11' := c11
            rw [← Int32.toInt_inj] at c11'
            try have e20 := @y_subL (g9_34 (Int32.toNatClampNeg (r_1.2 - (1 : Int32)))) (1048576 : Int32) (1048576) rfl (by omega) (by omega)
            refine y_bi (y_X9_push (by omega) (by omega) (by omega) (by first | with_reducible assumption | omega | ((with_reducible refine y_Vl ?_ ?_) <;> omega) | ((with_reducible refine y_V8 ?_) <;> (first | with_reducible assumption | (unfold y_Tr; omega))) | ((with_reducible refine y_Tr4 ?_ ?_) <;> (first | with_reducible assumption | omega)) | ((with_reducible refine (y_Tr4 ?_ ?_).ty) <;> (first | with_reducible assumption | omega)) | (unfold y_Ty; omega) | (unfold y_Tr; omega) | ((with_reducible refine y_Vdn ?_ ?_ ?_) <;> (first | with_reducible assumption | omega))) (by first | with_reducible assumption | omega | ((with_reducible refine y_Vl ?_ ?_) <;> omega) | ((with_reducible refine y_V8 ?_) <;> (first | with_reducible assumption | (unfold y_Tr; omega))) | ((with_reducible refine y_Tr4 ?_ ?_) <;> (first | with_reducible assumption | omega)) | ((with_reducible refine (y_Tr4 ?_ ?_).ty) <;> (first | with_reducible assumption | omega)) | (unfold y_Ty; omega) | (unfold y_Tr; omega) | ((with_reducible refine y_Vdn ?_ ?_ ?_) <;> (first | with_reducible assumption | omega)))) (fun r_16 h_r_16 => ?_)
            obtain ⟨h0_r_16, h1_r_16, h2_r_16⟩ := h_r_16
            refine y_some ?_
            try dsimp only
            refine ⟨?_, ?_, ?_⟩ <;> (first | with_reducible assumption | omega | ((with_reducible refine y_Vl ?_ ?_) <;> omega) | ((with_reducible refine y_V8 ?_) <;> (first | with_reducible assumption | (unfold y_Tr; omega))) | ((with_reducible refine y_Tr4 ?_ ?_) <;> (first | with_reducible assumption | omega)) | ((with_reducible refine (y_Tr4 ?_ ?_).ty) <;> (first | with_reducible assumption | omega)) | (unfold y_Ty; omega) | (unfold y_Tr; omega) | ((with_reducible refine y_Vdn ?_ ?_ ?_) <;> (first | with_reducible assumption | omega)))
        · skip
          have e21 : (50 : Int32).toInt = 50 := rfl
          have c9' := c9
          rw [← Int32.toInt_inj] at c9'
          refine y_if (fun c22 => ?_) (fun c22 => ?_)
          · skip
            have e23 : (47 : Int32).toInt = 47 := rfl
            have c22' := c22
            rw [← Int32.toInt_inj] at c22'
            have e24 : (3 : Int32).toInt = 3 := rfl
            refine y_bi (y_X9_push (by omega) (by omega) (by omega) (by first | with_reducible assumption | omega | ((with_reducible refine y_Vl ?_ ?_) <;> omega) | ((with_reducible refine y_V8 ?_) <;> (first | with_reducible assumption | (unfold y_Tr; omega))) | ((with_reducible refine y_Tr4 ?_ ?_) <;> (first | with_reducible assumption | omega)) | ((with_reducible refine (y_Tr4 ?_ ?_).ty) <;> (first | with_reducible assumption | omega)) | (unfold y_Ty; omega) | (unfold y_Tr; omega) | ((with_reducible refine y_Vdn ?_ ?_ ?_) <;> (first | with_reducible assumption | omega))) (by first | with_reducible assumption | omega | ((with_reducible refine y_Vl ?_ ?_) <;> omega) | ((with_reducible refine y_V8 ?_) <;> (first | with_reducible assumption | (unfold y_Tr; omega))) | ((with_reducible refine y_Tr4 ?_ ?_) <;> (first | with_reducible assumption | omega)) | ((with_reducible refine (y_Tr4 ?_ ?_).ty) <;> (first | with_reducible assumption | omega)) | (unfold y_Ty; omega) | (unfold y_Tr; omega) | ((with_reducible refine y_Vdn ?_ ?_ ?_) <;> (first | with_reducible assumption | omega)))) (fun r_14 h_r_14 => ?_)
            obtain ⟨h0_r_14, h1_r_14, h2_r_14⟩ := h_r_14
            refine y_some ?_
            try dsimp only
            refine ⟨?_, ?_, ?_⟩ <;> (first | with_reducible assumption | omega | ((with_reducible refine y_Vl ?_ ?_) <;> omega) | ((with_reducible refine y_V8 ?_) <;> (first | with_reducible assumption | (unfold y_Tr; omega))) | ((with_reducible refine y_Tr4 ?_ ?_) <;> (first | with_reducible assumption | omega)) | ((with_reducible refine (y_Tr4 ?_ ?_).ty) <;> (first | with_reducible assumption | omega)) | (unfold y_Ty; omega) | (unfold y_Tr; omega) | ((with_reducible refine y_Vdn ?_ ?_ ?_) <;> (first | with_reducible assumption | omega)))
          · skip
            have e25 : (47 : Int32).toInt = 47 := rfl
            have c22' := c22
            rw [← Int32.toInt_inj] at c22'
            refine y_if (fun c26 => ?_) (fun c26 => ?_)
            · skip
              have e27 : (48 : Int32).toInt = 48 := rfl
              have c26' := c26
              rw [← Int32.toInt_inj] at c26'
              have e28 : (2 : Int32).toInt = 2 := rfl
              refine y_bi (y_X9_push (by omega) (by omega) (by omega) (by first | with_reducible assumption | omega | ((with_reducible refine y_Vl ?_ ?_) <;> omega) | ((with_reducible refine y_V8 ?_) <;> (first | with_reducible assumption | (unfold y_Tr; omega))) | ((with_reducible refine y_Tr4 ?_ ?_) <;> (first | with_reducible assumption | omega)) | ((with_reducible refine (y_Tr4 ?_ ?_).ty) <;> (first | with_reducible assumption | omega)) | (unfold y_Ty; omega) | (unfold y_Tr; omega) | ((with_reducible refine y_Vdn ?_ ?_ ?_) <;> (first | with_reducible assumption | omega))) (by first | with_reducible assumption | omega | ((with_reducible refine y_Vl ?_ ?_) <;> omega) | ((with_reducible refine y_V8 ?_) <;> (first | with_reducible assumption | (unfold y_Tr; omega))) | ((with_reducible refine y_Tr4 ?_ ?_) <;> (first | with_reducible assumption | omega)) | ((with_reducible refine (y_Tr4 ?_ ?_).ty) <;> (first | with_reducible assumption | omega)) | (unfold y_Ty; omega) | (unfold y_Tr; omega) | ((with_reducible refine y_Vdn ?_ ?_ ?_) <;> (first | with_reducible assumption | omega)))) (fun r_13 h_r_13 => ?_)
              obtain ⟨h0_r_13, h1_r_13, h2_r_13⟩ := h_r_13
              refine y_some ?_
              try dsimp only
              refine ⟨?_, ?_, ?_⟩ <;> (first | with_reducible assumption | omega | ((with_reducible refine y_Vl ?_ ?_) <;> omega) | ((with_reducible refine y_V8 ?_) <;> (first | with_reducible assumption | (unfold y_Tr; omega))) | ((with_reducible refine y_Tr4 ?_ ?_) <;> (first | with_reducible assumption | omega)) | ((with_reducible refine (y_Tr4 ?_ ?_).ty) <;> (first | with_reducible assumption | omega)) | (unfold y_Ty; omega) | (unfold y_Tr; omega) | ((with_reducible refine y_Vdn ?_ ?_ ?_) <;> (first | with_reducible assumption | omega)))
            · skip
              have e29 : (48 : Int32).toInt = 48 := rfl
              have c26' := c26
              rw [← Int32.toInt_inj] at c26'
              refine y_if (fun c30 => ?_) (fun c30 => ?_)
              · skip
                have e31 : (49 : Int32).toInt = 49 := rfl
                have c30' := c30
                rw [← Int32.toInt_inj] at c30'
                have e32 : (4 : Int32).toInt = 4 := rfl
                refine y_bi (y_X9_push (by omega) (by omega) (by omega) (by first | with_reducible assumption | omega | ((with_reducible refine y_Vl ?_ ?_) <;> omega) | ((with_reducible refine y_V8 ?_) <;> (first | with_reducible assumption | (unfold y_Tr; omega))) | ((with_reducible refine y_Tr4 ?_ ?_) <;> (first | with_reducible assumption | omega)) | ((with_reducible refine (y_Tr4 ?_ ?_).ty) <;> (first | with_reducible assumption | omega)) | (unfold y_Ty; omega) | (unfold y_Tr; omega) | ((with_reducible refine y_Vdn ?_ ?_ ?_) <;> (first | with_reducible assumption | omega))) (by first | with_reducible assumption | omega | ((with_reducible refine y_Vl ?_ ?_) <;> omega) | ((with_reducible refine y_V8 ?_) <;> (first | with_reducible assumption | (unfold y_Tr; omega))) | ((with_reducible refine y_Tr4 ?_ ?_) <;> (first | with_reducible assumption | omega)) | ((with_reducible refine (y_Tr4 ?_ ?_).ty) <;> (first | with_reducible assumption | omega)) | (unfold y_Ty; omega) | (unfold y_Tr; omega) | ((with_reducible refine y_Vdn ?_ ?_ ?_) <;> (first | with_reducible assumption | omega)))) (fun r_12 h_r_12 => ?_)
                obtain ⟨h0_r_12, h1_r_12, h2_r_12⟩ := h_r_12
                refine y_some ?_
                try dsimp only
                refine ⟨?_, ?_, ?_⟩ <;> (first | with_reducible assumption | omega | ((with_reducible refine y_Vl ?_ ?_) <;> omega) | ((with_reducible refine y_V8 ?_) <;> (first | with_reducible assumption | (unfold y_Tr; omega))) | ((with_reducible refine y_Tr4 ?_ ?_) <;> (first | with_reducible assumption | omega)) | ((with_reducible refine (y_Tr4 ?_ ?_).ty) <;> (first | with_reducible assumption | omega)) | (unfold y_Ty; omega) | (unfold y_Tr; omega) | ((with_reducible refine y_Vdn ?_ ?_ ?_) <;> (first | with_reducible assumption | omega)))
              · skip
                have e33 : (49 : Int32).toInt = 49 := rfl
                have c30' := c30
                rw [← Int32.toInt_inj] at c30'
                refine y_bi (y_X9_push (by omega) (by omega) (by omega) (by first | with_reducible assumption | omega | ((with_reducible refine y_Vl ?_ ?_) <;> omega) | ((with_reducible refine y_V8 ?_) <;> (first | with_reducible assumption | (unfold y_Tr; omega))) | ((with_reducible refine y_Tr4 ?_ ?_) <;> (first | with_reducible assumption | omega)) | ((with_reducible refine (y_Tr4 ?_ ?_).ty) <;> (first | with_reducible assumption | omega)) | (unfold y_Ty; omega) | (unfold y_Tr; omega) | ((with_reducible refine y_Vdn ?_ ?_ ?_) <;> (first | with_reducible assumption | omega))) (by first | with_reducible assumption | omega | ((with_reducible refine y_Vl ?_ ?_) <;> omega) | ((with_reducible refine y_V8 ?_) <;> (first | with_reducible assumption | (unfold y_Tr; omega))) | ((with_reducible refine y_Tr4 ?_ ?_) <;> (first | with_reducible assumption | omega)) | ((with_reducible refine (y_Tr4 ?_ ?_).ty) <;> (first | with_reducible assumption | omega)) | (unfold y_Ty; omega) | (unfold y_Tr; omega) | ((with_reducible refine y_Vdn ?_ ?_ ?_) <;> (first | with_reducible assumption | omega)))) (fun r_11 h_r_11 => ?_)
                obtain ⟨h0_r_11, h1_r_11, h2_r_11⟩ := h_r_11
                refine y_some ?_
                try dsimp only
                refine ⟨?_, ?_, ?_⟩ <;> (first | with_reducible assumption | omega | ((with_reducible refine y_Vl ?_ ?_) <;> omega) | ((with_reducible refine y_V8 ?_) <;> (first | with_reducible assumption | (unfold y_Tr; omega))) | ((with_reducible refine y_Tr4 ?_ ?_) <;> (first | with_reducible assumption | omega)) | ((with_reducible refine (y_Tr4 ?_ ?_).ty) <;> (first | with_reducible assumption | omega)) | (unfold y_Ty; omega) | (unfold y_Tr; omega) | ((with_reducible refine y_Vdn ?_ ?_ ?_) <;> (first | with_reducible assumption | omega)))
set_option maxHeartbeats 4000000 in
theorem y_X9_arrayStore {v9_35 : Int32} {g9_4 : Nat → Int32} {g9_5 : Nat → Int32} {g9_34 : Nat → Int32} {p1 : Int32} (k0 : 0 ≤ v9_35.toInt) (k1 : v9_35.toInt ≤ 200) (k2 : y_Up g9_4) (k3 : y_AV 202 g9_34) : y_Ok (f_X9_arrayStore v9_35 g9_4 g9_5 g9_34 p1) (fun r => (0 ≤ r.2.toInt) ∧ (r.2.toInt ≤ v9_35.toInt)) := by
  unfold f_X9_arrayStore
  refine y_if (fun c1 => ?_) (fun c1 => ?_)
  · skip
    have e2 : (83 : Int32).toInt = 83 := rfl
    have c1' := c1
    rw [← Int32.toInt_inj] at c1'
    have e3 : (0 : Int32).toInt = 0 := rfl
    refine y_bi (y_X9_popType (by omega) (by omega) (by first | with_reducible assumption | omega | ((with_reducible refine y_Vl ?_ ?_) <;> omega) | ((with_reducible refine y_V8 ?_) <;> (first | with_reducible assumption | (unfold y_Tr; omega))) | ((with_reducible refine y_Tr4 ?_ ?_) <;> (first | with_reducible assumption | omega)) | ((with_reducible refine (y_Tr4 ?_ ?_).ty) <;> (first | with_reducible assumption | omega)) | (unfold y_Ty; omega) | (unfold y_Tr; omega)) (by first | with_reducible assumption | omega | ((with_reducible refine y_Vl ?_ ?_) <;> omega) | ((with_reducible refine y_V8 ?_) <;> (first | with_reducible assumption | (unfold y_Tr; omega))) | ((with_reducible refine y_Tr4 ?_ ?_) <;> (first | with_reducible assumption | omega)) | ((with_reducible refine (y_Tr4 ?_ ?_).ty) <;> (first | with_reducible assumption | omega)) | (unfold y_Ty; omega) | (unfold y_Tr; omega)) (by first | with_reducible assumption | omega | ((with_reducible refine y_Vl ?_ ?_) <;> omega) | ((with_reducible refine y_V8 ?_) <;> (first | with_reducible assumption | (unfold y_Tr; omega))) | ((with_reducible refine y_Tr4 ?_ ?_) <;> (first | with_reducible assumption | omega)) | ((with_reducible refine (y_Tr4 ?_ ?_).ty) <;> (first | with_reducible assumption | omega)) | (unfold y_Ty; omega) | (unfold y_Tr; omega))) (fun r_29 h_r_29 => ?_)
    obtain ⟨h0_r_29, h1_r_29⟩ := h_r_29
    refine y_if (fun c4 => ?_) (fun c4 => ?_)
    · skip
      have c4' := c4
      rw [← Int32.toInt_inj] at c4'
      refine y_some ?_
      try dsimp only
      refine ⟨?_, ?_⟩ <;> (first | with_reducible assumption | omega | ((with_reducible refine y_Vl ?_ ?_) <;> omega) | ((with_reducible refine y_V8 ?_) <;> (first | with_reducible assumption | (unfold y_Tr; omega))) | ((with_reducible refine y_Tr4 ?_ ?_) <;> (first | with_reducible assumption | omega)) | ((with_reducible refine (y_Tr4 ?_ ?_).ty) <;> (first | with_reducible assumption | omega)) | (unfold y_Ty; omega) | (unfold y_Tr; omega))
    · skip
      have c4' := c4
      rw [← Int32.toInt_inj] at c4'
      have e5 : (1 : Int32).toInt = 1 := rfl
      refine y_bi (y_X9_pop (by omega) (by omega)) (fun r_31 h_r_31 => ?_)
      obtain ⟨h0_r_31, h1_r_31⟩ := h_r_31
      refine y_if (fun c6 => ?_) (fun c6 => ?_)
      · skip
        have c6' := c6
        rw [← Int32.toInt_inj] at c6'
        refine y_some ?_
        try dsimp only
        refine ⟨?_, ?_⟩ <;> (first | with_reducible assumption | omega | ((with_reducible refine y_Vl ?_ ?_) <;> omega) | ((with_reducible refine y_V8 ?_) <;> (first | with_reducible assumption | (unfold y_Tr; omega))) | ((with_reducible refine y_Tr4 ?_ ?_) <;> (first | with_reducible assumption | omega)) | ((with_reducible refine (y_Tr4 ?_ ?_).ty) <;> (first | with_reducible assumption | omega)) | (unfold y_Ty; omega) | (unfold y_Tr; omega))
      · skip
        have c6' := c6
        rw [← Int32.toInt_inj] at c6'
        try have e7 := @y_subL p1 (79 : Int32) (79) rfl (by omega) (by omega)
        refine y_bi (y_X9_array (by omega) (by omega) (by first | with_reducible assumption | omega | ((with_reducible refine y_Vl ?_ ?_) <;> omega) | ((with_reducible refine y_V8 ?_) <;> (first | with_reducible assumption | (unfold y_Tr; omega))) | ((with_reducible refine y_Tr4 ?_ ?_) <;> (first | with_reducible assumption | omega)) | ((with_reducible refine (y_Tr4 ?_ ?_).ty) <;> (first | with_reducible assumption | omega)) | (unfold y_Ty; omega) | (unfold y_Tr; omega))) (fun r_33 h_r_33 => ?_)
        obtain ⟨h0_r_33, h1_r_33, h2_r_33⟩ := h_r_33
        refine y_if (fun c8 => ?_) (fun c8 => ?_)
        · skip
          have c8' := c8
          rw [← Int32.toInt_inj] at c8'
          refine y_some ?_
          try dsimp only
          refine ⟨?_, ?_⟩ <;> (first | with_reducible assumption | omega | ((with_reducible refine y_Vl ?_ ?_) <;> omega) | ((with_reducible refine y_V8 ?_) <;> (first | with_reducible assumption | (unfold y_Tr; omega))) | ((with_reducible refine y_Tr4 ?_ ?_) <;> (first | with_reducible assumption | omega)) | ((with_reducible refine (y_Tr4 ?_ ?_).ty) <;> (first | with_reducible assumption | omega)) | (unfold y_Ty; omega) | (unfold y_Tr; omega))
        · skip
          have c8' := c8
          rw [← Int32.toInt_inj] at c8'
          refine y_some ?_
          try dsimp only
          refine ⟨?_, ?_⟩ <;> (first | with_reducible assumption | omega | ((with_reducible refine y_Vl ?_ ?_) <;> omega) | ((with_reducible refine y_V8 ?_) <;> (first | with_reducible assumption | (unfold y_Tr; omega))) | ((with_reducible refine y_Tr4 ?_ ?_) <;> (first | with_reducible assumption | omega)) | ((with_reducible refine (y_Tr4 ?_ ?_).ty) <;> (first | with_reducible assumption | omega)) | (unfold y_Ty; omega) | (unfold y_Tr; omega))
  · skip
    have e9 : (83 : Int32).toInt = 83 := rfl
    have c1' := c1
    rw [← Int32.toInt_inj] at c1'
    refine y_if (fun c10 => ?_) (fun c10 => ?_)
    · skip
      have e11 : (80 : Int32).toInt = 80 := rfl
      have c10' := c10
      rw [← Int32.toInt_inj] at c10'
      have e12 : (3 : Int32).toInt = 3 := rfl
      refine y_bi (y_X9_pop (by omega) (by omega)) (fun r_23 h_r_23 => ?_)
      obtain ⟨h0_r_23, h1_r_23⟩ := h_r_23
      refine y_if (fun c13 => ?_) (fun c13 => ?_)
      · skip
        have e14 : (0 : Int32).toInt = 0 := rfl
        have c13' := c13
        rw [← Int32.toInt_inj] at c13'
        refine y_some ?_
        try dsimp only
        refine ⟨?_, ?_⟩ <;> (first | with_reducible assumption | omega | ((with_reducible refine y_Vl ?_ ?_) <;> omega) | ((with_reducible refine y_V8 ?_) <;> (first | with_reducible assumption | (unfold y_Tr; omega))) | ((with_reducible refine y_Tr4 ?_ ?_) <;> (first | with_reducible assumption | omega)) | ((with_reducible refine (y_Tr4 ?_ ?_).ty) <;> (first | with_reducible assumption | omega)) | (unfold y_Ty; omega) | (unfold y_Tr; omega))
      · skip
        have e15 : (0 : Int32).toInt = 0 := rfl
        have c13' := c13
        rw [← Int32.toInt_inj] at c13'
        have e16 : (1 : Int32).toInt = 1 := rfl
        refine y_bi (y_X9_pop (by omega) (by omega)) (fun r_25 h_r_25 => ?_)
        obtain ⟨h0_r_25, h1_r_25⟩ := h_r_25
        refine y_if (fun c17 => ?_) (fun c17 => ?_)
        · skip
          have c17' := c17
          rw [← Int32.toInt_inj] at c17'
          refine y_some ?_
          try dsimp only
          refine ⟨?_, ?_⟩ <;> (first | with_reducible assumption | omega | ((with_reducible refine y_Vl ?_ ?_) <;> omega) | ((with_reducible refine y_V8 ?_) <;> (first | with_reducible assumption | (unfold y_Tr; omega))) | ((with_reducible refine y_Tr4 ?_ ?_) <;> (first | with_reducible assumption | omega)) | ((with_reducible refine (y_Tr4 ?_ ?_).ty) <;> (first | with_reducible assumption | omega)) | (unfold y_Ty; omega) | (unfold y_Tr; omega))
        · skip
          have c17' := c17
          rw [← Int32.toInt_inj] at c17'
          try have e18 := @y_subL p1 (79 : Int32) (79) rfl (by omega) (by omega)
          refine y_bi (y_X9_array (by omega) (by omega) (by first | with_reducible assumption | omega | ((with_reducible refine y_Vl ?_ ?_) <;> omega) | ((with_reducible refine y_V8 ?_) <;> (first | with_reducible assumption | (unfold y_Tr; omega))) | ((with_reducible refine y_Tr4 ?_ ?_) <;> (first | with_reducible assumption | omega)) | ((with_reducible refine (y_Tr4 ?_ ?_).ty) <;> (first | with_reducible assumption | omega)) | (unfold y_Ty; omega) | (unfold y_Tr; omega))) (fun r_27 h_r_27 => ?_)
          obtain ⟨h0_r_27, h1_r_27, h2_r_27⟩ := h_r_27
          refine y_if (fun c19 => ?_) (fun c19 => ?_)
          · skip
            have c19' := c19
            rw [← Int32.toInt_inj] at c19'
            refine y_some ?_
            try dsimp only
            refine ⟨?_, ?_⟩ <;> (first | with_reducible assumption | omega | ((with_reducible refine y_Vl ?_ ?_) <;> omega) | ((with_reducible refine y_V8 ?_) <;> (first | with_reducible assumption | (unfold y_Tr; omega))) | ((with_reducible refine y_Tr4 ?_ ?_) <;> (first | with_reducible assumption | omega)) | ((with_reducible refine (y_Tr4 ?_ ?_).ty) <;> (first | with_reducible assumption | omega)) | (unfold y_Ty; omega) | (unfold y_Tr; omega))
          · skip
            have c19' := c19
            rw [← Int32.toInt_inj] at c19'
            refine y_some ?_
            try dsimp only
            refine ⟨?_, ?_⟩ <;> (first | with_reducible assumption | omega | ((with_reducible refine y_Vl ?_ ?_) <;> omega) | ((with_reducible refine y_V8 ?_) <;> (first | with_reducible assumption | (unfold y_Tr; omega))) | ((with_reducible refine y_Tr4 ?_ ?_) <;> (first | with_reducible assumption | omega)) | ((with_reducible refine (y_Tr4 ?_ ?_).ty) <;> (first | with_reducible assumption | omega)) | (unfold y_Ty; omega) | (unfold y_Tr; omega))
    · skip
      have e20 : (80 : Int32).toInt = 80 := rfl
      have c10' := c10
      rw [← Int32.toInt_inj] at c10'
      refine y_if (fun c21 => ?_) (fun c21 => ?_)
      · skip
        have e22 : (81 : Int32).toInt = 81 := rfl
        have c21' := c21
        rw [← Int32.toInt_inj] at c21'
        have e23 : (2 : Int32).toInt = 2 := rfl
        refine y_bi (y_X9_pop (by omega) (by omega)) (fun r_17 h_r_17 => ?_)
        obtain ⟨h0_r_17, h1_r_17⟩ := h_r_17
        refine y_if (fun c24 => ?_) (fun c24 => ?_)
        · skip
          have e25 : (0 : Int32).toInt = 0 := rfl
          have c24' := c24
          rw [← Int32.toInt_inj] at c24'
          refine y_some ?_
          try dsimp only
          refine ⟨?_, ?_⟩ <;> (first | with_reducible assumption | omega | ((with_reducible refine y_Vl ?_ ?_) <;> omega) | ((with_reducible refine y_V8 ?_) <;> (first | with_reducible assumption | (unfold y_Tr; omega))) | ((with_reducible refine y_Tr4 ?_ ?_) <;> (first | with_reducible assumption | omega)) | ((with_reducible refine (y_Tr4 ?_ ?_).ty) <;> (first | with_reducible assumption | omega)) | (unfold y_Ty; omega) | (unfold y_Tr; omega))
        · skip
          have e26 : (0 : Int32).toInt = 0 := rfl
          have c24' := c24
          rw [← Int32.toInt_inj] at c24'
          have e27 : (1 : Int32).toInt = 1 := rfl
          refine y_bi (y_X9_pop (by omega) (by omega)) (fun r_19 h_r_19 => ?_)
          obtain ⟨h0_r_19, h1_r_19⟩ := h_r_19
          refine y_if (fun c28 => ?_) (fun c28 => ?_)
          · skip
            have c28' := c28
            rw [← Int32.toInt_inj] at c28'
            refine y_some ?_
            try dsimp only
            refine ⟨?_, ?_⟩ <;> (first | with_reducible assumption | omega | ((with_reducible refine y_Vl ?_ ?_) <;> omega) | ((with_reducible refine y_V8 ?_) <;> (first | with_reducible assumption | (unfold y_Tr; omega))) | ((with_reducible refine y_Tr4 ?_ ?_) <;> (first | with_reducible assumption | omega)) | ((with_reducible refine (y_Tr4 ?_ ?_).ty) <;> (first | with_reducible assumption | omega)) | (unfold y_Ty; omega) | (unfold y_Tr; omega))
          · skip
            have c28' := c28
            rw [← Int32.toInt_inj] at c28'
            try have e29 := @y_subL p1 (79 : Int32) (79) rfl (by omega) (by omega)
            refine y_bi (y_X9_array (by omega) (by omega) (by first | with_reducible assumption | omega | ((with_reducible refine y_Vl ?_ ?_) <;> omega) | ((with_reducible refine y_V8 ?_) <;> (first | with_reducible assumption | (unfold y_Tr; omega))) | ((with_reducible refine y_Tr4 ?_ ?_) <;> (first | with_reducible assumption | omega)) | ((with_reducible refine (y_Tr4 ?_ ?_).ty) <;> (first | with_reducible assumption | omega)) | (unfold y_Ty; omega) | (unfold y_Tr; omega))) (fun r_21 h_r_21 => ?_)
            obtain ⟨h0_r_21, h1_r_21, h2_r_21⟩ := h_r_21
            refine y_if (fun c30 => ?_) (fun c30 => ?_)
            · skip
              have c30' := c30
              rw [← Int32.toInt_inj] at c30'
              refine y_some ?_
              try dsimp only
              refine ⟨?_, ?_⟩ <;> (first | with_reducible assumption | omega | ((with_reducible refine y_Vl ?_ ?_) <;> omega) | ((with_reducible refine y_V8 ?_) <;> (first | with_reducible assumption | (unfold y_Tr; omega))) | ((with_reducible refine y_Tr4 ?_ ?_) <;> (first | with_reducible assumption | omega)) | ((with_reducible refine (y_Tr4 ?_ ?_).ty) <;> (first | with_reducible assumption | omega)) | (unfold y_Ty; omega) | (unfold y_Tr; omega))
            · skip
              have c30' := c30
              rw [← Int32.toInt_inj] at c30'
              refine y_some ?_
              try dsimp only
              refine ⟨?_, ?_⟩ <;> (first | with_reducible assumption | omega | ((with_reducible refine y_Vl ?_ ?_) <;> omega) | ((with_reducible refine y_V8 ?_) <;> (first | with_reducible assumption | (unfold y_Tr; omega))) | ((with_reducible refine y_Tr4 ?_ ?_) <;> (first | with_reducible assumption | omega)) | ((with_reducible refine (y_Tr4 ?_ ?_).ty) <;> (first | with_reducible assumption | omega)) | (unfold y_Ty; omega) | (unfold y_Tr; omega))
      · skip
        have e31 : (81 : Int32).toInt = 81 := rfl
        have c21' := c21
        rw [← Int32.toInt_inj] at c21'
        refine y_if (fun c32 => ?_) (fun c32 => ?_)
        · skip
          have e33 : (82 : Int32).toInt = 82 := rfl
          have c32' := c32
          rw [← Int32.toInt_inj] at c32'
          have e34 : (4 : Int32).toInt = 4 := rfl
          refine y_bi (y_X9_pop (by omega) (by omega)) (fun r_11 h_r_11 => ?_)
          obtain ⟨h0_r_11, h1_r_11⟩ := h_r_11
          refine y_if (fun c35 => ?_) (fun c35 => ?_)
          · skip
            have e36 : (0 : Int32).toInt = 0 := rfl
            have c35' := c35
            rw [← Int32.toInt_inj] at c35'
            refine y_some ?_
            try dsimp only
            refine ⟨?_, ?_⟩ <;> (first | with_reducible assumption | omega | ((with_reducible refine y_Vl ?_ ?_) <;> omega) | ((with_reducible refine y_V8 ?_) <;> (first | with_reducible assumption | (unfold y_Tr; omega))) | ((with_reducible refine y_Tr4 ?_ ?_) <;> (first | with_reducible assumption | omega)) | ((with_reducible refine (y_Tr4 ?_ ?_).ty) <;> (first | with_reducible assumption | omega)) | (unfold y_Ty; omega) | (unfold y_Tr; omega))
          · skip
            have e37 : (0 : Int32).toInt = 0 := rfl
            have c35' := c35
            rw [← Int32.toInt_inj] at c35'
            have e38 : (1 : Int32).toInt = 1 := rfl
            refine y_bi (y_X9_pop (by omega) (by omega)) (fun r_13 h_r_13 => ?_)
            obtain ⟨h0_r_13, h1_r_13⟩ := h_r_13
            refine y_if (fun c39 => ?_) (fun c39 => ?_)
            · skip
              have c39' := c39
              rw [← Int32.toInt_inj] at c39'
              refine y_some ?_
              try dsimp only
              refine ⟨?_, ?_⟩ <;> (first | with_reducible assumption | omega | ((with_reducible refine y_Vl ?_ ?_) <;> omega) | ((with_reducible refine y_V8 ?_) <;> (first | with_reducible assumption | (unfold y_Tr; omega))) | ((with_reducible refine y_Tr4 ?_ ?_) <;> (first | with_reducible assumption | omega)) | ((with_reducible refine (y_Tr4 ?_ ?_).ty) <;> (first | with_reducible assumption | omega)) | (unfold y_Ty; omega) | (unfold y_Tr; omega))
            · skip
              have c39' := c39
              rw [← Int32.toInt_inj] at c39'
              try have e40 := @y_subL p1 (79 : Int32) (79) rfl (by omega) (by omega)
              refine y_bi (y_X9_array (by omega) (by omega) (by first | with_reducible assumption | omega | ((with_reducible refine y_Vl ?_ ?_) <;> omega) | ((with_reducible refine y_V8 ?_) <;> (first | with_reducible assumption | (unfold y_Tr; omega))) | ((with_reducible refine y_Tr4 ?_ ?_) <;> (first | with_reducible assumption | omega)) | ((with_reducible refine (y_Tr4 ?_ ?_).ty) <;> (first | with_reducible assumption | omega)) | (unfold y_Ty; omega) | (unfold y_Tr; omega))) (fun r_15 h_r_15 => ?_)
              obtain ⟨h0_r_15, h1_r_15, h2_r_15⟩ := h_r_15
              refine y_if (fun c41 => ?_) (fun c41 => ?_)
              · skip
                have c41' := c41
                rw [← Int32.toInt_inj] at c41'
                refine y_some ?_
                try dsimp only
                refine ⟨?_, ?_⟩ <;> (first | with_reducible assumption | omega | ((with_reducible refine y_Vl ?_ ?_) <;> omega) | ((with_reducible refine y_V8 ?_) <;> (first | with_reducible assumption | (unfold y_Tr; omega))) | ((with_reducible refine y_Tr4 ?_ ?_) <;> (first | with_reducible assumption | omega)) | ((with_reducible refine (y_Tr4 ?_ ?_).ty) <;> (first | with_reducible assumption | omega)) | (unfold y_Ty; omega) | (unfold y_Tr; omega))
              · skip
                have c41' := c41
                rw [← Int32.toInt_inj] at c41'
                refine y_some ?_
                try dsimp only
                refine ⟨?_, ?_⟩ <;> (first | with_reducible assumption | omega | ((with_reducible refine y_Vl ?_ ?_) <;> omega) | ((with_reducible refine y_V8 ?_) <;> (first | with_reducible assumption | (unfold y_Tr; omega))) | ((with_reducible refine y_Tr4 ?_ ?_) <;> (first | with_reducible assumption | omega)) | ((with_reducible refine (y_Tr4 ?_ ?_).ty) <;> (first | with_reducible assumption | omega)) | (unfold y_Ty; omega) | (unfold y_Tr; omega))
        · skip
          have e42 : (82 : Int32).toInt = 82 := rfl
          have c32' := c32
          rw [← Int32.toInt_inj] at c32'
          have e43 : (1 : Int32).toInt = 1 := rfl
          refine y_bi (y_X9_pop (by omega) (by omega)) (fun r_5 h_r_5 => ?_)
          obtain ⟨h0_r_5, h1_r_5⟩ := h_r_5
          refine y_if (fun c44 => ?_) (fun c44 => ?_)
          · skip
            have e45 : (0 : Int32).toInt = 0 := rfl
            have c44' := c44
            rw [← Int32.toInt_inj] at c44'
            refine y_some ?_
            try dsimp only
            refine ⟨?_, ?_⟩ <;> (first | with_reducible assumption | omega | ((with_reducible refine y_Vl ?_ ?_) <;> omega) | ((with_reducible refine y_V8 ?_) <;> (first | with_reducible assumption | (unfold y_Tr; omega))) | ((with_reducible refine y_Tr4 ?_ ?_) <;> (first | with_reducible assumption | omega)) | ((with_reducible refine (y_Tr4 ?_ ?_).ty) <;> (first | with_reducible assumption | omega)) | (unfold y_Ty; omega) | (unfold y_Tr; omega))
          · skip
            have e46 : (0 : Int32).toInt = 0 := rfl
            have c44' := c44
            rw [← Int32.toInt_inj] at c44'
            refine y_bi (y_X9_pop (by omega) (by omega)) (fun r_7 h_r_7 => ?_)
            obtain ⟨h0_r_7, h1_r_7⟩ := h_r_7
            refine y_if (fun c47 => ?_) (fun c47 => ?_)
            · skip
              have c47' := c47
              rw [← Int32.toInt_inj] at c47'
              refine y_some ?_
              try dsimp only
              refine ⟨?_, ?_⟩ <;> (first | with_reducible assumption | omega | ((with_reducible refine y_Vl ?_ ?_) <;> omega) | ((with_reducible refine y_V8 ?_) <;> (first | with_reducible assumption | (unfold y_Tr; omega))) | ((with_reducible refine y_Tr4 ?_ ?_) <;> (first | with_reducible assumption | omega)) | ((with_reducible refine (y_Tr4 ?_ ?_).ty) <;> (first | with_reducible assumption | omega)) | (unfold y_Ty; omega) | (unfold y_Tr; omega))
            · skip
              have c47' := c47
              rw [← Int32.toInt_inj] at c47'
              try have e48 := @y_subL p1 (79 : Int32) (79) rfl (by omega) (by omega)
              refine y_bi (y_X9_array (by omega) (by omega) (by first | with_reducible assumption | omega | ((with_reducible refine y_Vl ?_ ?_) <;> omega) | ((with_reducible refine y_V8 ?_) <;> (first | with_reducible assumption | (unfold y_Tr; omega))) | ((with_reducible refine y_Tr4 ?_ ?_) <;> (first | with_reducible assumption | omega)) | ((with_reducible refine (y_Tr4 ?_ ?_).ty) <;> (first | with_reducible assumption | omega)) | (unfold y_Ty; omega) | (unfold y_Tr; omega))) (fun r_9 h_r_9 => ?_)
              obtain ⟨h0_r_9, h1_r_9, h2_r_9⟩ := h_r_9
              refine y_if (fun c49 => ?_) (fun c49 => ?_)
              · skip
                have c49' := c49
                rw [← Int32.toInt_inj] at c49'
                refine y_some ?_
                try dsimp only
                refine ⟨?_, ?_⟩ <;> (first | with_reducible assumption | omega | ((with_reducible refine y_Vl ?_ ?_) <;> omega) | ((with_reducible refine y_V8 ?_) <;> (first | with_reducible assumption | (unfold y_Tr; omega))) | ((with_reducible refine y_Tr4 ?_ ?_) <;> (first | with_reducible assumption | omega)) | ((with_reducible refine (y_Tr4 ?_ ?_).ty) <;> (first | with_reducible assumption | omega)) | (unfold y_Ty; omega) | (unfold y_Tr; omega))
              · skip
                have c49' := c49
                rw [← Int32.toInt_inj] at c49'
                refine y_some ?_
                try dsimp only
                refine ⟨?_, ?_⟩ <;> (first | with_reducible assumption | omega | ((with_reducible refine y_Vl ?_ ?_) <;> omega) | ((with_reducible refine y_V8 ?_) <;> (first | with_reducible assumption | (unfold y_Tr; omega))) | ((with_reducible refine y_Tr4 ?_ ?_) <;> (first | with_reducible assumption | omega)) | ((with_reducible refine (y_Tr4 ?_ ?_).ty) <;> (first | with_reducible assumption | omega)) | (unfold y_Ty; omega) | (unfold y_Tr; omega))
set_option maxHeartbeats 4000000 in
theorem y_X9_moves_L_8 {v9_17 : Int32} {v9_35 : Int32} {l1 : Int32} {l2 : Int32} {l3 : Int32} {l4 : Int32} {l5 : Int32} {l6 : Int32} {l7 : Int32} {g9_34 : Nat → Int32} {g9_61 : Nat → Int32} (k0 : 0 ≤ v9_35.toInt) (k1 : v9_35.toInt ≤ v9_17.toInt) (k2 : v9_17.toInt ≤ 200) (k3 : y_AV 202 g9_34) (k4 : y_AV 2 g9_61) (k5 : 1 ≤ l4.toInt) (k6 : l4.toInt ≤ 2) (k7 : v9_35.toInt + l4.toInt ≤ v9_17.toInt) : y_Ok (f_X9_moves_L v9_17 v9_35 (8, l1, l2, l3, l4, l5, l6, l7, g9_34, g9_61)) (fun r => (0 ≤ r.2.1.toInt) ∧ (r.2.1.toInt ≤ v9_17.toInt) ∧ (y_AV 202 r.2.2.1) ∧ (y_AV 2 r.2.2.2)) := by
  rw [f_X9_moves_L]
  refine y_in (by decide) ?_
  refine y_in (by decide) ?_
  refine y_in (by decide) ?_
  refine y_in (by decide) ?_
  refine y_in (by decide) ?_
  refine y_in (by decide) ?_
  refine y_in (by decide) ?_
  refine y_in (by decide) ?_
  refine y_ip rfl ?_
  have e1 : (1 : Int32).toInt = 1 := rfl
  try have e2 := @y_add v9_35 l4 (by omega) (by omega)
  refine y_some ?_
  try dsimp only
  refine ⟨?_, ?_, ?_, ?_⟩ <;> (first | with_reducible assumption | omega | ((with_reducible refine y_Vl ?_ ?_) <;> omega))
set_option maxHeartbeats 4000000 in
theorem y_X9_moves_L_7_i {v9_17 : Int32} {v9_35 : Int32} (k0 : 0 ≤ v9_35.toInt) (k1 : v9_35.toInt ≤ v9_17.toInt) (k2 : v9_17.toInt ≤ 200) : ∀ (m : Nat) {l1 : Int32} {l2 : Int32} {l3 : Int32} {l4 : Int32} {l5 : Int32} {l6 : Int32} {l7 : Int32} {g9_34 : Nat → Int32} {g9_61 : Nat → Int32}, (y_AV 202 g9_34) → (y_AV 2 g9_61) → (1 ≤ l4.toInt) → (l4.toInt ≤ 2) → (0 ≤ l5.toInt) → (l5.toInt ≤ 2) → (y_V l2) → (y_V l3) → (v9_35.toInt + l4.toInt ≤ v9_17.toInt) → (l6.toInt = v9_35.toInt - l4.toInt - l5.toInt) → (0 ≤ l6.toInt) → (0 ≤ l7.toInt) → (l7.toInt ≤ l5.toInt) → l5.toInt - l7.toInt < m → y_Ok (f_X9_moves_L v9_17 v9_35 (7, l1, l2, l3, l4, l5, l6, l7, g9_34, g9_61)) (fun r => (0 ≤ r.2.1.toInt) ∧ (r.2.1.toInt ≤ v9_17.toInt) ∧ (y_AV 202 r.2.2.1) ∧ (y_AV 2 r.2.2.2)) := by
  intro m
  induction m with
  | zero => intro l1 l2 l3 l4 l5 l6 l7 g9_34 g9_61 k3 k4 k5 k6 k7 k8 k9 k10 k11 k12 k13 k14 k15 hm; exfalso; omega
  | succ m ih =>
    intro l1 l2 l3 l4 l5 l6 l7 g9_34 g9_61 k3 k4 k5 k6 k7 k8 k9 k10 k11 k12 k13 k14 k15 hm
    rw [f_X9_moves_L]
    refine y_in (by decide) ?_
    refine y_in (by decide) ?_
    refine y_in (by decide) ?_
    refine y_in (by decide) ?_
    refine y_in (by decide) ?_
    refine y_in (by decide) ?_
    refine y_in (by decide) ?_
    refine y_ip rfl ?_
    refine y_if (fun c1 => ?_) (fun c1 => ?_)
    · skip
      have c1' := c1
      rw [Int32.le_iff_toInt_le] at c1'
      refine y_if (fun c2 => ?_) (fun c2 => ?_)
      · skip
        have e3 : (1 : Int32).toInt = 1 := rfl
        have c2' := c2
        rw [← Int32.toInt_inj] at c2'
        try have e4 := @y_add l6 l5 (by omega) (by omega)
        try have e5 := @y_addL (l6 + l5) (1 : Int32) (1) rfl (by omega) (by omega)
        refine y_gd (y_gdI (by omega) (by omega)) ?_
        have e6 : (0 : Int32).toInt = 0 := rfl
        try have e7 := @y_cl ((l6 + l5) + (1 : Int32)) (by omega)
        try have e8 : y_AV 202 (upd g9_34 (Int32.toNatClampNeg ((l6 + l5) + (1 : Int32))) l2) := y_AV_upd k3 (by first | with_reducible assumption | omega | ((with_reducible refine y_Vl ?_ ?_) <;> omega))
        refine y_Ok.mono (y_X9_moves_L_8 (l1 := 0) (l2 := 0) (l3 := 0) (l4 := l4) (l5 := 0) (l6 := 0) (l7 := 0) (g9_34 := (upd g9_34 (Int32.toNatClampNeg ((l6 + l5) + (1 : Int32))) l2)) (g9_61 := g9_61) (by omega) (by omega) (by omega) (by first | with_reducible assumption | omega | ((with_reducible refine y_Vl ?_ ?_) <;> omega)) (by first | with_reducible assumption | omega | ((with_reducible refine y_Vl ?_ ?_) <;> omega)) (by omega) (by omega) (by omega)) (fun r_t8 h_r_t8 => ?_)
        obtain ⟨h0_r_t8, h1_r_t8, h2_r_t8, h3_r_t8⟩ := h_r_t8
        refine ⟨?_, ?_, ?_, ?_⟩ <;> (first | with_reducible assumption | omega | ((with_reducible refine y_Vl ?_ ?_) <;> omega))
      · skip
        have e10 : (1 : Int32).toInt = 1 := rfl
        have c2' := c2
        rw [← Int32.toInt_inj] at c2'
        try have e11 := @y_add l6 l5 (by omega) (by omega)
        try have e12 := @y_addL (l6 + l5) (2 : Int32) (2) rfl (by omega) (by omega)
        refine y_gd (y_gdI (by omega) (by omega)) ?_
        try have e13 := @y_addL (l6 + l5) (3 : Int32) (3) rfl (by omega) (by omega)
        refine y_gd (y_gdI (by omega) (by omega)) ?_
        have e14 : (0 : Int32).toInt = 0 := rfl
        try have e15 := @y_cl ((l6 + l5) + (2 : Int32)) (by omega)
        try have e16 : y_AV 202 (upd g9_34 (Int32.toNatClampNeg ((l6 + l5) + (2 : Int32))) l3) := y_AV_upd k3 (by first | with_reducible assumption | omega | ((with_reducible refine y_Vl ?_ ?_) <;> omega))
        try have e17 := @y_cl ((l6 + l5) + (3 : Int32)) (by omega)
        try have e18 : y_AV 202 (upd (upd g9_34 (Int32.toNatClampNeg ((l6 + l5) + (2 : Int32))) l3) (Int32.toNatClampNeg ((l6 + l5) + (3 : Int32))) l2) := y_AV_upd e16 (by first | with_reducible assumption | omega | ((with_reducible refine y_Vl ?_ ?_) <;> omega))
        refine y_Ok.mono (y_X9_moves_L_8 (l1 := 0) (l2 := 0) (l3 := 0) (l4 := l4) (l5 := 0) (l6 := 0) (l7 := 0) (g9_34 := (upd (upd g9_34 (Int32.toNatClampNeg ((l6 + l5) + (2 : Int32))) l3) (Int32.toNatClampNeg ((l6 + l5) + (3 : Int32))) l2)) (g9_61 := g9_61) (by omega) (by omega) (by omega) (by first | with_reducible assumption | omega | ((with_reducible refine y_Vl ?_ ?_) <;> omega)) (by first | with_reducible assumption | omega | ((with_reducible refine y_Vl ?_ ?_) <;> omega)) (by omega) (by omega) (by omega)) (fun r_t18 h_r_t18 => ?_)
        obtain ⟨h0_r_t18, h1_r_t18, h2_r_t18, h3_r_t18⟩ := h_r_t18
        refine ⟨?_, ?_, ?_, ?_⟩ <;> (first | with_reducible assumption | omega | ((with_reducible refine y_Vl ?_ ?_) <;> omega))
    · skip
      have c1' := c1
      rw [Int32.le_iff_toInt_le] at c1'
      refine y_gd (y_gdI (by omega) (by omega)) ?_
      try have e20 := @y_add l6 l4 (by omega) (by omega)
      try have e21 := @y_add (l6 + l4) l7 (by omega) (by omega)
      refine y_gd (y_gdI (by omega) (by omega)) ?_
      have e22 : (0 : Int32).toInt = 0 := rfl
      try have e23 := @y_addL l7 (1 : Int32) (1) rfl (by omega) (by omega)
      try have e24 := @y_cl ((l6 + l4) + l7) (by omega)
      try have e25 := @y_cl l7 (by omega)
      try have e26 := k4.at (Int32.toNatClampNeg l7) (by omega)
      try have e27 := e26.b
      try have e28 : y_AV 202 (upd g9_34 (Int32.toNatClampNeg ((l6 + l4) + l7)) (g9_61 (Int32.toNatClampNeg l7))) := y_AV_upd k3 (by first | with_reducible assumption | omega | ((with_reducible refine y_Vl ?_ ?_) <;> omega))
      exact ih (l1 := 0) (l2 := l2) (l3 := l3) (l4 := l4) (l5 := l5) (l6 := l6) (l7 := (l7 + 1)) (g9_34 := (upd g9_34 (Int32.toNatClampNeg ((l6 + l4) + l7)) (g9_61 (Int32.toNatClampNeg l7)))) (g9_61 := g9_61) (by first | with_reducible assumption | omega | ((with_reducible refine y_Vl ?_ ?_) <;> omega)) (by first | with_reducible assumption | omega | ((with_reducible refine y_Vl ?_ ?_) <;> omega)) (by omega) (by omega) (by omega) (by omega) (by first | with_reducible assumption | omega | ((with_reducible refine y_Vl ?_ ?_) <;> omega)) (by first | with_reducible assumption | omega | ((with_reducible refine y_Vl ?_ ?_) <;> omega)) (by omega) (by omega) (by omega) (by omega) (by omega) (by omega)
theorem y_X9_moves_L_7 {v9_17 : Int32} {v9_35 : Int32} {l1 : Int32} {l2 : Int32} {l3 : Int32} {l4 : Int32} {l5 : Int32} {l6 : Int32} {l7 : Int32} {g9_34 : Nat → Int32} {g9_61 : Nat → Int32} (k0 : 0 ≤ v9_35.toInt) (k1 : v9_35.toInt ≤ v9_17.toInt) (k2 : v9_17.toInt ≤ 200) (k3 : y_AV 202 g9_34) (k4 : y_AV 2 g9_61) (k5 : 1 ≤ l4.toInt) (k6 : l4.toInt ≤ 2) (k7 : 0 ≤ l5.toInt) (k8 : l5.toInt ≤ 2) (k9 : y_V l2) (k10 : y_V l3) (k11 : v9_35.toInt + l4.toInt ≤ v9_17.toInt) (k12 : l6.toInt = v9_35.toInt - l4.toInt - l5.toInt) (k13 : 0 ≤ l6.toInt) (k14 : 0 ≤ l7.toInt) (k15 : l7.toInt ≤ l5.toInt) : y_Ok (f_X9_moves_L v9_17 v9_35 (7, l1, l2, l3, l4, l5, l6, l7, g9_34, g9_61)) (fun r => (0 ≤ r.2.1.toInt) ∧ (r.2.1.toInt ≤ v9_17.toInt) ∧ (y_AV 202 r.2.2.1) ∧ (y_AV 2 r.2.2.2)) := y_X9_moves_L_7_i k0 k1 k2 (l5.toInt - l7.toInt + 1).toNat k3 k4 k5 k6 k7 k8 k9 k10 k11 k12 k13 k14 k15 (by omega)
set_option maxHeartbeats 4000000 in
theorem y_X9_moves_L_5_i {v9_17 : Int32} {v9_35 : Int32} (k0 : 0 ≤ v9_35.toInt) (k1 : v9_35.toInt ≤ v9_17.toInt) (k2 : v9_17.toInt ≤ 200) : ∀ (m : Nat) {l1 : Int32} {l2 : Int32} {l3 : Int32} {l4 : Int32} {l5 : Int32} {l6 : Int32} {l7 : Int32} {g9_34 : Nat → Int32} {g9_61 : Nat → Int32}, (y_AV 202 g9_34) → (y_AV 2 g9_61) → (1 ≤ l4.toInt) → (l4.toInt ≤ 2) → (0 ≤ l5.toInt) → (l5.toInt ≤ 2) → (y_V l2) → (y_V l3) → (v9_35.toInt + l4.toInt ≤ v9_17.toInt) → (l6.toInt = v9_35.toInt - l4.toInt - l5.toInt) → (0 ≤ l6.toInt) → (0 ≤ l7.toInt) → (l7.toInt ≤ l5.toInt) → l5.toInt - l7.toInt < m → y_Ok (f_X9_moves_L v9_17 v9_35 (5, l1, l2, l3, l4, l5, l6, l7, g9_34, g9_61)) (fun r => (0 ≤ r.2.1.toInt) ∧ (r.2.1.toInt ≤ v9_17.toInt) ∧ (y_AV 202 r.2.2.1) ∧ (y_AV 2 r.2.2.2)) := by
  intro m
  induction m with
  | zero => intro l1 l2 l3 l4 l5 l6 l7 g9_34 g9_61 k3 k4 k5 k6 k7 k8 k9 k10 k11 k12 k13 k14 k15 hm; exfalso; omega
  | succ m ih =>
    intro l1 l2 l3 l4 l5 l6 l7 g9_34 g9_61 k3 k4 k5 k6 k7 k8 k9 k10 k11 k12 k13 k14 k15 hm
    rw [f_X9_moves_L]
    refine y_in (by decide) ?_
    refine y_in (by decide) ?_
    refine y_in (by decide) ?_
    refine y_in (by decide) ?_
    refine y_in (by decide) ?_
    refine y_ip rfl ?_
    refine y_if (fun c1 => ?_) (fun c1 => ?_)
    · skip
      have c1' := c1
      rw [Int32.le_iff_toInt_le] at c1'
      refine y_if (fun c2 => ?_) (fun c2 => ?_)
      · skip
        have e3 : (1 : Int32).toInt = 1 := rfl
        have c2' := c2
        rw [← Int32.toInt_inj] at c2'
        refine y_gd (y_gdI (by omega) (by omega)) ?_
        have e4 : (0 : Int32).toInt = 0 := rfl
        try have e5 := @y_cl l6 (by omega)
        try have e6 : y_AV 202 (upd g9_34 (Int32.toNatClampNeg l6) l2) := y_AV_upd k3 (by first | with_reducible assumption | omega | ((with_reducible refine y_Vl ?_ ?_) <;> omega))
        rw [f_X9_moves_L]
        refine y_in (by decide) ?_
        refine y_in (by decide) ?_
        refine y_in (by decide) ?_
        refine y_in (by decide) ?_
        refine y_in (by decide) ?_
        refine y_in (by decide) ?_
        refine y_ip rfl ?_
        refine y_Ok.mono (y_X9_moves_L_7 (l1 := 0) (l2 := l2) (l3 := l3) (l4 := l4) (l5 := l5) (l6 := l6) (l7 := 0) (g9_34 := ((upd g9_34 (Int32.toNatClampNeg l6) l2))) (g9_61 := g9_61) (by omega) (by omega) (by omega) (by first | with_reducible assumption | omega | ((with_reducible refine y_Vl ?_ ?_) <;> omega)) (by first | with_reducible assumption | omega | ((with_reducible refine y_Vl ?_ ?_) <;> omega)) (by omega) (by omega) (by omega) (by omega) (by first | with_reducible assumption | omega | ((with_reducible refine y_Vl ?_ ?_) <;> omega)) (by first | with_reducible assumption | omega | ((with_reducible refine y_Vl ?_ ?_) <;> omega)) (by omega) (by omega) (by omega) (by omega) (by omega)) (fun r_t6 h_r_t6 => ?_)
        obtain ⟨h0_r_t6, h1_r_t6, h2_r_t6, h3_r_t6⟩ := h_r_t6
        refine ⟨?_, ?_, ?_, ?_⟩ <;> (first | with_reducible assumption | omega | ((with_reducible refine y_Vl ?_ ?_) <;> omega))
      · skip
        have e8 : (1 : Int32).toInt = 1 := rfl
        have c2' := c2
        rw [← Int32.toInt_inj] at c2'
        refine y_gd (y_gdI (by omega) (by omega)) ?_
        try have e9 := @y_addL l6 (1 : Int32) (1) rfl (by omega) (by omega)
        refine y_gd (y_gdI (by omega) (by omega)) ?_
        have e10 : (0 : Int32).toInt = 0 := rfl
        try have e11 := @y_cl l6 (by omega)
        try have e12 : y_AV 202 (upd g9_34 (Int32.toNatClampNeg l6) l3) := y_AV_upd k3 (by first | with_reducible assumption | omega | ((with_reducible refine y_Vl ?_ ?_) <;> omega))
        try have e13 := @y_cl (l6 + (1 : Int32)) (by omega)
        try have e14 : y_AV 202 (upd (upd g9_34 (Int32.toNatClampNeg l6) l3) (Int32.toNatClampNeg (l6 + (1 : Int32))) l2) := y_AV_upd e12 (by first | with_reducible assumption | omega | ((with_reducible refine y_Vl ?_ ?_) <;> omega))
        rw [f_X9_moves_L]
        refine y_in (by decide) ?_
        refine y_in (by decide) ?_
        refine y_in (by decide) ?_
        refine y_in (by decide) ?_
        refine y_in (by decide) ?_
        refine y_in (by decide) ?_
        refine y_ip rfl ?_
        refine y_Ok.mono (y_X9_moves_L_7 (l1 := 0) (l2 := l2) (l3 := l3) (l4 := l4) (l5 := l5) (l6 := l6) (l7 := 0) (g9_34 := ((upd (upd g9_34 (Int32.toNatClampNeg l6) l3) (Int32.toNatClampNeg (l6 + (1 : Int32))) l2))) (g9_61 := g9_61) (by omega) (by omega) (by omega) (by first | with_reducible assumption | omega | ((with_reducible refine y_Vl ?_ ?_) <;> omega)) (by first | with_reducible assumption | omega | ((with_reducible refine y_Vl ?_ ?_) <;> omega)) (by omega) (by omega) (by omega) (by omega) (by first | with_reducible assumption | omega | ((with_reducible refine y_Vl ?_ ?_) <;> omega)) (by first | with_reducible assumption | omega | ((with_reducible refine y_Vl ?_ ?_) <;> omega)) (by omega) (by omega) (by omega) (by omega) (by omega)) (fun r_t14 h_r_t14 => ?_)
        obtain ⟨h0_r_t14, h1_r_t14, h2_r_t14, h3_r_t14⟩ := h_r_t14
        refine ⟨?_, ?_, ?_, ?_⟩ <;> (first | with_reducible assumption | omega | ((with_reducible refine y_Vl ?_ ?_) <;> omega))
    · skip
      have c1' := c1
      rw [Int32.le_iff_toInt_le] at c1'
      try have e16 := @y_add l6 l7 (by omega) (by omega)
      refine y_gd (y_gdI (by omega) (by omega)) ?_
      refine y_gd (y_gdI (by omega) (by omega)) ?_
      have e17 : (0 : Int32).toInt = 0 := rfl
      try have e18 := @y_addL l7 (1 : Int32) (1) rfl (by omega) (by omega)
      try have e19 := @y_cl l7 (by omega)
      try have e20 := @y_cl (l6 + l7) (by omega)
      try have e21 := k3.at (Int32.toNatClampNeg (l6 + l7)) (by omega)
      try have e22 := e21.b
      try have e23 : y_AV 2 (upd g9_61 (Int32.toNatClampNeg l7) (g9_34 (Int32.toNatClampNeg (l6 + l7)))) := y_AV_upd k4 (by first | with_reducible assumption | omega | ((with_reducible refine y_Vl ?_ ?_) <;> omega))
      exact ih (l1 := 0) (l2 := l2) (l3 := l3) (l4 := l4) (l5 := l5) (l6 := l6) (l7 := (l7 + 1)) (g9_34 := g9_34) (g9_61 := (upd g9_61 (Int32.toNatClampNeg l7) (g9_34 (Int32.toNatClampNeg (l6 + l7))))) (by first | with_reducible assumption | omega | ((with_reducible refine y_Vl ?_ ?_) <;> omega)) (by first | with_reducible assumption | omega | ((with_reducible refine y_Vl ?_ ?_) <;> omega)) (by omega) (by omega) (by omega) (by omega) (by first | with_reducible assumption | omega | ((with_reducible refine y_Vl ?_ ?_) <;> omega)) (by first | with_reducible assumption | omega | ((with_reducible refine y_Vl ?_ ?_) <;> omega)) (by omega) (by omega) (by omega) (by omega) (by omega) (by omega)
theorem y_X9_moves_L_5 {v9_17 : Int32} {v9_35 : Int32} {l1 : Int32} {l2 : Int32} {l3 : Int32} {l4 : Int32} {l5 : Int32} {l6 : Int32} {l7 : Int32} {g9_34 : Nat → Int32} {g9_61 : Nat → Int32} (k0 : 0 ≤ v9_35.toInt) (k1 : v9_35.toInt ≤ v9_17.toInt) (k2 : v9_17.toInt ≤ 200) (k3 : y_AV 202 g9_34) (k4 : y_AV 2 g9_61) (k5 : 1 ≤ l4.toInt) (k6 : l4.toInt ≤ 2) (k7 : 0 ≤ l5.toInt) (k8 : l5.toInt ≤ 2) (k9 : y_V l2) (k10 : y_V l3) (k11 : v9_35.toInt + l4.toInt ≤ v9_17.toInt) (k12 : l6.toInt = v9_35.toInt - l4.toInt - l5.toInt) (k13 : 0 ≤ l6.toInt) (k14 : 0 ≤ l7.toInt) (k15 : l7.toInt ≤ l5.toInt) : y_Ok (f_X9_moves_L v9_17 v9_35 (5, l1, l2, l3, l4, l5, l6, l7, g9_34, g9_61)) (fun r => (0 ≤ r.2.1.toInt) ∧ (r.2.1.toInt ≤ v9_17.toInt) ∧ (y_AV 202 r.2.2.1) ∧ (y_AV 2 r.2.2.2)) := y_X9_moves_L_5_i k0 k1 k2 (l5.toInt - l7.toInt + 1).toNat k3 k4 k5 k6 k7 k8 k9 k10 k11 k12 k13 k14 k15 (by omega)
set_option maxHeartbeats 4000000 in
theorem y_X9_moves_L_4 {v9_17 : Int32} {v9_35 : Int32} {l1 : Int32} {l2 : Int32} {l3 : Int32} {l4 : Int32} {l5 : Int32} {l6 : Int32} {l7 : Int32} {g9_34 : Nat → Int32} {g9_61 : Nat → Int32} (k0 : 0 ≤ v9_35.toInt) (k1 : v9_35.toInt ≤ v9_17.toInt) (k2 : v9_17.toInt ≤ 200) (k3 : y_AV 202 g9_34) (k4 : y_AV 2 g9_61) (k5 : 1 ≤ l4.toInt) (k6 : l4.toInt ≤ 2) (k7 : 0 ≤ l5.toInt) (k8 : l5.toInt ≤ 2) (k9 : y_V l2) (k10 : y_V l3) (k11 : l4.toInt + l5.toInt ≤ v9_35.toInt) : y_Ok (f_X9_moves_L v9_17 v9_35 (4, l1, l2, l3, l4, l5, l6, l7, g9_34, g9_61)) (fun r => (0 ≤ r.2.1.toInt) ∧ (r.2.1.toInt ≤ v9_17.toInt) ∧ (y_AV 202 r.2.2.1) ∧ (y_AV 2 r.2.2.2)) := by
  rw [f_X9_moves_L]
  refine y_in (by decide) ?_
  refine y_in (by decide) ?_
  refine y_in (by decide) ?_
  refine y_in (by decide) ?_
  refine y_ip rfl ?_
  refine y_if (fun c1 => ?_) (fun c1 => ?_)
  · skip
    try have e2 := @y_add v9_35 l4 (by omega) (by omega)
    have c1' := c1
    rw [Int32.le_iff_toInt_le] at c1'
    have e3 : (0 : Int32).toInt = 0 := rfl
    try have e4 := @y_sub v9_35 l4 (by omega) (by omega)
    try have e5 := @y_sub (v9_35 - l4) l5 (by omega) (by omega)
    refine y_Ok.mono (y_X9_moves_L_5 (l1 := 0) (l2 := l2) (l3 := l3) (l4 := l4) (l5 := l5) (l6 := ((v9_35 - l4) - l5)) (l7 := 0) (g9_34 := g9_34) (g9_61 := g9_61) (by omega) (by omega) (by omega) (by first | with_reducible assumption | omega | ((with_reducible refine y_Vl ?_ ?_) <;> omega)) (by first | with_reducible assumption | omega | ((with_reducible refine y_Vl ?_ ?_) <;> omega)) (by omega) (by omega) (by omega) (by omega) (by first | with_reducible assumption | omega | ((with_reducible refine y_Vl ?_ ?_) <;> omega)) (by first | with_reducible assumption | omega | ((with_reducible refine y_Vl ?_ ?_) <;> omega)) (by omega) (by omega) (by omega) (by omega) (by omega)) (fun r_t5 h_r_t5 => ?_)
    obtain ⟨h0_r_t5, h1_r_t5, h2_r_t5, h3_r_t5⟩ := h_r_t5
    refine ⟨?_, ?_, ?_, ?_⟩ <;> (first | with_reducible assumption | omega | ((with_reducible refine y_Vl ?_ ?_) <;> omega))
  · skip
    try have e7 := @y_add v9_35 l4 (by omega) (by omega)
    have c1' := c1
    rw [Int32.le_iff_toInt_le] at c1'
    have e8 : (0 : Int32).toInt = 0 := rfl
    refine y_some ?_
    try dsimp only
    refine ⟨?_, ?_, ?_, ?_⟩ <;> (first | with_reducible assumption | omega | ((with_reducible refine y_Vl ?_ ?_) <;> omega))
set_option maxHeartbeats 4000000 in
theorem y_X9_moves_L_3 {v9_17 : Int32} {v9_35 : Int32} {l1 : Int32} {l2 : Int32} {l3 : Int32} {l4 : Int32} {l5 : Int32} {l6 : Int32} {l7 : Int32} {g9_34 : Nat → Int32} {g9_61 : Nat → Int32} (k0 : 0 ≤ v9_35.toInt) (k1 : v9_35.toInt ≤ v9_17.toInt) (k2 : v9_17.toInt ≤ 200) (k3 : y_AV 202 g9_34) (k4 : y_AV 2 g9_61) (k5 : 1 ≤ l4.toInt) (k6 : l4.toInt ≤ 2) (k7 : 0 ≤ l5.toInt) (k8 : l5.toInt ≤ 2) (k9 : y_V l2) (k10 : y_V l3) (k11 : l5.toInt = 2 ∨ l4.toInt + l5.toInt ≤ v9_35.toInt) : y_Ok (f_X9_moves_L v9_17 v9_35 (3, l1, l2, l3, l4, l5, l6, l7, g9_34, g9_61)) (fun r => (0 ≤ r.2.1.toInt) ∧ (r.2.1.toInt ≤ v9_17.toInt) ∧ (y_AV 202 r.2.2.1) ∧ (y_AV 2 r.2.2.2)) := by
  rw [f_X9_moves_L]
  refine y_in (by decide) ?_
  refine y_in (by decide) ?_
  refine y_in (by decide) ?_
  refine y_ip rfl ?_
  refine y_if (fun c1 => ?_) (fun c1 => ?_)
  · skip
    have e2 : (2 : Int32).toInt = 2 := rfl
    have c1' := c1
    rw [← Int32.toInt_inj] at c1'
    try have e3 := @y_addL l4 (2 : Int32) (2) rfl (by omega) (by omega)
    refine y_bi (y_X9_pair (by omega) (by omega) (by omega)) (fun r_10 h_r_10 => ?_)
    have h0_r_10 : r_10.toInt = 0 ∨ (l4 + (2 : Int32)).toInt ≤ v9_35.toInt := h_r_10
    refine y_if (fun c4 => ?_) (fun c4 => ?_)
    · skip
      have e5 : (0 : Int32).toInt = 0 := rfl
      have c4' := c4
      rw [← Int32.toInt_inj] at c4'
      refine y_some ?_
      try dsimp only
      refine ⟨?_, ?_, ?_, ?_⟩ <;> (first | with_reducible assumption | omega | ((with_reducible refine y_Vl ?_ ?_) <;> omega))
    · skip
      have e6 : (0 : Int32).toInt = 0 := rfl
      have c4' := c4
      rw [← Int32.toInt_inj] at c4'
      refine y_Ok.mono (y_X9_moves_L_4 (l1 := 0) (l2 := l2) (l3 := l3) (l4 := l4) (l5 := l5) (l6 := 0) (l7 := 0) (g9_34 := g9_34) (g9_61 := g9_61) (by omega) (by omega) (by omega) (by first | with_reducible assumption | omega | ((with_reducible refine y_Vl ?_ ?_) <;> omega)) (by first | with_reducible assumption | omega | ((with_reducible refine y_Vl ?_ ?_) <;> omega)) (by omega) (by omega) (by omega) (by omega) (by first | with_reducible assumption | omega | ((with_reducible refine y_Vl ?_ ?_) <;> omega)) (by first | with_reducible assumption | omega | ((with_reducible refine y_Vl ?_ ?_) <;> omega)) (by omega)) (fun r_t6 h_r_t6 => ?_)
      obtain ⟨h0_r_t6, h1_r_t6, h2_r_t6, h3_r_t6⟩ := h_r_t6
      refine ⟨?_, ?_, ?_, ?_⟩ <;> (first | with_reducible assumption | omega | ((with_reducible refine y_Vl ?_ ?_) <;> omega))
  · skip
    have e8 : (2 : Int32).toInt = 2 := rfl
    have c1' := c1
    rw [← Int32.toInt_inj] at c1'
    have e9 : (0 : Int32).toInt = 0 := rfl
    refine y_Ok.mono (y_X9_moves_L_4 (l1 := 0) (l2 := l2) (l3 := l3) (l4 := l4) (l5 := l5) (l6 := 0) (l7 := 0) (g9_34 := g9_34) (g9_61 := g9_61) (by omega) (by omega) (by omega) (by first | with_reducible assumption | omega | ((with_reducible refine y_Vl ?_ ?_) <;> omega)) (by first | with_reducible assumption | omega | ((with_reducible refine y_Vl ?_ ?_) <;> omega)) (by omega) (by omega) (by omega) (by omega) (by first | with_reducible assumption | omega | ((with_reducible refine y_Vl ?_ ?_) <;> omega)) (by first | with_reducible assumption | omega | ((with_reducible refine y_Vl ?_ ?_) <;> omega)) (by omega)) (fun r_t9 h_r_t9 => ?_)
    obtain ⟨h0_r_t9, h1_r_t9, h2_r_t9, h3_r_t9⟩ := h_r_t9
    refine ⟨?_, ?_, ?_, ?_⟩ <;> (first | with_reducible assumption | omega | ((with_reducible refine y_Vl ?_ ?_) <;> omega))
set_option maxHeartbeats 4000000 in
theorem y_X9_moves_L_2 {v9_17 : Int32} {v9_35 : Int32} {l1 : Int32} {l2 : Int32} {l3 : Int32} {l4 : Int32} {l5 : Int32} {l6 : Int32} {l7 : Int32} {g9_34 : Nat → Int32} {g9_61 : Nat → Int32} (k0 : 0 ≤ v9_35.toInt) (k1 : v9_35.toInt ≤ v9_17.toInt) (k2 : v9_17.toInt ≤ 200) (k3 : y_AV 202 g9_34) (k4 : y_AV 2 g9_61) (k5 : 1 ≤ l4.toInt) (k6 : l4.toInt ≤ 2) (k7 : 0 ≤ l5.toInt) (k8 : l5.toInt ≤ 2) (k9 : y_V l2) (k10 : y_V l3) (k11 : l4.toInt ≤ v9_35.toInt) : y_Ok (f_X9_moves_L v9_17 v9_35 (2, l1, l2, l3, l4, l5, l6, l7, g9_34, g9_61)) (fun r => (0 ≤ r.2.1.toInt) ∧ (r.2.1.toInt ≤ v9_17.toInt) ∧ (y_AV 202 r.2.2.1) ∧ (y_AV 2 r.2.2.2)) := by
  rw [f_X9_moves_L]
  refine y_in (by decide) ?_
  refine y_in (by decide) ?_
  refine y_ip rfl ?_
  refine y_if (fun c1 => ?_) (fun c1 => ?_)
  · skip
    have e2 : (1 : Int32).toInt = 1 := rfl
    have c1' := c1
    rw [← Int32.toInt_inj] at c1'
    try have e3 := @y_addL l4 (1 : Int32) (1) rfl (by omega) (by omega)
    refine y_bi (y_X9_single (by omega) (by omega) (by omega)) (fun r_7 h_r_7 => ?_)
    have h0_r_7 : r_7.toInt = 0 ∨ (l4 + (1 : Int32)).toInt ≤ v9_35.toInt := h_r_7
    refine y_if (fun c4 => ?_) (fun c4 => ?_)
    · skip
      have e5 : (0 : Int32).toInt = 0 := rfl
      have c4' := c4
      rw [← Int32.toInt_inj] at c4'
      refine y_some ?_
      try dsimp only
      refine ⟨?_, ?_, ?_, ?_⟩ <;> (first | with_reducible assumption | omega | ((with_reducible refine y_Vl ?_ ?_) <;> omega))
    · skip
      have e6 : (0 : Int32).toInt = 0 := rfl
      have c4' := c4
      rw [← Int32.toInt_inj] at c4'
      refine y_Ok.mono (y_X9_moves_L_3 (l1 := 0) (l2 := l2) (l3 := l3) (l4 := l4) (l5 := l5) (l6 := 0) (l7 := 0) (g9_34 := g9_34) (g9_61 := g9_61) (by omega) (by omega) (by omega) (by first | with_reducible assumption | omega | ((with_reducible refine y_Vl ?_ ?_) <;> omega)) (by first | with_reducible assumption | omega | ((with_reducible refine y_Vl ?_ ?_) <;> omega)) (by omega) (by omega) (by omega) (by omega) (by first | with_reducible assumption | omega | ((with_reducible refine y_Vl ?_ ?_) <;> omega)) (by first | with_reducible assumption | omega | ((with_reducible refine y_Vl ?_ ?_) <;> omega)) (by omega)) (fun r_t6 h_r_t6 => ?_)
      obtain ⟨h0_r_t6, h1_r_t6, h2_r_t6, h3_r_t6⟩ := h_r_t6
      refine ⟨?_, ?_, ?_, ?_⟩ <;> (first | with_reducible assumption | omega | ((with_reducible refine y_Vl ?_ ?_) <;> omega))
  · skip
    have e8 : (1 : Int32).toInt = 1 := rfl
    have c1' := c1
    rw [← Int32.toInt_inj] at c1'
    have e9 : (0 : Int32).toInt = 0 := rfl
    refine y_Ok.mono (y_X9_moves_L_3 (l1 := 0) (l2 := l2) (l3 := l3) (l4 := l4) (l5 := l5) (l6 := 0) (l7 := 0) (g9_34 := g9_34) (g9_61 := g9_61) (by omega) (by omega) (by omega) (by first | with_reducible assumption | omega | ((with_reducible refine y_Vl ?_ ?_) <;> omega)) (by first | with_reducible assumption | omega | ((with_reducible refine y_Vl ?_ ?_) <;> omega)) (by omega) (by omega) (by omega) (by omega) (by first | with_reducible assumption | omega | ((with_reducible refine y_Vl ?_ ?_) <;> omega)) (by first | with_reducible assumption | omega | ((with_reducible refine y_Vl ?_ ?_) <;> omega)) (by omega)) (fun r_t9 h_r_t9 => ?_)
    obtain ⟨h0_r_t9, h1_r_t9, h2_r_t9, h3_r_t9⟩ := h_r_t9
    refine ⟨?_, ?_, ?_, ?_⟩ <;> (first | with_reducible assumption | omega | ((with_reducible refine y_Vl ?_ ?_) <;> omega))
set_option maxHeartbeats 4000000 in
theorem y_X9_moves_L_1 {v9_17 : Int32} {v9_35 : Int32} {l1 : Int32} {l2 : Int32} {l3 : Int32} {l4 : Int32} {l5 : Int32} {l6 : Int32} {l7 : Int32} {g9_34 : Nat → Int32} {g9_61 : Nat → Int32} (k0 : 0 ≤ v9_35.toInt) (k1 : v9_35.toInt ≤ v9_17.toInt) (k2 : v9_17.toInt ≤ 200) (k3 : y_AV 202 g9_34) (k4 : y_AV 2 g9_61) (k5 : 87 ≤ l1.toInt) (k6 : l1.toInt ≤ 88) (k7 : l1.toInt - 86 ≤ v9_35.toInt) : y_Ok (f_X9_moves_L v9_17 v9_35 (1, l1, l2, l3, l4, l5, l6, l7, g9_34, g9_61)) (fun r => (0 ≤ r.2.1.toInt) ∧ (r.2.1.toInt ≤ v9_17.toInt) ∧ (y_AV 202 r.2.2.1) ∧ (y_AV 2 r.2.2.2)) := by
  rw [f_X9_moves_L]
  refine y_in (by decide) ?_
  refine y_ip rfl ?_
  have e1 : (1 : Int32).toInt = 1 := rfl
  try have e2 := @y_subL l1 (86 : Int32) (86) rfl (by omega) (by omega)
  try have e3 := @y_sub v9_35 (l1 - (86 : Int32)) (by omega) (by omega)
  refine y_some ?_
  try dsimp only
  refine ⟨?_, ?_, ?_, ?_⟩ <;> (first | with_reducible assumption | omega | ((with_reducible refine y_Vl ?_ ?_) <;> omega))
set_option maxHeartbeats 4000000 in
theorem y_X9_moves_L_0 {v9_17 : Int32} {v9_35 : Int32} {l1 : Int32} {l2 : Int32} {l3 : Int32} {l4 : Int32} {l5 : Int32} {l6 : Int32} {l7 : Int32} {g9_34 : Nat → Int32} {g9_61 : Nat → Int32} (k0 : 0 ≤ v9_35.toInt) (k1 : v9_35.toInt ≤ v9_17.toInt) (k2 : v9_17.toInt ≤ 200) (k3 : y_AV 202 g9_34) (k4 : y_AV 2 g9_61) (k5 : 87 ≤ l1.toInt) (k6 : l1.toInt ≤ 88) : y_Ok (f_X9_moves_L v9_17 v9_35 (0, l1, l2, l3, l4, l5, l6, l7, g9_34, g9_61)) (fun r => (0 ≤ r.2.1.toInt) ∧ (r.2.1.toInt ≤ v9_17.toInt) ∧ (y_AV 202 r.2.2.1) ∧ (y_AV 2 r.2.2.2)) := by
  rw [f_X9_moves_L]
  refine y_ip rfl ?_
  refine y_if (fun c1 => ?_) (fun c1 => ?_)
  · skip
    have e2 : (87 : Int32).toInt = 87 := rfl
    have c1' := c1
    rw [← Int32.toInt_inj] at c1'
    have e3 : (1 : Int32).toInt = 1 := rfl
    refine y_bi (y_X9_single (by omega) (by omega) (by omega)) (fun r_4 h_r_4 => ?_)
    have h0_r_4 : r_4.toInt = 0 ∨ (1 : Int32).toInt ≤ v9_35.toInt := h_r_4
    refine y_if (fun c4 => ?_) (fun c4 => ?_)
    · skip
      have e5 : (0 : Int32).toInt = 0 := rfl
      have c4' := c4
      rw [← Int32.toInt_inj] at c4'
      refine y_some ?_
      try dsimp only
      refine ⟨?_, ?_, ?_, ?_⟩ <;> (first | with_reducible assumption | omega | ((with_reducible refine y_Vl ?_ ?_) <;> omega))
    · skip
      have e6 : (0 : Int32).toInt = 0 := rfl
      have c4' := c4
      rw [← Int32.toInt_inj] at c4'
      refine y_Ok.mono (y_X9_moves_L_1 (l1 := l1) (l2 := 0) (l3 := 0) (l4 := 0) (l5 := 0) (l6 := 0) (l7 := 0) (g9_34 := g9_34) (g9_61 := g9_61) (by omega) (by omega) (by omega) (by first | with_reducible assumption | omega | ((with_reducible refine y_Vl ?_ ?_) <;> omega)) (by first | with_reducible assumption | omega | ((with_reducible refine y_Vl ?_ ?_) <;> omega)) (by omega) (by omega) (by omega)) (fun r_t6 h_r_t6 => ?_)
      obtain ⟨h0_r_t6, h1_r_t6, h2_r_t6, h3_r_t6⟩ := h_r_t6
      refine ⟨?_, ?_, ?_, ?_⟩ <;> (first | with_reducible assumption | omega | ((with_reducible refine y_Vl ?_ ?_) <;> omega))
  · skip
    have e8 : (87 : Int32).toInt = 87 := rfl
    have c1' := c1
    rw [← Int32.toInt_inj] at c1'
    have e9 : (2 : Int32).toInt = 2 := rfl
    refine y_bi (y_X9_pair (by omega) (by omega) (by omega)) (fun r_2 h_r_2 => ?_)
    have h0_r_2 : r_2.toInt = 0 ∨ (2 : Int32).toInt ≤ v9_35.toInt := h_r_2
    refine y_if (fun c10 => ?_) (fun c10 => ?_)
    · skip
      have e11 : (0 : Int32).toInt = 0 := rfl
      have c10' := c10
      rw [← Int32.toInt_inj] at c10'
      refine y_some ?_
      try dsimp only
      refine ⟨?_, ?_, ?_, ?_⟩ <;> (first | with_reducible assumption | omega | ((with_reducible refine y_Vl ?_ ?_) <;> omega))
    · skip
      have e12 : (0 : Int32).toInt = 0 := rfl
      have c10' := c10
      rw [← Int32.toInt_inj] at c10'
      refine y_Ok.mono (y_X9_moves_L_1 (l1 := l1) (l2 := 0) (l3 := 0) (l4 := 0) (l5 := 0) (l6 := 0) (l7 := 0) (g9_34 := g9_34) (g9_61 := g9_61) (by omega) (by omega) (by omega) (by first | with_reducible assumption | omega | ((with_reducible refine y_Vl ?_ ?_) <;> omega)) (by first | with_reducible assumption | omega | ((with_reducible refine y_Vl ?_ ?_) <;> omega)) (by omega) (by omega) (by omega)) (fun r_t12 h_r_t12 => ?_)
      obtain ⟨h0_r_t12, h1_r_t12, h2_r_t12, h3_r_t12⟩ := h_r_t12
      refine ⟨?_, ?_, ?_, ?_⟩ <;> (first | with_reducible assumption | omega | ((with_reducible refine y_Vl ?_ ?_) <;> omega))
set_option maxHeartbeats 4000000 in
theorem y_X9_moves {v9_17 : Int32} {v9_35 : Int32} {g9_34 : Nat → Int32} {g9_61 : Nat → Int32} {p1 : Int32} (k0 : 0 ≤ v9_35.toInt) (k1 : v9_35.toInt ≤ v9_17.toInt) (k2 : v9_17.toInt ≤ 200) (k3 : y_AV 202 g9_34) (k4 : y_AV 2 g9_61) (k5 : 87 ≤ p1.toInt) (k6 : p1.toInt ≤ 95) : y_Ok (f_X9_moves v9_17 v9_35 g9_34 g9_61 p1) (fun r => (0 ≤ r.2.1.toInt) ∧ (r.2.1.toInt ≤ v9_17.toInt) ∧ (y_AV 202 r.2.2.1) ∧ (y_AV 2 r.2.2.2)) := by
  unfold f_X9_moves
  refine y_if (fun c1 => ?_) (fun c1 => ?_)
  · skip
    have e2 : (0 : Int32).toInt = 0 := rfl
    have c1' := c1
    rw [Int32.le_iff_toInt_le] at c1'
    refine y_if (fun c3 => ?_) (fun c3 => ?_)
    · skip
      have e4 : (1 : Int32).toInt = 1 := rfl
      have c3' := c3
      rw [Int32.le_iff_toInt_le] at c3'
      refine y_if (fun c5 => ?_) (fun c5 => ?_)
      · skip
        have e6 : (87 : Int32).toInt = 87 := rfl
        have c5' := c5
        rw [← Int32.toInt_inj] at c5'
        refine y_Ok.mono (y_X9_moves_L_0 (l1 := p1) (l2 := 0) (l3 := 0) (l4 := 0) (l5 := 0) (l6 := 0) (l7 := 0) (g9_34 := g9_34) (g9_61 := g9_61) (by omega) (by omega) (by omega) (by first | with_reducible assumption | omega | ((with_reducible refine y_Vl ?_ ?_) <;> omega) | ((with_reducible refine y_V8 ?_) <;> (first | with_reducible assumption | (unfold y_Tr; omega))) | ((with_reducible refine y_Tr4 ?_ ?_) <;> (first | with_reducible assumption | omega)) | ((with_reducible refine (y_Tr4 ?_ ?_).ty) <;> (first | with_reducible assumption | omega)) | (unfold y_Ty; omega) | (unfold y_Tr; omega)) (by first | with_reducible assumption | omega | ((with_reducible refine y_Vl ?_ ?_) <;> omega) | ((with_reducible refine y_V8 ?_) <;> (first | with_reducible assumption | (unfold y_Tr; omega))) | ((with_reducible refine y_Tr4 ?_ ?_) <;> (first | with_reducible assumption | omega)) | ((with_reducible refine (y_Tr4 ?_ ?_).ty) <;> (first | with_reducible assumption | omega)) | (unfold y_Ty; omega) | (unfold y_Tr; omega)) (by omega) (by omega)) (fun r_t6 h_r_t6 => ?_)
        obtain ⟨h0_r_t6, h1_r_t6, h2_r_t6, h3_r_t6⟩ := h_r_t6
        refine ⟨?_, ?_, ?_, ?_⟩ <;> (first | with_reducible assumption | omega | ((with_reducible refine y_Vl ?_ ?_) <;> omega) | ((with_reducible refine y_V8 ?_) <;> (first | with_reducible assumption | (unfold y_Tr; omega))) | ((with_reducible refine y_Tr4 ?_ ?_) <;> (first | with_reducible assumption | omega)) | ((with_reducible refine (y_Tr4 ?_ ?_).ty) <;> (first | with_reducible assumption | omega)) | (unfold y_Ty; omega) | (unfold y_Tr; omega))
      · skip
        have e8 : (87 : Int32).toInt = 87 := rfl
        have c5' := c5
        rw [← Int32.toInt_inj] at c5'
        refine y_if (fun c9 => ?_) (fun c9 => ?_)
        · skip
          have e10 : (88 : Int32).toInt = 88 := rfl
          have c9' := c9
          rw [← Int32.toInt_inj] at c9'
          refine y_Ok.mono (y_X9_moves_L_0 (l1 := p1) (l2 := 0) (l3 := 0) (l4 := 0) (l5 := 0) (l6 := 0) (l7 := 0) (g9_34 := g9_34) (g9_61 := g9_61) (by omega) (by omega) (by omega) (by first | with_reducible assumption | omega | ((with_reducible refine y_Vl ?_ ?_) <;> omega) | ((with_reducible refine y_V8 ?_) <;> (first | with_reducible assumption | (unfold y_Tr; omega))) | ((with_reducible refine y_Tr4 ?_ ?_) <;> (first | with_reducible assumption | omega)) | ((with_reducible refine (y_Tr4 ?_ ?_).ty) <;> (first | with_reducible assumption | omega)) | (unfold y_Ty; omega) | (unfold y_Tr; omega)) (by first | with_reducible assumption | omega | ((with_reducible refine y_Vl ?_ ?_) <;> omega) | ((with_reducible refine y_V8 ?_) <;> (first | with_reducible assumption | (unfold y_Tr; omega))) | ((with_reducible refine y_Tr4 ?_ ?_) <;> (first | with_reducible assumption | omega)) | ((with_reducible refine (y_Tr4 ?_ ?_).ty) <;> (first | with_reducible assumption | omega)) | (unfold y_Ty; omega) | (unfold y_Tr; omega)) (by omega) (by omega)) (fun r_t10 h_r_t10 => ?_)
          obtain ⟨h0_r_t10, h1_r_t10, h2_r_t10, h3_r_t10⟩ := h_r_t10
          refine ⟨?_, ?_, ?_, ?_⟩ <;> (first | with_reducible assumption | omega | ((with_reducible refine y_Vl ?_ ?_) <;> omega) | ((with_reducible refine y_V8 ?_) <;> (first | with_reducible assumption | (unfold y_Tr; omega))) | ((with_reducible refine y_Tr4 ?_ ?_) <;> (first | with_reducible assumption | omega)) | ((with_reducible refine (y_Tr4 ?_ ?_).ty) <;> (first | with_reducible assumption | omega)) | (unfold y_Ty; omega) | (unfold y_Tr; omega))
        · skip
          have e12 : (88 : Int32).toInt = 88 := rfl
          have c9' := c9
          rw [← Int32.toInt_inj] at c9'
          refine y_if (fun c13 => ?_) (fun c13 => ?_)
          · skip
            have e14 : (95 : Int32).toInt = 95 := rfl
            have c13' := c13
            rw [← Int32.toInt_inj] at c13'
            refine y_bi (y_X9_single (by omega) (by omega) (by omega)) (fun r_47 h_r_47 => ?_)
            have h0_r_47 : r_47.toInt = 0 ∨ (1 : Int32).toInt ≤ v9_35.toInt := h_r_47
            refine y_if (fun c15 => ?_) (fun c15 => ?_)
            · skip
              have c15' := c15
              rw [← Int32.toInt_inj] at c15'
              refine y_some ?_
              try dsimp only
              refine ⟨?_, ?_, ?_, ?_⟩ <;> (first | with_reducible assumption | omega | ((with_reducible refine y_Vl ?_ ?_) <;> omega) | ((with_reducible refine y_V8 ?_) <;> (first | with_reducible assumption | (unfold y_Tr; omega))) | ((with_reducible refine y_Tr4 ?_ ?_) <;> (first | with_reducible assumption | omega)) | ((with_reducible refine (y_Tr4 ?_ ?_).ty) <;> (first | with_reducible assumption | omega)) | (unfold y_Ty; omega) | (unfold y_Tr; omega))
            · skip
              have c15' := c15
              rw [← Int32.toInt_inj] at c15'
              have e16 : (2 : Int32).toInt = 2 := rfl
              refine y_bi (y_X9_single (by omega) (by omega) (by omega)) (fun r_49 h_r_49 => ?_)
              have h0_r_49 : r_49.toInt = 0 ∨ (2 : Int32).toInt ≤ v9_35.toInt := h_r_49
              refine y_if (fun c17 => ?_) (fun c17 => ?_)
              · skip
                have c17' := c17
                rw [← Int32.toInt_inj] at c17'
                refine y_some ?_
                try dsimp only
                refine ⟨?_, ?_, ?_, ?_⟩ <;> (first | with_reducible assumption | omega | ((with_reducible refine y_Vl ?_ ?_) <;> omega) | ((with_reducible refine y_V8 ?_) <;> (first | with_reducible assumption | (unfold y_Tr; omega))) | ((with_reducible refine y_Tr4 ?_ ?_) <;> (first | with_reducible assumption | omega)) | ((with_reducible refine (y_Tr4 ?_ ?_).ty) <;> (first | with_reducible assumption | omega)) | (unfold y_Ty; omega) | (unfold y_Tr; omega))
              · skip
                have c17' := c17
                rw [← Int32.toInt_inj] at c17'
                try have e18 := @y_subL v9_35 (2 : Int32) (2) rfl (by omega) (by omega)
                refine y_gd (y_gdI (by omega) (by omega)) ?_
                try have e19 := @y_subL v9_35 (1 : Int32) (1) rfl (by omega) (by omega)
                refine y_gd (y_gdI (by omega) (by omega)) ?_
                try have e20 := @y_cl (v9_35 - (2 : Int32)) (by omega)
                try have e21 : y_AV 202 (upd g9_34 (Int32.toNatClampNeg (v9_35 - (2 : Int32))) (0 : Int32)) := y_AV_upd k3 (by first | with_reducible assumption | omega | ((with_reducible refine y_Vl ?_ ?_) <;> omega) | ((with_reducible refine y_V8 ?_) <;> (first | with_reducible assumption | (unfold y_Tr; omega))) | ((with_reducible refine y_Tr4 ?_ ?_) <;> (first | with_reducible assumption | omega)) | ((with_reducible refine (y_Tr4 ?_ ?_).ty) <;> (first | with_reducible assumption | omega)) | (unfold y_Ty; omega) | (unfold y_Tr; omega))
                try have e22 := @y_cl (v9_35 - (1 : Int32)) (by omega)
                try have e23 : y_AV 202 (upd (upd g9_34 (Int32.toNatClampNeg (v9_35 - (2 : Int32))) (0 : Int32)) (Int32.toNatClampNeg (v9_35 - (1 : Int32))) (0 : Int32)) := y_AV_upd e21 (by first | with_reducible assumption | omega | ((with_reducible refine y_Vl ?_ ?_) <;> omega) | ((with_reducible refine y_V8 ?_) <;> (first | with_reducible assumption | (unfold y_Tr; omega))) | ((with_reducible refine y_Tr4 ?_ ?_) <;> (first | with_reducible assumption | omega)) | ((with_reducible refine (y_Tr4 ?_ ?_).ty) <;> (first | with_reducible assumption | omega)) | (unfold y_Ty; omega) | (unfold y_Tr; omega))
                refine y_some ?_
                try dsimp only
                refine ⟨?_, ?_, ?_, ?_⟩ <;> (first | with_reducible assumption | omega | ((with_reducible refine y_Vl ?_ ?_) <;> omega) | ((with_reducible refine y_V8 ?_) <;> (first | with_reducible assumption | (unfold y_Tr; omega))) | ((with_reducible refine y_Tr4 ?_ ?_) <;> (first | with_reducible assumption | omega)) | ((with_reducible refine (y_Tr4 ?_ ?_).ty) <;> (first | with_reducible assumption | omega)) | (unfold y_Ty; omega) | (unfold y_Tr; omega))
          · skip
            have e24 : (95 : Int32).toInt = 95 := rfl
            have c13' := c13
            rw [← Int32.toInt_inj] at c13'
            refine y_if (fun c25 => ?_) (fun c25 => ?_)
            · skip
              have e26 : (91 : Int32).toInt = 91 := rfl
              have c25' := c25
              rw [Int32.lt_iff_toInt_lt] at c25'
              refine y_if (fun c27 => ?_) (fun c27 => ?_)
              · skip
                have c27' := c27
                rw [Int32.lt_iff_toInt_lt] at c27'
                have e28 : (2 : Int32).toInt = 2 := rfl
                refine y_bi (y_X9_pair (by omega) (by omega) (by omega)) (fun r_35 h_r_35 => ?_)
                have h0_r_35 : r_35.toInt = 0 ∨ (2 : Int32).toInt ≤ v9_35.toInt := h_r_35
                refine y_if (fun c29 => ?_) (fun c29 => ?_)
                · skip
                  have c29' := c29
                  rw [← Int32.toInt_inj] at c29'
                  refine y_some ?_
                  try dsimp only
                  refine ⟨?_, ?_, ?_, ?_⟩ <;> (first | with_reducible assumption | omega | ((with_reducible refine y_Vl ?_ ?_) <;> omega) | ((with_reducible refine y_V8 ?_) <;> (first | with_reducible assumption | (unfold y_Tr; omega))) | ((with_reducible refine y_Tr4 ?_ ?_) <;> (first | with_reducible assumption | omega)) | ((with_reducible refine (y_Tr4 ?_ ?_).ty) <;> (first | with_reducible assumption | omega)) | (unfold y_Ty; omega) | (unfold y_Tr; omega))
                · skip
                  have c29' := c29
                  rw [← Int32.toInt_inj] at c29'
                  try have e30 := @y_subL p1 (92 : Int32) (92) rfl (by omega) (by omega)
                  refine y_Ok.mono (y_X9_moves_L_2 (l1 := 0) (l2 := 0) (l3 := 0) (l4 := 2) (l5 := (p1 - (92 : Int32))) (l6 := 0) (l7 := 0) (g9_34 := g9_34) (g9_61 := g9_61) (by omega) (by omega) (by omega) (by first | with_reducible assumption | omega | ((with_reducible refine y_Vl ?_ ?_) <;> omega) | ((with_reducible refine y_V8 ?_) <;> (first | with_reducible assumption | (unfold y_Tr; omega))) | ((with_reducible refine y_Tr4 ?_ ?_) <;> (first | with_reducible assumption | omega)) | ((with_reducible refine (y_Tr4 ?_ ?_).ty) <;> (first | with_reducible assumption | omega)) | (unfold y_Ty; omega) | (unfold y_Tr; omega)) (by first | with_reducible assumption | omega | ((with_reducible refine y_Vl ?_ ?_) <;> omega) | ((with_reducible refine y_V8 ?_) <;> (first | with_reducible assumption | (unfold y_Tr; omega))) | ((with_reducible refine y_Tr4 ?_ ?_) <;> (first | with_reducible assumption | omega)) | ((with_reducible refine (y_Tr4 ?_ ?_).ty) <;> (first | with_reducible assumption | omega)) | (unfold y_Ty; omega) | (unfold y_Tr; omega)) (by omega) (by omega) (by omega) (by omega) (by first | with_reducible assumption | omega | ((with_reducible refine y_Vl ?_ ?_) <;> omega) | ((with_reducible refine y_V8 ?_) <;> (first | with_reducible assumption | (unfold y_Tr; omega))) | ((with_reducible refine y_Tr4 ?_ ?_) <;> (first | with_reducible assumption | omega)) | ((with_reducible refine (y_Tr4 ?_ ?_).ty) <;> (first | with_reducible assumption | omega)) | (unfold y_Ty; omega) | (unfold y_Tr; omega)) (by first | with_reducible assumption | omega | ((with_reducible refine y_Vl ?_ ?_) <;> omega) | ((with_reducible refine y_V8 ?_) <;> (first | with_reducible assumption | (unfold y_Tr; omega))) | ((with_reducible refine y_Tr4 ?_ ?_) <;> (first | with_reducible assumption | omega)) | ((with_reducible refine (y_Tr4 ?_ ?_).ty) <;> (first | with_reducible assumption | omega)) | (unfold y_Ty; omega) | (unfold y_Tr; omega)) (by omega)) (fun r_t30 h_r_t30 => ?_)
                  obtain ⟨h0_r_t30, h1_r_t30, h2_r_t30, h3_r_t30⟩ := h_r_t30
                  refine ⟨?_, ?_, ?_, ?_⟩ <;> (first | with_reducible assumption | omega | ((with_reducible refine y_Vl ?_ ?_) <;> omega) | ((with_reducible refine y_V8 ?_) <;> (first | with_reducible assumption | (unfold y_Tr; omega))) | ((with_reducible refine y_Tr4 ?_ ?_) <;> (first | with_reducible assumption | omega)) | ((with_reducible refine (y_Tr4 ?_ ?_).ty) <;> (first | with_reducible assumption | omega)) | (unfold y_Ty; omega) | (unfold y_Tr; omega))
              · skip
                have c27' := c27
                rw [Int32.lt_iff_toInt_lt] at c27'
                have e32 : (2 : Int32).toInt = 2 := rfl
                refine y_bi (y_X9_pair (by omega) (by omega) (by omega)) (fun r_38 h_r_38 => ?_)
                have h0_r_38 : r_38.toInt = 0 ∨ (2 : Int32).toInt ≤ v9_35.toInt := h_r_38
                refine y_if (fun c33 => ?_) (fun c33 => ?_)
                · skip
                  have c33' := c33
                  rw [← Int32.toInt_inj] at c33'
                  refine y_some ?_
                  try dsimp only
                  refine ⟨?_, ?_, ?_, ?_⟩ <;> (first | with_reducible assumption | omega | ((with_reducible refine y_Vl ?_ ?_) <;> omega) | ((with_reducible refine y_V8 ?_) <;> (first | with_reducible assumption | (unfold y_Tr; omega))) | ((with_reducible refine y_Tr4 ?_ ?_) <;> (first | with_reducible assumption | omega)) | ((with_reducible refine (y_Tr4 ?_ ?_).ty) <;> (first | with_reducible assumption | omega)) | (unfold y_Ty; omega) | (unfold y_Tr; omega))
                · skip
                  have c33' := c33
                  rw [← Int32.toInt_inj] at c33'
                  try have e34 := @y_subL p1 (89 : Int32) (89) rfl (by omega) (by omega)
                  refine y_Ok.mono (y_X9_moves_L_2 (l1 := 0) (l2 := 0) (l3 := 0) (l4 := 2) (l5 := (p1 - (89 : Int32))) (l6 := 0) (l7 := 0) (g9_34 := g9_34) (g9_61 := g9_61) (by omega) (by omega) (by omega) (by first | with_reducible assumption | omega | ((with_reducible refine y_Vl ?_ ?_) <;> omega) | ((with_reducible refine y_V8 ?_) <;> (first | with_reducible assumption | (unfold y_Tr; omega))) | ((with_reducible refine y_Tr4 ?_ ?_) <;> (first | with_reducible assumption | omega)) | ((with_reducible refine (y_Tr4 ?_ ?_).ty) <;> (first | with_reducible assumption | omega)) | (unfold y_Ty; omega) | (unfold y_Tr; omega)) (by first | with_reducible assumption | omega | ((with_reducible refine y_Vl ?_ ?_) <;> omega) | ((with_reducible refine y_V8 ?_) <;> (first | with_reducible assumption | (unfold y_Tr; omega))) | ((with_reducible refine y_Tr4 ?_ ?_) <;> (first | with_reducible assumption | omega)) | ((with_reducible refine (y_Tr4 ?_ ?_).ty) <;> (first | with_reducible assumption | omega)) | (unfold y_Ty; omega) | (unfold y_Tr; omega)) (by omega) (by omega) (by omega) (by omega) (by first | with_reducible assumption | omega | ((with_reducible refine y_Vl ?_ ?_) <;> omega) | ((with_reducible refine y_V8 ?_) <;> (first | with_reducible assumption | (unfold y_Tr; omega))) | ((with_reducible refine y_Tr4 ?_ ?_) <;> (first | with_reducible assumption | omega)) | ((with_reducible refine (y_Tr4 ?_ ?_).ty) <;> (first | with_reducible assumption | omega)) | (unfold y_Ty; omega) | (unfold y_Tr; omega)) (by first | with_reducible assumption | omega | ((with_reducible refine y_Vl ?_ ?_) <;> omega) | ((with_reducible refine y_V8 ?_) <;> (first | with_reducible assumption | (unfold y_Tr; omega))) | ((with_reducible refine y_Tr4 ?_ ?_) <;> (first | with_reducible assumption | omega)) | ((with_reducible refine (y_Tr4 ?_ ?_).ty) <;> (first | with_reducible assumption | omega)) | (unfold y_Ty; omega) | (unfold y_Tr; omega)) (by omega)) (fun r_t34 h_r_t34 => ?_)
                  obtain ⟨h0_r_t34, h1_r_t34, h2_r_t34, h3_r_t34⟩ := h_r_t34
                  refine ⟨?_, ?_, ?_, ?_⟩ <;> (first | with_reducible assumption | omega | ((with_reducible refine y_Vl ?_ ?_) <;> omega) | ((with_reducible refine y_V8 ?_) <;> (first | with_reducible assumption | (unfold y_Tr; omega))) | ((with_reducible refine y_Tr4 ?_ ?_) <;> (first | with_reducible assumption | omega)) | ((with_reducible refine (y_Tr4 ?_ ?_).ty) <;> (first | with_reducible assumption | omega)) | (unfold y_Ty; omega) | (unfold y_Tr; omega))
            · skip
              have e36 : (91 : Int32).toInt = 91 := rfl
              have c25' := c25
              rw [Int32.lt_iff_toInt_lt] at c25'
              refine y_if (fun c37 => ?_) (fun c37 => ?_)
              · skip
                have c37' := c37
                rw [Int32.lt_iff_toInt_lt] at c37'
                refine y_bi (y_X9_single (by omega) (by omega) (by omega)) (fun r_42 h_r_42 => ?_)
                have h0_r_42 : r_42.toInt = 0 ∨ (1 : Int32).toInt ≤ v9_35.toInt := h_r_42
                refine y_if (fun c38 => ?_) (fun c38 => ?_)
                · skip
                  have c38' := c38
                  rw [← Int32.toInt_inj] at c38'
                  refine y_some ?_
                  try dsimp only
                  refine ⟨?_, ?_, ?_, ?_⟩ <;> (first | with_reducible assumption | omega | ((with_reducible refine y_Vl ?_ ?_) <;> omega) | ((with_reducible refine y_V8 ?_) <;> (first | with_reducible assumption | (unfold y_Tr; omega))) | ((with_reducible refine y_Tr4 ?_ ?_) <;> (first | with_reducible assumption | omega)) | ((with_reducible refine (y_Tr4 ?_ ?_).ty) <;> (first | with_reducible assumption | omega)) | (unfold y_Ty; omega) | (unfold y_Tr; omega))
                · skip
                  have c38' := c38
                  rw [← Int32.toInt_inj] at c38'
                  try have e39 := @y_subL p1 (92 : Int32) (92) rfl (by omega) (by omega)
                  refine y_Ok.mono (y_X9_moves_L_2 (l1 := 0) (l2 := 0) (l3 := 0) (l4 := 1) (l5 := (p1 - (92 : Int32))) (l6 := 0) (l7 := 0) (g9_34 := g9_34) (g9_61 := g9_61) (by omega) (by omega) (by omega) (by first | with_reducible assumption | omega | ((with_reducible refine y_Vl ?_ ?_) <;> omega) | ((with_reducible refine y_V8 ?_) <;> (first | with_reducible assumption | (unfold y_Tr; omega))) | ((with_reducible refine y_Tr4 ?_ ?_) <;> (first | with_reducible assumption | omega)) | ((with_reducible refine (y_Tr4 ?_ ?_).ty) <;> (first | with_reducible assumption | omega)) | (unfold y_Ty; omega) | (unfold y_Tr; omega)) (by first | with_reducible assumption | omega | ((with_reducible refine y_Vl ?_ ?_) <;> omega) | ((with_reducible refine y_V8 ?_) <;> (first | with_reducible assumption | (unfold y_Tr; omega))) | ((with_reducible refine y_Tr4 ?_ ?_) <;> (first | with_reducible assumption | omega)) | ((with_reducible refine (y_Tr4 ?_ ?_).ty) <;> (first | with_reducible assumption | omega)) | (unfold y_Ty; omega) | (unfold y_Tr; omega)) (by omega) (by omega) (by omega) (by omega) (by first | with_reducible assumption | omega | ((with_reducible refine y_Vl ?_ ?_) <;> omega) | ((with_reducible refine y_V8 ?_) <;> (first | with_reducible assumption | (unfold y_Tr; omega))) | ((with_reducible refine y_Tr4 ?_ ?_) <;> (first | with_reducible assumption | omega)) | ((with_reducible refine (y_Tr4 ?_ ?_).ty) <;> (first | with_reducible assumption | omega)) | (unfold y_Ty; omega) | (unfold y_Tr; omega)) (by first | with_reducible assumption | omega | ((with_reducible refine y_Vl ?_ ?_) <;> omega) | ((with_reducible refine y_V8 ?_) <;> (first | with_reducible assumption | (unfold y_Tr; omega))) | ((with_reducible refine y_Tr4 ?_ ?_) <;> (first | with_reducible assumption | omega)) | ((with_reducible refine (y_Tr4 ?_ ?_).ty) <;> (first | with_reducible assumption | omega)) | (unfold y_Ty; omega) | (unfold y_Tr; omega)) (by omega)) (fun r_t39 h_r_t39 => ?_)
                  obtain ⟨h0_r_t39, h1_r_t39, h2_r_t39, h3_r_t39⟩ := h_r_t39
                  refine ⟨?_, ?_, ?_, ?_⟩ <;> (first | with_reducible assumption | omega | ((with_reducible refine y_Vl ?_ ?_) <;> omega) | ((with_reducible refine y_V8 ?_) <;> (first | with_reducible assumption | (unfold y_Tr; omega))) | ((with_reducible refine y_Tr4 ?_ ?_) <;> (first | with_reducible assumption | omega)) | ((with_reducible refine (y_Tr4 ?_ ?_).ty) <;> (first | with_reducible assumption | omega)) | (unfold y_Ty; omega) | (unfold y_Tr; omega))
              · skip
                have c37' := c37
                rw [Int32.lt_iff_toInt_lt] at c37'
                refine y_bi (y_X9_single (by omega) (by omega) (by omega)) (fun r_45 h_r_45 => ?_)
                have h0_r_45 : r_45.toInt = 0 ∨ (1 : Int32).toInt ≤ v9_35.toInt := h_r_45
                refine y_if (fun c41 => ?_) (fun c41 => ?_)
                · skip
                  have c41' := c41
                  rw [← Int32.toInt_inj] at c41'
                  refine y_some ?_
                  try dsimp only
                  refine ⟨?_, ?_, ?_, ?_⟩ <;> (first | with_reducible assumption | omega | ((with_reducible refine y_Vl ?_ ?_) <;> omega) | ((with_reducible refine y_V8 ?_) <;> (first | with_reducible assumption | (unfold y_Tr; omega))) | ((with_reducible refine y_Tr4 ?_ ?_) <;> (first | with_reducible assumption | omega)) | ((with_reducible refine (y_Tr4 ?_ ?_).ty) <;> (first | with_reducible assumption | omega)) | (unfold y_Ty; omega) | (unfold y_Tr; omega))
                · skip
                  have c41' := c41
                  rw [← Int32.toInt_inj] at c41'
                  try have e42 := @y_subL p1 (89 : Int32) (89) rfl (by omega) (by omega)
                  refine y_Ok.mono (y_X9_moves_L_2 (l1 := 0) (l2 := 0) (l3 := 0) (l4 := 1) (l5 := (p1 - (89 : Int32))) (l6 := 0) (l7 := 0) (g9_34 := g9_34) (g9_61 := g9_61) (by omega) (by omega) (by omega) (by first | with_reducible assumption | omega | ((with_reducible refine y_Vl ?_ ?_) <;> omega) | ((with_reducible refine y_V8 ?_) <;> (first | with_reducible assumption | (unfold y_Tr; omega))) | ((with_reducible refine y_Tr4 ?_ ?_) <;> (first | with_reducible assumption | omega)) | ((with_reducible refine (y_Tr4 ?_ ?_).ty) <;> (first | with_reducible assumption | omega)) | (unfold y_Ty; omega) | (unfold y_Tr; omega)) (by first | with_reducible assumption | omega | ((with_reducible refine y_Vl ?_ ?_) <;> omega) | ((with_reducible refine y_V8 ?_) <;> (first | with_reducible assumption | (unfold y_Tr; omega))) | ((with_reducible refine y_Tr4 ?_ ?_) <;> (first | with_reducible assumption | omega)) | ((with_reducible refine (y_Tr4 ?_ ?_).ty) <;> (first | with_reducible assumption | omega)) | (unfold y_Ty; omega) | (unfold y_Tr; omega)) (by omega) (by omega) (by omega) (by omega) (by first | with_reducible assumption | omega | ((with_reducible refine y_Vl ?_ ?_) <;> omega) | ((with_reducible refine y_V8 ?_) <;> (first | with_reducible assumption | (unfold y_Tr; omega))) | ((with_reducible refine y_Tr4 ?_ ?_) <;> (first | with_reducible assumption | omega)) | ((with_reducible refine (y_Tr4 ?_ ?_).ty) <;> (first | with_reducible assumption | omega)) | (unfold y_Ty; omega) | (unfold y_Tr; omega)) (by first | with_reducible assumption | omega | ((with_reducible refine y_Vl ?_ ?_) <;> omega) | ((with_reducible refine y_V8 ?_) <;> (first | with_reducible assumption | (unfold y_Tr; omega))) | ((with_reducible refine y_Tr4 ?_ ?_) <;> (first | with_reducible assumption | omega)) | ((with_reducible refine (y_Tr4 ?_ ?_).ty) <;> (first | with_reducible assumption | omega)) | (unfold y_Ty; omega) | (unfold y_Tr; omega)) (by omega)) (fun r_t42 h_r_t42 => ?_)
                  obtain ⟨h0_r_t42, h1_r_t42, h2_r_t42, h3_r_t42⟩ := h_r_t42
                  refine ⟨?_, ?_, ?_, ?_⟩ <;> (first | with_reducible assumption | omega | ((with_reducible refine y_Vl ?_ ?_) <;> omega) | ((with_reducible refine y_V8 ?_) <;> (first | with_reducible assumption | (unfold y_Tr; omega))) | ((with_reducible refine y_Tr4 ?_ ?_) <;> (first | with_reducible assumption | omega)) | ((with_reducible refine (y_Tr4 ?_ ?_).ty) <;> (first | with_reducible assumption | omega)) | (unfold y_Ty; omega) | (unfold y_Tr; omega))
    · skip
      have e44 : (1 : Int32).toInt = 1 := rfl
      have c3' := c3
      rw [Int32.le_iff_toInt_le] at c3'
      try have e45 := @y_subL v9_35 (2 : Int32) (2) rfl (by omega) (by omega)
      refine y_gd (y_gdI (by omega) (by omega)) ?_
      refine y_if (fun c46 => ?_) (fun c46 => ?_)
      · skip
        have e47 : (87 : Int32).toInt = 87 := rfl
        have c46' := c46
        rw [← Int32.toInt_inj] at c46'
        refine y_Ok.mono (y_X9_moves_L_0 (l1 := p1) (l2 := 0) (l3 := 0) (l4 := 0) (l5 := 0) (l6 := 0) (l7 := 0) (g9_34 := g9_34) (g9_61 := g9_61) (by omega) (by omega) (by omega) (by first | with_reducible assumption | omega | ((with_reducible refine y_Vl ?_ ?_) <;> omega) | ((with_reducible refine y_V8 ?_) <;> (first | with_reducible assumption | (unfold y_Tr; omega))) | ((with_reducible refine y_Tr4 ?_ ?_) <;> (first | with_reducible assumption | omega)) | ((with_reducible refine (y_Tr4 ?_ ?_).ty) <;> (first | with_reducible assumption | omega)) | (unfold y_Ty; omega) | (unfold y_Tr; omega)) (by first | with_reducible assumption | omega | ((with_reducible refine y_Vl ?_ ?_) <;> omega) | ((with_reducible refine y_V8 ?_) <;> (first | with_reducible assumption | (unfold y_Tr; omega))) | ((with_reducible refine y_Tr4 ?_ ?_) <;> (first | with_reducible assumption | omega)) | ((with_reducible refine (y_Tr4 ?_ ?_).ty) <;> (first | with_reducible assumption | omega)) | (unfold y_Ty; omega) | (unfold y_Tr; omega)) (by omega) (by omega)) (fun r_t47 h_r_t47 => ?_)
        obtain ⟨h0_r_t47, h1_r_t47, h2_r_t47, h3_r_t47⟩ := h_r_t47
        refine ⟨?_, ?_, ?_, ?_⟩ <;> (first | with_reducible assumption | omega | ((with_reducible refine y_Vl ?_ ?_) <;> omega) | ((with_reducible refine y_V8 ?_) <;> (first | with_reducible assumption | (unfold y_Tr; omega))) | ((with_reducible refine y_Tr4 ?_ ?_) <;> (first | with_reducible assumption | omega)) | ((with_reducible refine (y_Tr4 ?_ ?_).ty) <;> (first | with_reducible assumption | omega)) | (unfold y_Ty; omega) | (unfold y_Tr; omega))
      · skip
        have e49 : (87 : Int32).toInt = 87 := rfl
        have c46' := c46
        rw [← Int32.toInt_inj] at c46'
        refine y_if (fun c50 => ?_) (fun c50 => ?_)
        · skip
          have e51 : (88 : Int32).toInt = 88 := rfl
          have c50' := c50
          rw [← Int32.toInt_inj] at c50'
          refine y_Ok.mono (y_X9_moves_L_0 (l1 := p1) (l2 := 0) (l3 := 0) (l4 := 0) (l5 := 0) (l6 := 0) (l7 := 0) (g9_34 := g9_34) (g9_61 := g9_61) (by omega) (by omega) (by omega) (by first | with_reducible assumption | omega | ((with_reducible refine y_Vl ?_ ?_) <;> omega) | ((with_reducible refine y_V8 ?_) <;> (first | with_reducible assumption | (unfold y_Tr; omega))) | ((with_reducible refine y_Tr4 ?_ ?_) <;> (first | with_reducible assumption | omega)) | ((with_reducible refine (y_Tr4 ?_ ?_).ty) <;> (first | with_reducible assumption | omega)) | (unfold y_Ty; omega) | (unfold y_Tr; omega)) (by first | with_reducible assumption | omega | ((with_reducible refine y_Vl ?_ ?_) <;> omega) | ((with_reducible refine y_V8 ?_) <;> (first | with_reducible assumption | (unfold y_Tr; omega))) | ((with_reducible refine y_Tr4 ?_ ?_) <;> (first | with_reducible assumption | omega)) | ((with_reducible refine (y_Tr4 ?_ ?_).ty) <;> (first | with_reducible assumption | omega)) | (unfold y_Ty; omega) | (unfold y_Tr; omega)) (by omega) (by omega)) (fun r_t51 h_r_t51 => ?_)
          obtain ⟨h0_r_t51, h1_r_t51, h2_r_t51, h3_r_t51⟩ := h_r_t51
          refine ⟨?_, ?_, ?_, ?_⟩ <;> (first | with_reducible assumption | omega | ((with_reducible refine y_Vl ?_ ?_) <;> omega) | ((with_reducible refine y_V8 ?_) <;> (first | with_reducible assumption | (unfold y_Tr; omega))) | ((with_reducible refine y_Tr4 ?_ ?_) <;> (first | with_reducible assumption | omega)) | ((with_reducible refine (y_Tr4 ?_ ?_).ty) <;> (first | with_reducible assumption | omega)) | (unfold y_Ty; omega) | (unfold y_Tr; omega))
        · skip
          have e53 : (88 : Int32).toInt = 88 := rfl
          have c50' := c50
          rw [← Int32.toInt_inj] at c50'
          refine y_if (fun c54 => ?_) (fun c54 => ?_)
          · skip
            have e55 : (95 : Int32).toInt = 95 := rfl
            have c54' := c54
            rw [← Int32.toInt_inj] at c54'
            refine y_bi (y_X9_single (by omega) (by omega) (by omega)) (fun r_72 h_r_72 => ?_)
            have h0_r_72 : r_72.toInt = 0 ∨ (1 : Int32).toInt ≤ v9_35.toInt := h_r_72
            refine y_if (fun c56 => ?_) (fun c56 => ?_)
            · skip
              have c56' := c56
              rw [← Int32.toInt_inj] at c56'
              refine y_some ?_
              try dsimp only
              refine ⟨?_, ?_, ?_, ?_⟩ <;> (first | with_reducible assumption | omega | ((with_reducible refine y_Vl ?_ ?_) <;> omega) | ((with_reducible refine y_V8 ?_) <;> (first | with_reducible assumption | (unfold y_Tr; omega))) | ((with_reducible refine y_Tr4 ?_ ?_) <;> (first | with_reducible assumption | omega)) | ((with_reducible refine (y_Tr4 ?_ ?_).ty) <;> (first | with_reducible assumption | omega)) | (unfold y_Ty; omega) | (unfold y_Tr; omega))
            · skip
              have c56' := c56
              rw [← Int32.toInt_inj] at c56'
              have e57 : (2 : Int32).toInt = 2 := rfl
              refine y_bi (y_X9_single (by omega) (by omega) (by omega)) (fun r_74 h_r_74 => ?_)
              have h0_r_74 : r_74.toInt = 0 ∨ (2 : Int32).toInt ≤ v9_35.toInt := h_r_74
              refine y_if (fun c58 => ?_) (fun c58 => ?_)
              · skip
                have c58' := c58
                rw [← Int32.toInt_inj] at c58'
                refine y_some ?_
                try dsimp only
                refine ⟨?_, ?_, ?_, ?_⟩ <;> (first | with_reducible assumption | omega | ((with_reducible refine y_Vl ?_ ?_) <;> omega) | ((with_reducible refine y_V8 ?_) <;> (first | with_reducible assumption | (unfold y_Tr; omega))) | ((with_reducible refine y_Tr4 ?_ ?_) <;> (first | with_reducible assumption | omega)) | ((with_reducible refine (y_Tr4 ?_ ?_).ty) <;> (first | with_reducible assumption | omega)) | (unfold y_Ty; omega) | (unfold y_Tr; omega))
              · skip
                have c58' := c58
                rw [← Int32.toInt_inj] at c58'
                refine y_gd (y_gdI (by omega) (by omega)) ?_
                try have e59 := @y_subL v9_35 (1 : Int32) (1) rfl (by omega) (by omega)
                refine y_gd (y_gdI (by omega) (by omega)) ?_
                try have e60 := @y_cl (v9_35 - (2 : Int32)) (by omega)
                try have e61 : y_AV 202 (upd g9_34 (Int32.toNatClampNeg (v9_35 - (2 : Int32))) (0 : Int32)) := y_AV_upd k3 (by first | with_reducible assumption | omega | ((with_reducible refine y_Vl ?_ ?_) <;> omega) | ((with_reducible refine y_V8 ?_) <;> (first | with_reducible assumption | (unfold y_Tr; omega))) | ((with_reducible refine y_Tr4 ?_ ?_) <;> (first | with_reducible assumption | omega)) | ((with_reducible refine (y_Tr4 ?_ ?_).ty) <;> (first | with_reducible assumption | omega)) | (unfold y_Ty; omega) | (unfold y_Tr; omega))
                try have e62 := @y_cl (v9_35 - (1 : Int32)) (by omega)
                try have e63 := k3.at (Int32.toNatClampNeg (v9_35 - (2 : Int32))) (by omega)
                try have e64 := e63.b
                try have e65 : y_AV 202 (upd (upd g9_34 (Int32.toNatClampNeg (v9_35 - (2 : Int32))) (0 : Int32)) (Int32.toNatClampNeg (v9_35 - (1 : Int32))) (g9_34 (Int32.toNatClampNeg (v9_35 - (2 : Int32))))) := y_AV_upd e61 (by first | with_reducible assumption | omega | ((with_reducible refine y_Vl ?_ ?_) <;> omega) | ((with_reducible refine y_V8 ?_) <;> (first | with_reducible assumption | (unfold y_Tr; omega))) | ((with_reducible refine y_Tr4 ?_ ?_) <;> (first | with_reducible assumption | omega)) | ((with_reducible refine (y_Tr4 ?_ ?_).ty) <;> (first | with_reducible assumption | omega)) | (unfold y_Ty; omega) | (unfold y_Tr; omega))
                refine y_some ?_
                try dsimp only
                refine ⟨?_, ?_, ?_, ?_⟩ <;> (first | with_reducible assumption | omega | ((with_reducible refine y_Vl ?_ ?_) <;> omega) | ((with_reducible refine y_V8 ?_) <;> (first | with_reducible assumption | (unfold y_Tr; omega))) | ((with_reducible refine y_Tr4 ?_ ?_) <;> (first | with_reducible assumption | omega)) | ((with_reducible refine (y_Tr4 ?_ ?_).ty) <;> (first | with_reducible assumption | omega)) | (unfold y_Ty; omega) | (unfold y_Tr; omega))
          · skip
            have e66 : (95 : Int32).toInt = 95 := rfl
            have c54' := c54
            rw [← Int32.toInt_inj] at c54'
            refine y_if (fun c67 => ?_) (fun c67 => ?_)
            · skip
              have e68 : (91 : Int32).toInt = 91 := rfl
              have c67' := c67
              rw [Int32.lt_iff_toInt_lt] at c67'
              refine y_if (fun c69 => ?_) (fun c69 => ?_)
              · skip
                have c69' := c69
                rw [Int32.lt_iff_toInt_lt] at c69'
                have e70 : (2 : Int32).toInt = 2 := rfl
                refine y_bi (y_X9_pair (by omega) (by omega) (by omega)) (fun r_60 h_r_60 => ?_)
                have h0_r_60 : r_60.toInt = 0 ∨ (2 : Int32).toInt ≤ v9_35.toInt := h_r_60
                refine y_if (fun c71 => ?_) (fun c71 => ?_)
                · skip
                  have c71' := c71
                  rw [← Int32.toInt_inj] at c71'
                  refine y_some ?_
                  try dsimp only
                  refine ⟨?_, ?_, ?_, ?_⟩ <;> (first | with_reducible assumption | omega | ((with_reducible refine y_Vl ?_ ?_) <;> omega) | ((with_reducible refine y_V8 ?_) <;> (first | with_reducible assumption | (unfold y_Tr; omega))) | ((with_reducible refine y_Tr4 ?_ ?_) <;> (first | with_reducible assumption | omega)) | ((with_reducible refine (y_Tr4 ?_ ?_).ty) <;> (first | with_reducible assumption | omega)) | (unfold y_Ty; omega) | (unfold y_Tr; omega))
                · skip
                  have c71' := c71
                  rw [← Int32.toInt_inj] at c71'
                  try have e72 := @y_cl (v9_35 - (2 : Int32)) (by omega)
                  try have e73 := k3.at (Int32.toNatClampNeg (v9_35 - (2 : Int32))) (by omega)
                  try have e74 := e73.b
                  try have e75 := @y_subL p1 (92 : Int32) (92) rfl (by omega) (by omega)
                  refine y_Ok.mono (y_X9_moves_L_2 (l1 := 0) (l2 := 0) (l3 := (g9_34 (Int32.toNatClampNeg (v9_35 - (2 : Int32))))) (l4 := 2) (l5 := (p1 - (92 : Int32))) (l6 := 0) (l7 := 0) (g9_34 := g9_34) (g9_61 := g9_61) (by omega) (by omega) (by omega) (by first | with_reducible assumption | omega | ((with_reducible refine y_Vl ?_ ?_) <;> omega) | ((with_reducible refine y_V8 ?_) <;> (first | with_reducible assumption | (unfold y_Tr; omega))) | ((with_reducible refine y_Tr4 ?_ ?_) <;> (first | with_reducible assumption | omega)) | ((with_reducible refine (y_Tr4 ?_ ?_).ty) <;> (first | with_reducible assumption | omega)) | (unfold y_Ty; omega) | (unfold y_Tr; omega)) (by first | with_reducible assumption | omega | ((with_reducible refine y_Vl ?_ ?_) <;> omega) | ((with_reducible refine y_V8 ?_) <;> (first | with_reducible assumption | (unfold y_Tr; omega))) | ((with_reducible refine y_Tr4 ?_ ?_) <;> (first | with_reducible assumption | omega)) | ((with_reducible refine (y_Tr4 ?_ ?_).ty) <;> (first | with_reducible assumption | omega)) | (unfold y_Ty; omega) | (unfold y_Tr; omega)) (by omega) (by omega) (by omega) (by omega) (by first | with_reducible assumption | omega | ((with_reducible refine y_Vl ?_ ?_) <;> omega) | ((with_reducible refine y_V8 ?_) <;> (first | with_reducible assumption | (unfold y_Tr; omega))) | ((with_reducible refine y_Tr4 ?_ ?_) <;> (first | with_reducible assumption | omega)) | ((with_reducible refine (y_Tr4 ?_ ?_).ty) <;> (first | with_reducible assumption | omega)) | (unfold y_Ty; omega) | (unfold y_Tr; omega)) (by first | with_reducible assumption | omega | ((with_reducible refine y_Vl ?_ ?_) <;> omega) | ((with_reducible refine y_V8 ?_) <;> (first | with_reducible assumption | (unfold y_Tr; omega))) | ((with_reducible refine y_Tr4 ?_ ?_) <;> (first | with_reducible assumption | omega)) | ((with_reducible refine (y_Tr4 ?_ ?_).ty) <;> (first | with_reducible assumption | omega)) | (unfold y_Ty; omega) | (unfold y_Tr; omega)) (by omega)) (fun r_t75 h_r_t75 => ?_)
                  obtain ⟨h0_r_t75, h1_r_t75, h2_r_t75, h3_r_t75⟩ := h_r_t75
                  refine ⟨?_, ?_, ?_, ?_⟩ <;> (first | with_reducible assumption | omega | ((with_reducible refine y_Vl ?_ ?_) <;> omega) | ((with_reducible refine y_V8 ?_) <;> (first | with_reducible assumption | (unfold y_Tr; omega))) | ((with_reducible refine y_Tr4 ?_ ?_) <;> (first | with_reducible assumption | omega)) | ((with_reducible refine (y_Tr4 ?_ ?_).ty) <;> (first | with_reducible assumption | omega)) | (unfold y_Ty; omega) | (unfold y_Tr; omega))
              · skip
                have c69' := c69
                rw [Int32.lt_iff_toInt_lt] at c69'
                have e77 : (2 : Int32).toInt = 2 := rfl
                refine y_bi (y_X9_pair (by omega) (by omega) (by omega)) (fun r_63 h_r_63 => ?_)
                have h0_r_63 : r_63.toInt = 0 ∨ (2 : Int32).toInt ≤ v9_35.toInt := h_r_63
                refine y_if (fun c78 => ?_) (fun c78 => ?_)
                · skip
                  have c78' := c78
                  rw [← Int32.toInt_inj] at c78'
                  refine y_some ?_
                  try dsimp only
                  refine ⟨?_, ?_, ?_, ?_⟩ <;> (first | with_reducible assumption | omega | ((with_reducible refine y_Vl ?_ ?_) <;> omega) | ((with_reducible refine y_V8 ?_) <;> (first | with_reducible assumption | (unfold y_Tr; omega))) | ((with_reducible refine y_Tr4 ?_ ?_) <;> (first | with_reducible assumption | omega)) | ((with_reducible refine (y_Tr4 ?_ ?_).ty) <;> (first | with_reducible assumption | omega)) | (unfold y_Ty; omega) | (unfold y_Tr; omega))
                · skip
                  have c78' := c78
                  rw [← Int32.toInt_inj] at c78'
                  try have e79 := @y_cl (v9_35 - (2 : Int32)) (by omega)
                  try have e80 := k3.at (Int32.toNatClampNeg (v9_35 - (2 : Int32))) (by omega)
                  try have e81 := e80.b
                  try have e82 := @y_subL p1 (89 : Int32) (89) rfl (by omega) (by omega)
                  refine y_Ok.mono (y_X9_moves_L_2 (l1 := 0) (l2 := 0) (l3 := (g9_34 (Int32.toNatClampNeg (v9_35 - (2 : Int32))))) (l4 := 2) (l5 := (p1 - (89 : Int32))) (l6 := 0) (l7 := 0) (g9_34 := g9_34) (g9_61 := g9_61) (by omega) (by omega) (by omega) (by first | with_reducible assumption | omega | ((with_reducible refine y_Vl ?_ ?_) <;> omega) | ((with_reducible refine y_V8 ?_) <;> (first | with_reducible assumption | (unfold y_Tr; omega))) | ((with_reducible refine y_Tr4 ?_ ?_) <;> (first | with_reducible assumption | omega)) | ((with_reducible refine (y_Tr4 ?_ ?_).ty) <;> (first | with_reducible assumption | omega)) | (unfold y_Ty; omega) | (unfold y_Tr; omega)) (by first | with_reducible assumption | omega | ((with_reducible refine y_Vl ?_ ?_) <;> omega) | ((with_reducible refine y_V8 ?_) <;> (first | with_reducible assumption | (unfold y_Tr; omega))) | ((with_reducible refine y_Tr4 ?_ ?_) <;> (first | with_reducible assumption | omega)) | ((with_reducible refine (y_Tr4 ?_ ?_).ty) <;> (first | with_reducible assumption | omega)) | (unfold y_Ty; omega) | (unfold y_Tr; omega)) (by omega) (by omega) (by omega) (by omega) (by first | with_reducible assumption | omega | ((with_reducible refine y_Vl ?_ ?_) <;> omega) | ((with_reducible refine y_V8 ?_) <;> (first | with_reducible assumption | (unfold y_Tr; omega))) | ((with_reducible refine y_Tr4 ?_ ?_) <;> (first | with_reducible assumption | omega)) | ((with_reducible refine (y_Tr4 ?_ ?_).ty) <;> (first | with_reducible assumption | omega)) | (unfold y_Ty; omega) | (unfold y_Tr; omega)) (by first | with_reducible assumption | omega | ((with_reducible refine y_Vl ?_ ?_) <;> omega) | ((with_reducible refine y_V8 ?_) <;> (first | with_reducible assumption | (unfold y_Tr; omega))) | ((with_reducible refine y_Tr4 ?_ ?_) <;> (first | with_reducible assumption | omega)) | ((with_reducible refine (y_Tr4 ?_ ?_).ty) <;> (first | with_reducible assumption | omega)) | (unfold y_Ty; omega) | (unfold y_Tr; omega)) (by omega)) (fun r_t82 h_r_t82 => ?_)
                  obtain ⟨h0_r_t82, h1_r_t82, h2_r_t82, h3_r_t82⟩ := h_r_t82
                  refine ⟨?_, ?_, ?_, ?_⟩ <;> (first | with_reducible assumption | omega | ((with_reducible refine y_Vl ?_ ?_) <;> omega) | ((with_reducible refine y_V8 ?_) <;> (first | with_reducible assumption | (unfold y_Tr; omega))) | ((with_reducible refine y_Tr4 ?_ ?_) <;> (first | with_reducible assumption | omega)) | ((with_reducible refine (y_Tr4 ?_ ?_).ty) <;> (first | with_reducible assumption | omega)) | (unfold y_Ty; omega) | (unfold y_Tr; omega))
            · skip
              have e84 : (91 : Int32).toInt = 91 := rfl
              have c67' := c67
              rw [Int32.lt_iff_toInt_lt] at c67'
              refine y_if (fun c85 => ?_) (fun c85 => ?_)
              · skip
                have c85' := c85
                rw [Int32.lt_iff_toInt_lt] at c85'
                refine y_bi (y_X9_single (by omega) (by omega) (by omega)) (fun r_67 h_r_67 => ?_)
                have h0_r_67 : r_67.toInt = 0 ∨ (1 : Int32).toInt ≤ v9_35.toInt := h_r_67
                refine y_if (fun c86 => ?_) (fun c86 => ?_)
                · skip
                  have c86' := c86
                  rw [← Int32.toInt_inj] at c86'
                  refine y_some ?_
                  try dsimp only
                  refine ⟨?_, ?_, ?_, ?_⟩ <;> (first | with_reducible assumption | omega | ((with_reducible refine y_Vl ?_ ?_) <;> omega) | ((with_reducible refine y_V8 ?_) <;> (first | with_reducible assumption | (unfold y_Tr; omega))) | ((with_reducible refine y_Tr4 ?_ ?_) <;> (first | with_reducible assumption | omega)) | ((with_reducible refine (y_Tr4 ?_ ?_).ty) <;> (first | with_reducible assumption | omega)) | (unfold y_Ty; omega) | (unfold y_Tr; omega))
                · skip
                  have c86' := c86
                  rw [← Int32.toInt_inj] at c86'
                  try have e87 := @y_cl (v9_35 - (2 : Int32)) (by omega)
                  try have e88 := k3.at (Int32.toNatClampNeg (v9_35 - (2 : Int32))) (by omega)
                  try have e89 := e88.b
                  try have e90 := @y_subL p1 (92 : Int32) (92) rfl (by omega) (by omega)
                  refine y_Ok.mono (y_X9_moves_L_2 (l1 := 0) (l2 := 0) (l3 := (g9_34 (Int32.toNatClampNeg (v9_35 - (2 : Int32))))) (l4 := 1) (l5 := (p1 - (92 : Int32))) (l6 := 0) (l7 := 0) (g9_34 := g9_34) (g9_61 := g9_61) (by omega) (by omega) (by omega) (by first | with_reducible assumption | omega | ((with_reducible refine y_Vl ?_ ?_) <;> omega) | ((with_reducible refine y_V8 ?_) <;> (first | with_reducible assumption | (unfold y_Tr; omega))) | ((with_reducible refine y_Tr4 ?_ ?_) <;> (first | with_reducible assumption | omega)) | ((with_reducible refine (y_Tr4 ?_ ?_).ty) <;> (first | with_reducible assumption | omega)) | (unfold y_Ty; omega) | (unfold y_Tr; omega)) (by first | with_reducible assumption | omega | ((with_reducible refine y_Vl ?_ ?_) <;> omega) | ((with_reducible refine y_V8 ?_) <;> (first | with_reducible assumption | (unfold y_Tr; omega))) | ((with_reducible refine y_Tr4 ?_ ?_) <;> (first | with_reducible assumption | omega)) | ((with_reducible refine (y_Tr4 ?_ ?_).ty) <;> (first | with_reducible assumption | omega)) | (unfold y_Ty; omega) | (unfold y_Tr; omega)) (by omega) (by omega) (by omega) (by omega) (by first | with_reducible assumption | omega | ((with_reducible refine y_Vl ?_ ?_) <;> omega) | ((with_reducible refine y_V8 ?_) <;> (first | with_reducible assumption | (unfold y_Tr; omega))) | ((with_reducible refine y_Tr4 ?_ ?_) <;> (first | with_reducible assumption | omega)) | ((with_reducible refine (y_Tr4 ?_ ?_).ty) <;> (first | with_reducible assumption | omega)) | (unfold y_Ty; omega) | (unfold y_Tr; omega)) (by first | with_reducible assumption | omega | ((with_reducible refine y_Vl ?_ ?_) <;> omega) | ((with_reducible refine y_V8 ?_) <;> (first | with_reducible assumption | (unfold y_Tr; omega))) | ((with_reducible refine y_Tr4 ?_ ?_) <;> (first | with_reducible assumption | omega)) | ((with_reducible refine (y_Tr4 ?_ ?_).ty) <;> (first | with_reducible assumption | omega)) | (unfold y_Ty; omega) | (unfold y_Tr; omega)) (by omega)) (fun r_t90 h_r_t90 => ?_)
                  obtain ⟨h0_r_t90, h1_r_t90, h2_r_t90, h3_r_t90⟩ := h_r_t90
                  refine ⟨?_, ?_, ?_, ?_⟩ <;> (first | with_reducible assumption | omega | ((with_reducible refine y_Vl ?_ ?_) <;> omega) | ((with_reducible refine y_V8 ?_) <;> (first | with_reducible assumption | (unfold y_Tr; omega))) | ((with_reducible refine y_Tr4 ?_ ?_) <;> (first | with_reducible assumption | omega)) | ((with_reducible refine (y_Tr4 ?_ ?_).ty) <;> (first | with_reducible assumption | omega)) | (unfold y_Ty; omega) | (unfold y_Tr; omega))
              · skip
                have c85' := c85
                rw [Int32.lt_iff_toInt_lt] at c85'
                refine y_bi (y_X9_single (by omega) (by omega) (by omega)) (fun r_70 h_r_70 => ?_)
                have h0_r_70 : r_70.toInt = 0 ∨ (1 : Int32).toInt ≤ v9_35.toInt := h_r_70
                refine y_if (fun c92 => ?_) (fun c92 => ?_)
                · skip
                  have c92' := c92
                  rw [← Int32.toInt_inj] at c92'
                  refine y_some ?_
                  try dsimp only
                  refine ⟨?_, ?_, ?_, ?_⟩ <;> (first | with_reducible assumption | omega | ((with_reducible refine y_Vl ?_ ?_) <;> omega) | ((with_reducible refine y_V8 ?_) <;> (first | with_reducible assumption | (unfold y_Tr; omega))) | ((with_reducible refine y_Tr4 ?_ ?_) <;> (first | with_reducible assumption | omega)) | ((with_reducible refine (y_Tr4 ?_ ?_).ty) <;> (first | with_reducible assumption | omega)) | (unfold y_Ty; omega) | (unfold y_Tr; omega))
                · skip
                  have c92' := c92
                  rw [← Int32.toInt_inj] at c92'
                  try have e93 := @y_cl (v9_35 - (2 : Int32)) (by omega)
                  try have e94 := k3.at (Int32.toNatClampNeg (v9_35 - (2 : Int32))) (by omega)
                  try have e95 := e94.b
                  try have e96 := @y_subL p1 (89 : Int32) (89) rfl (by omega) (by omega)
                  refine y_Ok.mono (y_X9_moves_L_2 (l1 := 0) (l2 := 0) (l3 := (g9_34 (Int32.toNatClampNeg (v9_35 - (2 : Int32))))) (l4 := 1) (l5 := (p1 - (89 : Int32))) (l6 := 0) (l7 := 0) (g9_34 := g9_34) (g9_61 := g9_61) (by omega) (by omega) (by omega) (by first | with_reducible assumption | omega | ((with_reducible refine y_Vl ?_ ?_) <;> omega) | ((with_reducible refine y_V8 ?_) <;> (first | with_reducible assumption | (unfold y_Tr; omega))) | ((with_reducible refine y_Tr4 ?_ ?_) <;> (first | with_reducible assumption | omega)) | ((with_reducible refine (y_Tr4 ?_ ?_).ty) <;> (first | with_reducible assumption | omega)) | (unfold y_Ty; omega) | (unfold y_Tr; omega)) (by first | with_reducible assumption | omega | ((with_reducible refine y_Vl ?_ ?_) <;> omega) | ((with_reducible refine y_V8 ?_) <;> (first | with_reducible assumption | (unfold y_Tr; omega))) | ((with_reducible refine y_Tr4 ?_ ?_) <;> (first | with_reducible assumption | omega)) | ((with_reducible refine (y_Tr4 ?_ ?_).ty) <;> (first | with_reducible assumption | omega)) | (unfold y_Ty; omega) | (unfold y_Tr; omega)) (by omega) (by omega) (by omega) (by omega) (by first | with_reducible assumption | omega | ((with_reducible refine y_Vl ?_ ?_) <;> omega) | ((with_reducible refine y_V8 ?_) <;> (first | with_reducible assumption | (unfold y_Tr; omega))) | ((with_reducible refine y_Tr4 ?_ ?_) <;> (first | with_reducible assumption | omega)) | ((with_reducible refine (y_Tr4 ?_ ?_).ty) <;> (first | with_reducible assumption | omega)) | (unfold y_Ty; omega) | (unfold y_Tr; omega)) (by first | with_reducible assumption | omega | ((with_reducible refine y_Vl ?_ ?_) <;> omega) | ((with_reducible refine y_V8 ?_) <;> (first | with_reducible assumption | (unfold y_Tr; omega))) | ((with_reducible refine y_Tr4 ?_ ?_) <;> (first | with_reducible assumption | omega)) | ((with_reducible refine (y_Tr4 ?_ ?_).ty) <;> (first | with_reducible assumption | omega)) | (unfold y_Ty; omega) | (unfold y_Tr; omega)) (by omega)) (fun r_t96 h_r_t96 => ?_)
                  obtain ⟨h0_r_t96, h1_r_t96, h2_r_t96, h3_r_t96⟩ := h_r_t96
                  refine ⟨?_, ?_, ?_, ?_⟩ <;> (first | with_reducible assumption | omega | ((with_reducible refine y_Vl ?_ ?_) <;> omega) | ((with_reducible refine y_V8 ?_) <;> (first | with_reducible assumption | (unfold y_Tr; omega))) | ((with_reducible refine y_Tr4 ?_ ?_) <;> (first | with_reducible assumption | omega)) | ((with_reducible refine (y_Tr4 ?_ ?_).ty) <;> (first | with_reducible assumption | omega)) | (unfold y_Ty; omega) | (unfold y_Tr; omega))
  · skip
    have e98 : (0 : Int32).toInt = 0 := rfl
    have c1' := c1
    rw [Int32.le_iff_toInt_le] at c1'
    try have e99 := @y_subL v9_35 (1 : Int32) (1) rfl (by omega) (by omega)
    refine y_gd (y_gdI (by omega) (by omega)) ?_
    refine y_if (fun c100 => ?_) (fun c100 => ?_)
    · skip
      have e101 : (1 : Int32).toInt = 1 := rfl
      have c100' := c100
      rw [Int32.le_iff_toInt_le] at c100'
      refine y_if (fun c102 => ?_) (fun c102 => ?_)
      · skip
        have e103 : (87 : Int32).toInt = 87 := rfl
        have c102' := c102
        rw [← Int32.toInt_inj] at c102'
        refine y_Ok.mono (y_X9_moves_L_0 (l1 := p1) (l2 := 0) (l3 := 0) (l4 := 0) (l5 := 0) (l6 := 0) (l7 := 0) (g9_34 := g9_34) (g9_61 := g9_61) (by omega) (by omega) (by omega) (by first | with_reducible assumption | omega | ((with_reducible refine y_Vl ?_ ?_) <;> omega) | ((with_reducible refine y_V8 ?_) <;> (first | with_reducible assumption | (unfold y_Tr; omega))) | ((with_reducible refine y_Tr4 ?_ ?_) <;> (first | with_reducible assumption | omega)) | ((with_reducible refine (y_Tr4 ?_ ?_).ty) <;> (first | with_reducible assumption | omega)) | (unfold y_Ty; omega) | (unfold y_Tr; omega)) (by first | with_reducible assumption | omega | ((with_reducible refine y_Vl ?_ ?_) <;> omega) | ((with_reducible refine y_V8 ?_) <;> (first | with_reducible assumption | (unfold y_Tr; omega))) | ((with_reducible refine y_Tr4 ?_ ?_) <;> (first | with_reducible assumption | omega)) | ((with_reducible refine (y_Tr4 ?_ ?_).ty) <;> (first | with_reducible assumption | omega)) | (unfold y_Ty; omega) | (unfold y_Tr; omega)) (by omega) (by omega)) (fun r_t103 h_r_t103 => ?_)
        obtain ⟨h0_r_t103, h1_r_t103, h2_r_t103, h3_r_t103⟩ := h_r_t103
        refine ⟨?_, ?_, ?_, ?_⟩ <;> (first | with_reducible assumption | omega | ((with_reducible refine y_Vl ?_ ?_) <;> omega) | ((with_reducible refine y_V8 ?_) <;> (first | with_reducible assumption | (unfold y_Tr; omega))) | ((with_reducible refine y_Tr4 ?_ ?_) <;> (first | with_reducible assumption | omega)) | ((with_reducible refine (y_Tr4 ?_ ?_).ty) <;> (first | with_reducible assumption | omega)) | (unfold y_Ty; omega) | (unfold y_Tr; omega))
      · skip
        have e105 : (87 : Int32).toInt = 87 := rfl
        have c102' := c102
        rw [← Int32.toInt_inj] at c102'
        refine y_if (fun c106 => ?_) (fun c106 => ?_)
        · skip
          have e107 : (88 : Int32).toInt = 88 := rfl
          have c106' := c106
          rw [← Int32.toInt_inj] at c106'
          refine y_Ok.mono (y_X9_moves_L_0 (l1 := p1) (l2 := 0) (l3 := 0) (l4 := 0) (l5 := 0) (l6 := 0) (l7 := 0) (g9_34 := g9_34) (g9_61 := g9_61) (by omega) (by omega) (by omega) (by first | with_reducible assumption | omega | ((with_reducible refine y_Vl ?_ ?_) <;> omega) | ((with_reducible refine y_V8 ?_) <;> (first | with_reducible assumption | (unfold y_Tr; omega))) | ((with_reducible refine y_Tr4 ?_ ?_) <;> (first | with_reducible assumption | omega)) | ((with_reducible refine (y_Tr4 ?_ ?_).ty) <;> (first | with_reducible assumption | omega)) | (unfold y_Ty; omega) | (unfold y_Tr; omega)) (by first | with_reducible assumption | omega | ((with_reducible refine y_Vl ?_ ?_) <;> omega) | ((with_reducible refine y_V8 ?_) <;> (first | with_reducible assumption | (unfold y_Tr; omega))) | ((with_reducible refine y_Tr4 ?_ ?_) <;> (first | with_reducible assumption | omega)) | ((with_reducible refine (y_Tr4 ?_ ?_).ty) <;> (first | with_reducible assumption | omega)) | (unfold y_Ty; omega) | (unfold y_Tr; omega)) (by omega) (by omega)) (fun r_t107 h_r_t107 => ?_)
          obtain ⟨h0_r_t107, h1_r_t107, h2_r_t107, h3_r_t107⟩ := h_r_t107
          refine ⟨?_, ?_, ?_, ?_⟩ <;> (first | with_reducible assumption | omega | ((with_reducible refine y_Vl ?_ ?_) <;> omega) | ((with_reducible refine y_V8 ?_) <;> (first | with_reducible assumption | (unfold y_Tr; omega))) | ((with_reducible refine y_Tr4 ?_ ?_) <;> (first | with_reducible assumption | omega)) | ((with_reducible refine (y_Tr4 ?_ ?_).ty) <;> (first | with_reducible assumption | omega)) | (unfold y_Ty; omega) | (unfold y_Tr; omega))
        · skip
          have e109 : (88 : Int32).toInt = 88 := rfl
          have c106' := c106
          rw [← Int32.toInt_inj] at c106'
          refine y_if (fun c110 => ?_) (fun c110 => ?_)
          · skip
            have e111 : (95 : Int32).toInt = 95 := rfl
            have c110' := c110
            rw [← Int32.toInt_inj] at c110'
            refine y_bi (y_X9_single (by omega) (by omega) (by omega)) (fun r_98 h_r_98 => ?_)
            have h0_r_98 : r_98.toInt = 0 ∨ (1 : Int32).toInt ≤ v9_35.toInt := h_r_98
            refine y_if (fun c112 => ?_) (fun c112 => ?_)
            · skip
              have c112' := c112
              rw [← Int32.toInt_inj] at c112'
              refine y_some ?_
              try dsimp only
              refine ⟨?_, ?_, ?_, ?_⟩ <;> (first | with_reducible assumption | omega | ((with_reducible refine y_Vl ?_ ?_) <;> omega) | ((with_reducible refine y_V8 ?_) <;> (first | with_reducible assumption | (unfold y_Tr; omega))) | ((with_reducible refine y_Tr4 ?_ ?_) <;> (first | with_reducible assumption | omega)) | ((with_reducible refine (y_Tr4 ?_ ?_).ty) <;> (first | with_reducible assumption | omega)) | (unfold y_Ty; omega) | (unfold y_Tr; omega))
            · skip
              have c112' := c112
              rw [← Int32.toInt_inj] at c112'
              have e113 : (2 : Int32).toInt = 2 := rfl
              refine y_bi (y_X9_single (by omega) (by omega) (by omega)) (fun r_100 h_r_100 => ?_)
              have h0_r_100 : r_100.toInt = 0 ∨ (2 : Int32).toInt ≤ v9_35.toInt := h_r_100
              refine y_if (fun c114 => ?_) (fun c114 => ?_)
              · skip
                have c114' := c114
                rw [← Int32.toInt_inj] at c114'
                refine y_some ?_
                try dsimp only
                refine ⟨?_, ?_, ?_, ?_⟩ <;> (first | with_reducible assumption | omega | ((with_reducible refine y_Vl ?_ ?_) <;> omega) | ((with_reducible refine y_V8 ?_) <;> (first | with_reducible assumption | (unfold y_Tr; omega))) | ((with_reducible refine y_Tr4 ?_ ?_) <;> (first | with_reducible assumption | omega)) | ((with_reducible refine (y_Tr4 ?_ ?_).ty) <;> (first | with_reducible assumption | omega)) | (unfold y_Ty; omega) | (unfold y_Tr; omega))
              · skip
                have c114' := c114
                rw [← Int32.toInt_inj] at c114'
                try have e115 := @y_subL v9_35 (2 : Int32) (2) rfl (by omega) (by omega)
                refine y_gd (y_gdI (by omega) (by omega)) ?_
                refine y_gd (y_gdI (by omega) (by omega)) ?_
                try have e116 := @y_cl (v9_35 - (2 : Int32)) (by omega)
                try have e117 := @y_cl (v9_35 - (1 : Int32)) (by omega)
                try have e118 := k3.at (Int32.toNatClampNeg (v9_35 - (1 : Int32))) (by omega)
                try have e119 := e118.b
                try have e120 : y_AV 202 (upd g9_34 (Int32.toNatClampNeg (v9_35 - (2 : Int32))) (g9_34 (Int32.toNatClampNeg (v9_35 - (1 : Int32))))) := y_AV_upd k3 (by first | with_reducible assumption | omega | ((with_reducible refine y_Vl ?_ ?_) <;> omega) | ((with_reducible refine y_V8 ?_) <;> (first | with_reducible assumption | (unfold y_Tr; omega))) | ((with_reducible refine y_Tr4 ?_ ?_) <;> (first | with_reducible assumption | omega)) | ((with_reducible refine (y_Tr4 ?_ ?_).ty) <;> (first | with_reducible assumption | omega)) | (unfold y_Ty; omega) | (unfold y_Tr; omega))
                try have e121 : y_AV 202 (upd (upd g9_34 (Int32.toNatClampNeg (v9_35 - (2 : Int32))) (g9_34 (Int32.toNatClampNeg (v9_35 - (1 : Int32))))) (Int32.toNatClampNeg (v9_35 - (1 : Int32))) (0 : Int32)) := y_AV_upd e120 (by first | with_reducible assumption | omega | ((with_reducible refine y_Vl ?_ ?_) <;> omega) | ((with_reducible refine y_V8 ?_) <;> (first | with_reducible assumption | (unfold y_Tr; omega))) | ((with_reducible refine y_Tr4 ?_ ?_) <;> (first | with_reducible assumption | omega)) | ((with_reducible refine (y_Tr4 ?_ ?_).ty) <;> (first | with_reducible assumption | omega)) | (unfold y_Ty; omega) | (unfold y_Tr; omega))
                refine y_some ?_
                try dsimp only
                refine ⟨?_, ?_, ?_, ?_⟩ <;> (first | with_reducible assumption | omega | ((with_reducible refine y_Vl ?_ ?_) <;> omega) | ((with_reducible refine y_V8 ?_) <;> (first | with_reducible assumption | (unfold y_Tr; omega))) | ((with_reducible refine y_Tr4 ?_ ?_) <;> (first | with_reducible assumption | omega)) | ((with_reducible refine (y_Tr4 ?_ ?_).ty) <;> (first | with_reducible assumption | omega)) | (unfold y_Ty; omega) | (unfold y_Tr; omega))
          · skip
            have e122 : (95 : Int32).toInt = 95 := rfl
            have c110' := c110
            rw [← Int32.toInt_inj] at c110'
            refine y_if (fun c123 => ?_) (fun c123 => ?_)
            · skip
              have e124 : (91 : Int32).toInt = 91 := rfl
              have c123' := c123
              rw [Int32.lt_iff_toInt_lt] at c123'
              refine y_if (fun c125 => ?_) (fun c125 => ?_)
              · skip
                have c125' := c125
                rw [Int32.lt_iff_toInt_lt] at c125'
                have e126 : (2 : Int32).toInt = 2 := rfl
                refine y_bi (y_X9_pair (by omega) (by omega) (by omega)) (fun r_86 h_r_86 => ?_)
                have h0_r_86 : r_86.toInt = 0 ∨ (2 : Int32).toInt ≤ v9_35.toInt := h_r_86
                refine y_if (fun c127 => ?_) (fun c127 => ?_)
                · skip
                  have c127' := c127
                  rw [← Int32.toInt_inj] at c127'
                  refine y_some ?_
                  try dsimp only
                  refine ⟨?_, ?_, ?_, ?_⟩ <;> (first | with_reducible assumption | omega | ((with_reducible refine y_Vl ?_ ?_) <;> omega) | ((with_reducible refine y_V8 ?_) <;> (first | with_reducible assumption | (unfold y_Tr; omega))) | ((with_reducible refine y_Tr4 ?_ ?_) <;> (first | with_reducible assumption | omega)) | ((with_reducible refine (y_Tr4 ?_ ?_).ty) <;> (first | with_reducible assumption | omega)) | (unfold y_Ty; omega) | (unfold y_Tr; omega))
                · skip
                  have c127' := c127
                  rw [← Int32.toInt_inj] at c127'
                  try have e128 := @y_cl (v9_35 - (1 : Int32)) (by omega)
                  try have e129 := k3.at (Int32.toNatClampNeg (v9_35 - (1 : Int32))) (by omega)
                  try have e130 := e129.b
                  try have e131 := @y_subL p1 (92 : Int32) (92) rfl (by omega) (by omega)
                  refine y_Ok.mono (y_X9_moves_L_2 (l1 := 0) (l2 := (g9_34 (Int32.toNatClampNeg (v9_35 - (1 : Int32))))) (l3 := 0) (l4 := 2) (l5 := (p1 - (92 : Int32))) (l6 := 0) (l7 := 0) (g9_34 := g9_34) (g9_61 := g9_61) (by omega) (by omega) (by omega) (by first | with_reducible assumption | omega | ((with_reducible refine y_Vl ?_ ?_) <;> omega) | ((with_reducible refine y_V8 ?_) <;> (first | with_reducible assumption | (unfold y_Tr; omega))) | ((with_reducible refine y_Tr4 ?_ ?_) <;> (first | with_reducible assumption | omega)) | ((with_reducible refine (y_Tr4 ?_ ?_).ty) <;> (first | with_reducible assumption | omega)) | (unfold y_Ty; omega) | (unfold y_Tr; omega)) (by first | with_reducible assumption | omega | ((with_reducible refine y_Vl ?_ ?_) <;> omega) | ((with_reducible refine y_V8 ?_) <;> (first | with_reducible assumption | (unfold y_Tr; omega))) | ((with_reducible refine y_Tr4 ?_ ?_) <;> (first | with_reducible assumption | omega)) | ((with_reducible refine (y_Tr4 ?_ ?_).ty) <;> (first | with_reducible assumption | omega)) | (unfold y_Ty; omega) | (unfold y_Tr; omega)) (by omega) (by omega) (by omega) (by omega) (by first | with_reducible assumption | omega | ((with_reducible refine y_Vl ?_ ?_) <;> omega) | ((with_reducible refine y_V8 ?_) <;> (first | with_reducible assumption | (unfold y_Tr; omega))) | ((with_reducible refine y_Tr4 ?_ ?_) <;> (first | with_reducible assumption | omega)) | ((with_reducible refine (y_Tr4 ?_ ?_).ty) <;> (first | with_reducible assumption | omega)) | (unfold y_Ty; omega) | (unfold y_Tr; omega)) (by first | with_reducible assumption | omega | ((with_reducible refine y_Vl ?_ ?_) <;> omega) | ((with_reducible refine y_V8 ?_) <;> (first | with_reducible assumption | (unfold y_Tr; omega))) | ((with_reducible refine y_Tr4 ?_ ?_) <;> (first | with_reducible assumption | omega)) | ((with_reducible refine (y_Tr4 ?_ ?_).ty) <;> (first | with_reducible assumption | omega)) | (unfold y_Ty; omega) | (unfold y_Tr; omega)) (by omega)) (fun r_t131 h_r_t131 => ?_)
                  obtain ⟨h0_r_t131, h1_r_t131, h2_r_t131, h3_r_t131⟩ := h_r_t131
                  refine ⟨?_, ?_, ?_, ?_⟩ <;> (first | with_reducible assumption | omega | ((with_reducible refine y_Vl ?_ ?_) <;> omega) | ((with_reducible refine y_V8 ?_) <;> (first | with_reducible assumption | (unfold y_Tr; omega))) | ((with_reducible refine y_Tr4 ?_ ?_) <;> (first | with_reducible assumption | omega)) | ((with_reducible refine (y_Tr4 ?_ ?_).ty) <;> (first | with_reducible assumption | omega)) | (unfold y_Ty; omega) | (unfold y_Tr; omega))
              · skip
                have c125' := c125
                rw [Int32.lt_iff_toInt_lt] at c125'
                have e133 : (2 : Int32).toInt = 2 := rfl
                refine y_bi (y_X9_pair (by omega) (by omega) (by omega)) (fun r_89 h_r_89 => ?_)
                have h0_r_89 : r_89.toInt = 0 ∨ (2 : Int32).toInt ≤ v9_35.toInt := h_r_89
                refine y_if (fun c134 => ?_) (fun c134 => ?_)
                · skip
                  have c134' := c134
                  rw [← Int32.toInt_inj] at c134'
                  refine y_some ?_
                  try dsimp only
                  refine ⟨?_, ?_, ?_, ?_⟩ <;> (first | with_reducible assumption | omega | ((with_reducible refine y_Vl ?_ ?_) <;> omega) | ((with_reducible refine y_V8 ?_) <;> (first | with_reducible assumption | (unfold y_Tr; omega))) | ((with_reducible refine y_Tr4 ?_ ?_) <;> (first | with_reducible assumption | omega)) | ((with_reducible refine (y_Tr4 ?_ ?_).ty) <;> (first | with_reducible assumption | omega)) | (unfold y_Ty; omega) | (unfold y_Tr; omega))
                · skip
                  have c134' := c134
                  rw [← Int32.toInt_inj] at c134'
                  try have e135 := @y_cl (v9_35 - (1 : Int32)) (by omega)
                  try have e136 := k3.at (Int32.toNatClampNeg (v9_35 - (1 : Int32))) (by omega)
                  try have e137 := e136.b
                  try have e138 := @y_subL p1 (89 : Int32) (89) rfl (by omega) (by omega)
                  refine y_Ok.mono (y_X9_moves_L_2 (l1 := 0) (l2 := (g9_34 (Int32.toNatClampNeg (v9_35 - (1 : Int32))))) (l3 := 0) (l4 := 2) (l5 := (p1 - (89 : Int32))) (l6 := 0) (l7 := 0) (g9_34 := g9_34) (g9_61 := g9_61) (by omega) (by omega) (by omega) (by first | with_reducible assumption | omega | ((with_reducible refine y_Vl ?_ ?_) <;> omega) | ((with_reducible refine y_V8 ?_) <;> (first | with_reducible assumption | (unfold y_Tr; omega))) | ((with_reducible refine y_Tr4 ?_ ?_) <;> (first | with_reducible assumption | omega)) | ((with_reducible refine (y_Tr4 ?_ ?_).ty) <;> (first | with_reducible assumption | omega)) | (unfold y_Ty; omega) | (unfold y_Tr; omega)) (by first | with_reducible assumption | omega | ((with_reducible refine y_Vl ?_ ?_) <;> omega) | ((with_reducible refine y_V8 ?_) <;> (first | with_reducible assumption | (unfold y_Tr; omega))) | ((with_reducible refine y_Tr4 ?_ ?_) <;> (first | with_reducible assumption | omega)) | ((with_reducible refine (y_Tr4 ?_ ?_).ty) <;> (first | with_reducible assumption | omega)) | (unfold y_Ty; omega) | (unfold y_Tr; omega)) (by omega) (by omega) (by omega) (by omega) (by first | with_reducible assumption | omega | ((with_reducible refine y_Vl ?_ ?_) <;> omega) | ((with_reducible refine y_V8 ?_) <;> (first | with_reducible assumption | (unfold y_Tr; omega))) | ((with_reducible refine y_Tr4 ?_ ?_) <;> (first | with_reducible assumption | omega)) | ((with_reducible refine (y_Tr4 ?_ ?_).ty) <;> (first | with_reducible assumption | omega)) | (unfold y_Ty; omega) | (unfold y_Tr; omega)) (by first | with_reducible assumption | omega | ((with_reducible refine y_Vl ?_ ?_) <;> omega) | ((with_reducible refine y_V8 ?_) <;> (first | with_reducible assumption | (unfold y_Tr; omega))) | ((with_reducible refine y_Tr4 ?_ ?_) <;> (first | with_reducible assumption | omega)) | ((with_reducible refine (y_Tr4 ?_ ?_).ty) <;> (first | with_reducible assumption | omega)) | (unfold y_Ty; omega) | (unfold y_Tr; omega)) (by omega)) (fun r_t138 h_r_t138 => ?_)
                  obtain ⟨h0_r_t138, h1_r_t138, h2_r_t138, h3_r_t138⟩ := h_r_t138
                  refine ⟨?_, ?_, ?_, ?_⟩ <;> (first | with_reducible assumption | omega | ((with_reducible refine y_Vl ?_ ?_) <;> omega) | ((with_reducible refine y_V8 ?_) <;> (first | with_reducible assumption | (unfold y_Tr; omega))) | ((with_reducible refine y_Tr4 ?_ ?_) <;> (first | with_reducible assumption | omega)) | ((with_reducible refine (y_Tr4 ?_ ?_).ty) <;> (first | with_reducible assumption | omega)) | (unfold y_Ty; omega) | (unfold y_Tr; omega))
            · skip
              have e140 : (91 : Int32).toInt = 91 := rfl
              have c123' := c123
              rw [Int32.lt_iff_toInt_lt] at c123'
              refine y_if (fun c141 => ?_) (fun c141 => ?_)
              · skip
                have c141' := c141
                rw [Int32.lt_iff_toInt_lt] at c141'
                refine y_bi (y_X9_single (by omega) (by omega) (by omega)) (fun r_93 h_r_93 => ?_)
                have h0_r_93 : r_93.toInt = 0 ∨ (1 : Int32).toInt ≤ v9_35.toInt := h_r_93
                refine y_if (fun c142 => ?_) (fun c142 => ?_)
                · skip
                  have c142' := c142
                  rw [← Int32.toInt_inj] at c142'
                  refine y_some ?_
                  try dsimp only
                  refine ⟨?_, ?_, ?_, ?_⟩ <;> (first | with_reducible assumption | omega | ((with_reducible refine y_Vl ?_ ?_) <;> omega) | ((with_reducible refine y_V8 ?_) <;> (first | with_reducible assumption | (unfold y_Tr; omega))) | ((with_reducible refine y_Tr4 ?_ ?_) <;> (first | with_reducible assumption | omega)) | ((with_reducible refine (y_Tr4 ?_ ?_).ty) <;> (first | with_reducible assumption | omega)) | (unfold y_Ty; omega) | (unfold y_Tr; omega))
                · skip
                  have c142' := c142
                  rw [← Int32.toInt_inj] at c142'
                  try have e143 := @y_cl (v9_35 - (1 : Int32)) (by omega)
                  try have e144 := k3.at (Int32.toNatClampNeg (v9_35 - (1 : Int32))) (by omega)
                  try have e145 := e144.b
                  try have e146 := @y_subL p1 (92 : Int32) (92) rfl (by omega) (by omega)
                  refine y_Ok.mono (y_X9_moves_L_2 (l1 := 0) (l2 := (g9_34 (Int32.toNatClampNeg (v9_35 - (1 : Int32))))) (l3 := 0) (l4 := 1) (l5 := (p1 - (92 : Int32))) (l6 := 0) (l7 := 0) (g9_34 := g9_34) (g9_61 := g9_61) (by omega) (by omega) (by omega) (by first | with_reducible assumption | omega | ((with_reducible refine y_Vl ?_ ?_) <;> omega) | ((with_reducible refine y_V8 ?_) <;> (first | with_reducible assumption | (unfold y_Tr; omega))) | ((with_reducible refine y_Tr4 ?_ ?_) <;> (first | with_reducible assumption | omega)) | ((with_reducible refine (y_Tr4 ?_ ?_).ty) <;> (first | with_reducible assumption | omega)) | (unfold y_Ty; omega) | (unfold y_Tr; omega)) (by first | with_reducible assumption | omega | ((with_reducible refine y_Vl ?_ ?_) <;> omega) | ((with_reducible refine y_V8 ?_) <;> (first | with_reducible assumption | (unfold y_Tr; omega))) | ((with_reducible refine y_Tr4 ?_ ?_) <;> (first | with_reducible assumption | omega)) | ((with_reducible refine (y_Tr4 ?_ ?_).ty) <;> (first | with_reducible assumption | omega)) | (unfold y_Ty; omega) | (unfold y_Tr; omega)) (by omega) (by omega) (by omega) (by omega) (by first | with_reducible assumption | omega | ((with_reducible refine y_Vl ?_ ?_) <;> omega) | ((with_reducible refine y_V8 ?_) <;> (first | with_reducible assumption | (unfold y_Tr; omega))) | ((with_reducible refine y_Tr4 ?_ ?_) <;> (first | with_reducible assumption | omega)) | ((with_reducible refine (y_Tr4 ?_ ?_).ty) <;> (first | with_reducible assumption | omega)) | (unfold y_Ty; omega) | (unfold y_Tr; omega)) (by first | with_reducible assumption | omega | ((with_reducible refine y_Vl ?_ ?_) <;> omega) | ((with_reducible refine y_V8 ?_) <;> (first | with_reducible assumption | (unfold y_Tr; omega))) | ((with_reducible refine y_Tr4 ?_ ?_) <;> (first | with_reducible assumption | omega)) | ((with_reducible refine (y_Tr4 ?_ ?_).ty) <;> (first | with_reducible assumption | omega)) | (unfold y_Ty; omega) | (unfold y_Tr; omega)) (by omega)) (fun r_t146 h_r_t146 => ?_)
                  obtain ⟨h0_r_t146, h1_r_t146, h2_r_t146, h3_r_t146⟩ := h_r_t146
                  refine ⟨?_, ?_, ?_, ?_⟩ <;> (first | with_reducible assumption | omega | ((with_reducible refine y_Vl ?_ ?_) <;> omega) | ((with_reducible refine y_V8 ?_) <;> (first | with_reducible assumption | (unfold y_Tr; omega))) | ((with_reducible refine y_Tr4 ?_ ?_) <;> (first | with_reducible assumption | omega)) | ((with_reducible refine (y_Tr4 ?_ ?_).ty) <;> (first | with_reducible assumption | omega)) | (unfold y_Ty; omega) | (unfold y_Tr; omega))
              · skip
                have c141' := c141
                rw [Int32.lt_iff_toInt_lt] at c141'
                refine y_bi (y_X9_single (by omega) (by omega) (by omega)) (fun r_96 h_r_96 => ?_)
                have h0_r_96 : r_96.toInt = 0 ∨ (1 : Int32).toInt ≤ v9_35.toInt := h_r_96
                refine y_if (fun c148 => ?_) (fun c148 => ?_)
                · skip
                  have c148' := c148
                  rw [← Int32.toInt_inj] at c148'
                  refine y_some ?_
                  try dsimp only
                  refine ⟨?_, ?_, ?_, ?_⟩ <;> (first | with_reducible assumption | omega | ((with_reducible refine y_Vl ?_ ?_) <;> omega) | ((with_reducible refine y_V8 ?_) <;> (first | with_reducible assumption | (unfold y_Tr; omega))) | ((with_reducible refine y_Tr4 ?_ ?_) <;> (first | with_reducible assumption | omega)) | ((with_reducible refine (y_Tr4 ?_ ?_).ty) <;> (first | with_reducible assumption | omega)) | (unfold y_Ty; omega) | (unfold y_Tr; omega))
                · skip
                  have c148' := c148
                  rw [← Int32.toInt_inj] at c148'
                  try have e149 := @y_cl (v9_35 - (1 : Int32)) (by omega)
                  try have e150 := k3.at (Int32.toNatClampNeg (v9_35 - (1 : Int32))) (by omega)
                  try have e151 := e150.b
                  try have e152 := @y_subL p1 (89 : Int32) (89) rfl (by omega) (by omega)
                  refine y_Ok.mono (y_X9_moves_L_2 (l1 := 0) (l2 := (g9_34 (Int32.toNatClampNeg (v9_35 - (1 : Int32))))) (l3 := 0) (l4 := 1) (l5 := (p1 - (89 : Int32))) (l6 := 0) (l7 := 0) (g9_34 := g9_34) (g9_61 := g9_61) (by omega) (by omega) (by omega) (by first | with_reducible assumption | omega | ((with_reducible refine y_Vl ?_ ?_) <;> omega) | ((with_reducible refine y_V8 ?_) <;> (first | with_reducible assumption | (unfold y_Tr; omega))) | ((with_reducible refine y_Tr4 ?_ ?_) <;> (first | with_reducible assumption | omega)) | ((with_reducible refine (y_Tr4 ?_ ?_).ty) <;> (first | with_reducible assumption | omega)) | (unfold y_Ty; omega) | (unfold y_Tr; omega)) (by first | with_reducible assumption | omega | ((with_reducible refine y_Vl ?_ ?_) <;> omega) | ((with_reducible refine y_V8 ?_) <;> (first | with_reducible assumption | (unfold y_Tr; omega))) | ((with_reducible refine y_Tr4 ?_ ?_) <;> (first | with_reducible assumption | omega)) | ((with_reducible refine (y_Tr4 ?_ ?_).ty) <;> (first | with_reducible assumption | omega)) | (unfold y_Ty; omega) | (unfold y_Tr; omega)) (by omega) (by omega) (by omega) (by omega) (by first | with_reducible assumption | omega | ((with_reducible refine y_Vl ?_ ?_) <;> omega) | ((with_reducible refine y_V8 ?_) <;> (first | with_reducible assumption | (unfold y_Tr; omega))) | ((with_reducible refine y_Tr4 ?_ ?_) <;> (first | with_reducible assumption | omega)) | ((with_reducible refine (y_Tr4 ?_ ?_).ty) <;> (first | with_reducible assumption | omega)) | (unfold y_Ty; omega) | (unfold y_Tr; omega)) (by first | with_reducible assumption | omega | ((with_reducible refine y_Vl ?_ ?_) <;> omega) | ((with_reducible refine y_V8 ?_) <;> (first | with_reducible assumption | (unfold y_Tr; omega))) | ((with_reducible refine y_Tr4 ?_ ?_) <;> (first | with_reducible assumption | omega)) | ((with_reducible refine (y_Tr4 ?_ ?_).ty) <;> (first | with_reducible assumption | omega)) | (unfold y_Ty; omega) | (unfold y_Tr; omega)) (by omega)) (fun r_t152 h_r_t152 => ?_)
                  obtain ⟨h0_r_t152, h1_r_t152, h2_r_t152, h3_r_t152⟩ := h_r_t152
                  refine ⟨?_, ?_, ?_, ?_⟩ <;> (first | with_reducible assumption | omega | ((with_reducible refine y_Vl ?_ ?_) <;> omega) | ((with_reducible refine y_V8 ?_) <;> (first | with_reducible assumption | (unfold y_Tr; omega))) | ((with_reducible refine y_Tr4 ?_ ?_) <;> (first | with_reducible assumption | omega)) | ((with_reducible refine (y_Tr4 ?_ ?_).ty) <;> (first | with_reducible assumption | omega)) | (unfold y_Ty; omega) | (unfold y_Tr; omega))
    · skip
      have e154 : (1 : Int32).toInt = 1 := rfl
      have c100' := c100
      rw [Int32.le_iff_toInt_le] at c100'
      try have e155 := @y_subL v9_35 (2 : Int32) (2) rfl (by omega) (by omega)
      refine y_gd (y_gdI (by omega) (by omega)) ?_
      refine y_if (fun c156 => ?_) (fun c156 => ?_)
      · skip
        have e157 : (87 : Int32).toInt = 87 := rfl
        have c156' := c156
        rw [← Int32.toInt_inj] at c156'
        refine y_Ok.mono (y_X9_moves_L_0 (l1 := p1) (l2 := 0) (l3 := 0) (l4 := 0) (l5 := 0) (l6 := 0) (l7 := 0) (g9_34 := g9_34) (g9_61 := g9_61) (by omega) (by omega) (by omega) (by first | with_reducible assumption | omega | ((with_reducible refine y_Vl ?_ ?_) <;> omega) | ((with_reducible refine y_V8 ?_) <;> (first | with_reducible assumption | (unfold y_Tr; omega))) | ((with_reducible refine y_Tr4 ?_ ?_) <;> (first | with_reducible assumption | omega)) | ((with_reducible refine (y_Tr4 ?_ ?_).ty) <;> (first | with_reducible assumption | omega)) | (unfold y_Ty; omega) | (unfold y_Tr; omega)) (by first | with_reducible assumption | omega | ((with_reducible refine y_Vl ?_ ?_) <;> omega) | ((with_reducible refine y_V8 ?_) <;> (first | with_reducible assumption | (unfold y_Tr; omega))) | ((with_reducible refine y_Tr4 ?_ ?_) <;> (first | with_reducible assumption | omega)) | ((with_reducible refine (y_Tr4 ?_ ?_).ty) <;> (first | with_reducible assumption | omega)) | (unfold y_Ty; omega) | (unfold y_Tr; omega)) (by omega) (by omega)) (fun r_t157 h_r_t157 => ?_)
        obtain ⟨h0_r_t157, h1_r_t157, h2_r_t157, h3_r_t157⟩ := h_r_t157
        refine ⟨?_, ?_, ?_, ?_⟩ <;> (first | with_reducible assumption | omega | ((with_reducible refine y_Vl ?_ ?_) <;> omega) | ((with_reducible refine y_V8 ?_) <;> (first | with_reducible assumption | (unfold y_Tr; omega))) | ((with_reducible refine y_Tr4 ?_ ?_) <;> (first | with_reducible assumption | omega)) | ((with_reducible refine (y_Tr4 ?_ ?_).ty) <;> (first | with_reducible assumption | omega)) | (unfold y_Ty; omega) | (unfold y_Tr; omega))
      · skip
        have e159 : (87 : Int32).toInt = 87 := rfl
        have c156' := c156
        rw [← Int32.toInt_inj] at c156'
        refine y_if (fun c160 => ?_) (fun c160 => ?_)
        · skip
          have e161 : (88 : Int32).toInt = 88 := rfl
          have c160' := c160
          rw [← Int32.toInt_inj] at c160'
          refine y_Ok.mono (y_X9_moves_L_0 (l1 := p1) (l2 := 0) (l3 := 0) (l4 := 0) (l5 := 0) (l6 := 0) (l7 := 0) (g9_34 := g9_34) (g9_61 := g9_61) (by omega) (by omega) (by omega) (by first | with_reducible assumption | omega | ((with_reducible refine y_Vl ?_ ?_) <;> omega) | ((with_reducible refine y_V8 ?_) <;> (first | with_reducible assumption | (unfold y_Tr; omega))) | ((with_reducible refine y_Tr4 ?_ ?_) <;> (first | with_reducible assumption | omega)) | ((with_reducible refine (y_Tr4 ?_ ?_).ty) <;> (first | with_reducible assumption | omega)) | (unfold y_Ty; omega) | (unfold y_Tr; omega)) (by first | with_reducible assumption | omega | ((with_reducible refine y_Vl ?_ ?_) <;> omega) | ((with_reducible refine y_V8 ?_) <;> (first | with_reducible assumption | (unfold y_Tr; omega))) | ((with_reducible refine y_Tr4 ?_ ?_) <;> (first | with_reducible assumption | omega)) | ((with_reducible refine (y_Tr4 ?_ ?_).ty) <;> (first | with_reducible assumption | omega)) | (unfold y_Ty; omega) | (unfold y_Tr; omega)) (by omega) (by omega)) (fun r_t161 h_r_t161 => ?_)
          obtain ⟨h0_r_t161, h1_r_t161, h2_r_t161, h3_r_t161⟩ := h_r_t161
          refine ⟨?_, ?_, ?_, ?_⟩ <;> (first | with_reducible assumption | omega | ((with_reducible refine y_Vl ?_ ?_) <;> omega) | ((with_reducible refine y_V8 ?_) <;> (first | with_reducible assumption | (unfold y_Tr; omega))) | ((with_reducible refine y_Tr4 ?_ ?_) <;> (first | with_reducible assumption | omega)) | ((with_reducible refine (y_Tr4 ?_ ?_).ty) <;> (first | with_reducible assumption | omega)) | (unfold y_Ty; omega) | (unfold y_Tr; omega))
        · skip
          have e163 : (88 : Int32).toInt = 88 := rfl
          have c160' := c160
          rw [← Int32.toInt_inj] at c160'
          refine y_if (fun c164 => ?_) (fun c164 => ?_)
          · skip
            have e165 : (95 : Int32).toInt = 95 := rfl
            have c164' := c164
            rw [← Int32.toInt_inj] at c164'
            refine y_bi (y_X9_single (by omega) (by omega) (by omega)) (fun r_123 h_r_123 => ?_)
            have h0_r_123 : r_123.toInt = 0 ∨ (1 : Int32).toInt ≤ v9_35.toInt := h_r_123
            refine y_if (fun c166 => ?_) (fun c166 => ?_)
            · skip
              have c166' := c166
              rw [← Int32.toInt_inj] at c166'
              refine y_some ?_
              try dsimp only
              refine ⟨?_, ?_, ?_, ?_⟩ <;> (first | with_reducible assumption | omega | ((with_reducible refine y_Vl ?_ ?_) <;> omega) | ((with_reducible refine y_V8 ?_) <;> (first | with_reducible assumption | (unfold y_Tr; omega))) | ((with_reducible refine y_Tr4 ?_ ?_) <;> (first | with_reducible assumption | omega)) | ((with_reducible refine (y_Tr4 ?_ ?_).ty) <;> (first | with_reducible assumption | omega)) | (unfold y_Ty; omega) | (unfold y_Tr; omega))
            · skip
              have c166' := c166
              rw [← Int32.toInt_inj] at c166'
              have e167 : (2 : Int32).toInt = 2 := rfl
              refine y_bi (y_X9_single (by omega) (by omega) (by omega)) (fun r_125 h_r_125 => ?_)
              have h0_r_125 : r_125.toInt = 0 ∨ (2 : Int32).toInt ≤ v9_35.toInt := h_r_125
              refine y_if (fun c168 => ?_) (fun c168 => ?_)
              · skip
                have c168' := c168
                rw [← Int32.toInt_inj] at c168'
                refine y_some ?_
                try dsimp only
                refine ⟨?_, ?_, ?_, ?_⟩ <;> (first | with_reducible assumption | omega | ((with_reducible refine y_Vl ?_ ?_) <;> omega) | ((with_reducible refine y_V8 ?_) <;> (first | with_reducible assumption | (unfold y_Tr; omega))) | ((with_reducible refine y_Tr4 ?_ ?_) <;> (first | with_reducible assumption | omega)) | ((with_reducible refine (y_Tr4 ?_ ?_).ty) <;> (first | with_reducible assumption | omega)) | (unfold y_Ty; omega) | (unfold y_Tr; omega))
              · skip
                have c168' := c168
                rw [← Int32.toInt_inj] at c168'
                refine y_gd (y_gdI (by omega) (by omega)) ?_
                refine y_gd (y_gdI (by omega) (by omega)) ?_
                try have e169 := @y_cl (v9_35 - (2 : Int32)) (by omega)
                try have e170 := @y_cl (v9_35 - (1 : Int32)) (by omega)
                try have e171 := k3.at (Int32.toNatClampNeg (v9_35 - (1 : Int32))) (by omega)
                try have e172 := e171.b
                try have e173 : y_AV 202 (upd g9_34 (Int32.toNatClampNeg (v9_35 - (2 : Int32))) (g9_34 (Int32.toNatClampNeg (v9_35 - (1 : Int32))))) := y_AV_upd k3 (by first | with_reducible assumption | omega | ((with_reducible refine y_Vl ?_ ?_) <;> omega) | ((with_reducible refine y_V8 ?_) <;> (first | with_reducible assumption | (unfold y_Tr; omega))) | ((with_reducible refine y_Tr4 ?_ ?_) <;> (first | with_reducible assumption | omega)) | ((with_reducible refine (y_Tr4 ?_ ?_).ty) <;> (first | with_reducible assumption | omega)) | (unfold y_Ty; omega) | (unfold y_Tr; omega))
                try have e174 := k3.at (Int32.toNatClampNeg (v9_35 - (2 : Int32))) (by omega)
                try have e175 := e174.b
                try have e176 : y_AV 202 (upd (upd g9_34 (Int32.toNatClampNeg (v9_35 - (2 : Int32))) (g9_34 (Int32.toNatClampNeg (v9_35 - (1 : Int32))))) (Int32.toNatClampNeg (v9_35 - (1 : Int32))) (g9_34 (Int32.toNatClampNeg (v9_35 - (2 : Int32))))) := y_AV_upd e173 (by first | with_reducible assumption | omega | ((with_reducible refine y_Vl ?_ ?_) <;> omega) | ((with_reducible refine y_V8 ?_) <;> (first | with_reducible assumption | (unfold y_Tr; omega))) | ((with_reducible refine y_Tr4 ?_ ?_) <;> (first | with_reducible assumption | omega)) | ((with_reducible refine (y_Tr4 ?_ ?_).ty) <;> (first | with_reducible assumption | omega)) | (unfold y_Ty; omega) | (unfold y_Tr; omega))
                refine y_some ?_
                try dsimp only
                refine ⟨?_, ?_, ?_, ?_⟩ <;> (first | with_reducible assumption | omega | ((with_reducible refine y_Vl ?_ ?_) <;> omega) | ((with_reducible refine y_V8 ?_) <;> (first | with_reducible assumption | (unfold y_Tr; omega))) | ((with_reducible refine y_Tr4 ?_ ?_) <;> (first | with_reducible assumption | omega)) | ((with_reducible refine (y_Tr4 ?_ ?_).ty) <;> (first | with_reducible assumption | omega)) | (unfold y_Ty; omega) | (unfold y_Tr; omega))
          · skip
            have e177 : (95 : Int32).toInt = 95 := rfl
            have c164' := c164
            rw [← Int32.toInt_inj] at c164'
            refine y_if (fun c178 => ?_) (fun c178 => ?_)
            · skip
              have e179 : (91 : Int32).toInt = 91 := rfl
              have c178' := c178
              rw [Int32.lt_iff_toInt_lt] at c178'
              refine y_if (fun c180 => ?_) (fun c180 => ?_)
              · skip
                have c180' := c180
                rw [Int32.lt_iff_toInt_lt] at c180'
                have e181 : (2 : Int32).toInt = 2 := rfl
                refine y_bi (y_X9_pair (by omega) (by omega) (by omega)) (fun r_111 h_r_111 => ?_)
                have h0_r_111 : r_111.toInt = 0 ∨ (2 : Int32).toInt ≤ v9_35.toInt := h_r_111
                refine y_if (fun c182 => ?_) (fun c182 => ?_)
                · skip
                  have c182' := c182
                  rw [← Int32.toInt_inj] at c182'
                  refine y_some ?_
                  try dsimp only
                  refine ⟨?_, ?_, ?_, ?_⟩ <;> (first | with_reducible assumption | omega | ((with_reducible refine y_Vl ?_ ?_) <;> omega) | ((with_reducible refine y_V8 ?_) <;> (first | with_reducible assumption | (unfold y_Tr; omega))) | ((with_reducible refine y_Tr4 ?_ ?_) <;> (first | with_reducible assumption | omega)) | ((with_reducible refine (y_Tr4 ?_ ?_).ty) <;> (first | with_reducible assumption | omega)) | (unfold y_Ty; omega) | (unfold y_Tr; omega))
                · skip
                  have c182' := c182
                  rw [← Int32.toInt_inj] at c182'
                  try have e183 := @y_cl (v9_35 - (1 : Int32)) (by omega)
                  try have e184 := k3.at (Int32.toNatClampNeg (v9_35 - (1 : Int32))) (by omega)
                  try have e185 := e184.b
                  try have e186 := @y_cl (v9_35 - (2 : Int32)) (by omega)
                  try have e187 := k3.at (Int32.toNatClampNeg (v9_35 - (2 : Int32))) (by omega)
                  try have e188 := e187.b
                  try have e189 := @y_subL p1 (92 : Int32) (92) rfl (by omega) (by omega)
                  refine y_Ok.mono (y_X9_moves_L_2 (l1 := 0) (l2 := (g9_34 (Int32.toNatClampNeg (v9_35 - (1 : Int32))))) (l3 := (g9_34 (Int32.toNatClampNeg (v9_35 - (2 : Int32))))) (l4 := 2) (l5 := (p1 - (92 : Int32))) (l6 := 0) (l7 := 0) (g9_34 := g9_34) (g9_61 := g9_61) (by omega) (by omega) (by omega) (by first | with_reducible assumption | omega | ((with_reducible refine y_Vl ?_ ?_) <;> omega) | ((with_reducible refine y_V8 ?_) <;> (first | with_reducible assumption | (unfold y_Tr; omega))) | ((with_reducible refine y_Tr4 ?_ ?_) <;> (first | with_reducible assumption | omega)) | ((with_reducible refine (y_Tr4 ?_ ?_).ty) <;> (first | with_reducible assumption | omega)) | (unfold y_Ty; omega) | (unfold y_Tr; omega)) (by first | with_reducible assumption | omega | ((with_reducible refine y_Vl ?_ ?_) <;> omega) | ((with_reducible refine y_V8 ?_) <;> (first | with_reducible assumption | (unfold y_Tr; omega))) | ((with_reducible refine y_Tr4 ?_ ?_) <;> (first | with_reducible assumption | omega)) | ((with_reducible refine (y_Tr4 ?_ ?_).ty) <;> (first | with_reducible assumption | omega)) | (unfold y_Ty; omega) | (unfold y_Tr; omega)) (by omega) (by omega) (by omega) (by omega) (by first | with_reducible assumption | omega | ((with_reducible refine y_Vl ?_ ?_) <;> omega) | ((with_reducible refine y_V8 ?_) <;> (first | with_reducible assumption | (unfold y_Tr; omega))) | ((with_reducible refine y_Tr4 ?_ ?_) <;> (first | with_reducible assumption | omega)) | ((with_reducible refine (y_Tr4 ?_ ?_).ty) <;> (first | with_reducible assumption | omega)) | (unfold y_Ty; omega) | (unfold y_Tr; omega)) (by first | with_reducible assumption | omega | ((with_reducible refine y_Vl ?_ ?_) <;> omega) | ((with_reducible refine y_V8 ?_) <;> (first | with_reducible assumption | (unfold y_Tr; omega))) | ((with_reducible refine y_Tr4 ?_ ?_) <;> (first | with_reducible assumption | omega)) | ((with_reducible refine (y_Tr4 ?_ ?_).ty) <;> (first | with_reducible assumption | omega)) | (unfold y_Ty; omega) | (unfold y_Tr; omega)) (by omega)) (fun r_t189 h_r_t189 => ?_)
                  obtain ⟨h0_r_t189, h1_r_t189, h2_r_t189, h3_r_t189⟩ := h_r_t189
                  refine ⟨?_, ?_, ?_, ?_⟩ <;> (first | with_reducible assumption | omega | ((with_reducible refine y_Vl ?_ ?_) <;> omega) | ((with_reducible refine y_V8 ?_) <;> (first | with_reducible assumption | (unfold y_Tr; omega))) | ((with_reducible refine y_Tr4 ?_ ?_) <;> (first | with_reducible assumption | omega)) | ((with_reducible refine (y_Tr4 ?_ ?_).ty) <;> (first | with_reducible assumption | omega)) | (unfold y_Ty; omega) | (unfold y_Tr; omega))
              · skip
                have c180' := c180
                rw [Int32.lt_iff_toInt_lt] at c180'
                have e191 : (2 : Int32).toInt = 2 := rfl
                refine y_bi (y_X9_pair (by omega) (by omega) (by omega)) (fun r_114 h_r_114 => ?_)
                have h0_r_114 : r_114.toInt = 0 ∨ (2 : Int32).toInt ≤ v9_35.toInt := h_r_114
                refine y_if (fun c192 => ?_) (fun c192 => ?_)
                · skip
                  have c192' := c192
                  rw [← Int32.toInt_inj] at c192'
                  refine y_some ?_
                  try dsimp only
                  refine ⟨?_, ?_, ?_, ?_⟩ <;> (first | with_reducible assumption | omega | ((with_reducible refine y_Vl ?_ ?_) <;> omega) | ((with_reducible refine y_V8 ?_) <;> (first | with_reducible assumption | (unfold y_Tr; omega))) | ((with_reducible refine y_Tr4 ?_ ?_) <;> (first | with_reducible assumption | omega)) | ((with_reducible refine (y_Tr4 ?_ ?_).ty) <;> (first | with_reducible assumption | omega)) | (unfold y_Ty; omega) | (unfold y_Tr; omega))
                · skip
                  have c192' := c192
                  rw [← Int32.toInt_inj] at c192'
                  try have e193 := @y_cl (v9_35 - (1 : Int32)) (by omega)
                  try have e194 := k3.at (Int32.toNatClampNeg (v9_35 - (1 : Int32))) (by omega)
                  try have e195 := e194.b
                  try have e196 := @y_cl (v9_35 - (2 : Int32)) (by omega)
                  try have e197 := k3.at (Int32.toNatClampNeg (v9_35 - (2 : Int32))) (by omega)
                  try have e198 := e197.b
                  try have e199 := @y_subL p1 (89 : Int32) (89) rfl (by omega) (by omega)
                  refine y_Ok.mono (y_X9_moves_L_2 (l1 := 0) (l2 := (g9_34 (Int32.toNatClampNeg (v9_35 - (1 : Int32))))) (l3 := (g9_34 (Int32.toNatClampNeg (v9_35 - (2 : Int32))))) (l4 := 2) (l5 := (p1 - (89 : Int32))) (l6 := 0) (l7 := 0) (g9_34 := g9_34) (g9_61 := g9_61) (by omega) (by omega) (by omega) (by first | with_reducible assumption | omega | ((with_reducible refine y_Vl ?_ ?_) <;> omega) | ((with_reducible refine y_V8 ?_) <;> (first | with_reducible assumption | (unfold y_Tr; omega))) | ((with_reducible refine y_Tr4 ?_ ?_) <;> (first | with_reducible assumption | omega)) | ((with_reducible refine (y_Tr4 ?_ ?_).ty) <;> (first | with_reducible assumption | omega)) | (unfold y_Ty; omega) | (unfold y_Tr; omega)) (by first | with_reducible assumption | omega | ((with_reducible refine y_Vl ?_ ?_) <;> omega) | ((with_reducible refine y_V8 ?_) <;> (first | with_reducible assumption | (unfold y_Tr; omega))) | ((with_reducible refine y_Tr4 ?_ ?_) <;> (first | with_reducible assumption | omega)) | ((with_reducible refine (y_Tr4 ?_ ?_).ty) <;> (first | with_reducible assumption | omega)) | (unfold y_Ty; omega) | (unfold y_Tr; omega)) (by omega) (by omega) (by omega) (by omega) (by first | with_reducible assumption | omega | ((with_reducible refine y_Vl ?_ ?_) <;> omega) | ((with_reducible refine y_V8 ?_) <;> (first | with_reducible assumption | (unfold y_Tr; omega))) | ((with_reducible refine y_Tr4 ?_ ?_) <;> (first | with_reducible assumption | omega)) | ((with_reducible refine (y_Tr4 ?_ ?_).ty) <;> (first | with_reducible assumption | omega)) | (unfold y_Ty; omega) | (unfold y_Tr; omega)) (by first | with_reducible assumption | omega | ((with_reducible refine y_Vl ?_ ?_) <;> omega) | ((with_reducible refine y_V8 ?_) <;> (first | with_reducible assumption | (unfold y_Tr; omega))) | ((with_reducible refine y_Tr4 ?_ ?_) <;> (first | with_reducible assumption | omega)) | ((with_reducible refine (y_Tr4 ?_ ?_).ty) <;> (first | with_reducible assumption | omega)) | (unfold y_Ty; omega) | (unfold y_Tr; omega)) (by omega)) (fun r_t199 h_r_t199 => ?_)
                  obtain ⟨h0_r_t199, h1_r_t199, h2_r_t199, h3_r_t199⟩ := h_r_t199
                  refine ⟨?_, ?_, ?_, ?_⟩ <;> (first | with_reducible assumption | omega | ((with_reducible refine y_Vl ?_ ?_) <;> omega) | ((with_reducible refine y_V8 ?_) <;> (first | with_reducible assumption | (unfold y_Tr; omega))) | ((with_reducible refine y_Tr4 ?_ ?_) <;> (first | with_reducible assumption | omega)) | ((with_reducible refine (y_Tr4 ?_ ?_).ty) <;> (first | with_reducible assumption | omega)) | (unfold y_Ty; omega) | (unfold y_Tr; omega))
            · skip
              have e201 : (91 : Int32).toInt = 91 := rfl
              have c178' := c178
              rw [Int32.lt_iff_toInt_lt] at c178'
              refine y_if (fun c202 => ?_) (fun c202 => ?_)
              · skip
                have c202' := c202
                rw [Int32.lt_iff_toInt_lt] at c202'
                refine y_bi (y_X9_single (by omega) (by omega) (by omega)) (fun r_118 h_r_118 => ?_)
                have h0_r_118 : r_118.toInt = 0 ∨ (1 : Int32).toInt ≤ v9_35.toInt := h_r_118
                refine y_if (fun c203 => ?_) (fun c203 => ?_)
                · skip
                  have c203' := c203
                  rw [← Int32.toInt_inj] at c203'
                  refine y_some ?_
                  try dsimp only
                  refine ⟨?_, ?_, ?_, ?_⟩ <;> (first | with_reducible assumption | omega | ((with_reducible refine y_Vl ?_ ?_) <;> omega) | ((with_reducible refine y_V8 ?_) <;> (first | with_reducible assumption | (unfold y_Tr; omega))) | ((with_reducible refine y_Tr4 ?_ ?_) <;> (first | with_reducible assumption | omega)) | ((with_reducible refine (y_Tr4 ?_ ?_).ty) <;> (first | with_reducible assumption | omega)) | (unfold y_Ty; omega) | (unfold y_Tr; omega))
                · skip
                  have c203' := c203
                  rw [← Int32.toInt_inj] at c203'
                  try have e204 := @y_cl (v9_35 - (1 : Int32)) (by omega)
                  try have e205 := k3.at (Int32.toNatClampNeg (v9_35 - (1 : Int32))) (by omega)
                  try have e206 := e205.b
                  try have e207 := @y_cl (v9_35 - (2 : Int32)) (by omega)
                  try have e208 := k3.at (Int32.toNatClampNeg (v9_35 - (2 : Int32))) (by omega)
                  try have e209 := e208.b
                  try have e210 := @y_subL p1 (92 : Int32) (92) rfl (by omega) (by omega)
                  refine y_Ok.mono (y_X9_moves_L_2 (l1 := 0) (l2 := (g9_34 (Int32.toNatClampNeg (v9_35 - (1 : Int32))))) (l3 := (g9_34 (Int32.toNatClampNeg (v9_35 - (2 : Int32))))) (l4 := 1) (l5 := (p1 - (92 : Int32))) (l6 := 0) (l7 := 0) (g9_34 := g9_34) (g9_61 := g9_61) (by omega) (by omega) (by omega) (by first | with_reducible assumption | omega | ((with_reducible refine y_Vl ?_ ?_) <;> omega) | ((with_reducible refine y_V8 ?_) <;> (first | with_reducible assumption | (unfold y_Tr; omega))) | ((with_reducible refine y_Tr4 ?_ ?_) <;> (first | with_reducible assumption | omega)) | ((with_reducible refine (y_Tr4 ?_ ?_).ty) <;> (first | with_reducible assumption | omega)) | (unfold y_Ty; omega) | (unfold y_Tr; omega)) (by first | with_reducible assumption | omega | ((with_reducible refine y_Vl ?_ ?_) <;> omega) | ((with_reducible refine y_V8 ?_) <;> (first | with_reducible assumption | (unfold y_Tr; omega))) | ((with_reducible refine y_Tr4 ?_ ?_) <;> (first | with_reducible assumption | omega)) | ((with_reducible refine (y_Tr4 ?_ ?_).ty) <;> (first | with_reducible assumption | omega)) | (unfold y_Ty; omega) | (unfold y_Tr; omega)) (by omega) (by omega) (by omega) (by omega) (by first | with_reducible assumption | omega | ((with_reducible refine y_Vl ?_ ?_) <;> omega) | ((with_reducible refine y_V8 ?_) <;> (first | with_reducible assumption | (unfold y_Tr; omega))) | ((with_reducible refine y_Tr4 ?_ ?_) <;> (first | with_reducible assumption | omega)) | ((with_reducible refine (y_Tr4 ?_ ?_).ty) <;> (first | with_reducible assumption | omega)) | (unfold y_Ty; omega) | (unfold y_Tr; omega)) (by first | with_reducible assumption | omega | ((with_reducible refine y_Vl ?_ ?_) <;> omega) | ((with_reducible refine y_V8 ?_) <;> (first | with_reducible assumption | (unfold y_Tr; omega))) | ((with_reducible refine y_Tr4 ?_ ?_) <;> (first | with_reducible assumption | omega)) | ((with_reducible refine (y_Tr4 ?_ ?_).ty) <;> (first | with_reducible assumption | omega)) | (unfold y_Ty; omega) | (unfold y_Tr; omega)) (by omega)) (fun r_t210 h_r_t210 => ?_)
                  obtain ⟨h0_r_t210, h1_r_t210, h2_r_t210, h3_r_t210⟩ := h_r_t210
                  refine ⟨?_, ?_, ?_, ?_⟩ <;> (first | with_reducible assumption | omega | ((with_reducible refine y_Vl ?_ ?_) <;> omega) | ((with_reducible refine y_V8 ?_) <;> (first | with_reducible assumption | (unfold y_Tr; omega))) | ((with_reducible refine y_Tr4 ?_ ?_) <;> (first | with_reducible assumption | omega)) | ((with_reducible refine (y_Tr4 ?_ ?_).ty) <;> (first | with_reducible assumption | omega)) | (unfold y_Ty; omega) | (unfold y_Tr; omega))
              · skip
                have c202' := c202
                rw [Int32.lt_iff_toInt_lt] at c202'
                refine y_bi (y_X9_single (by omega) (by omega) (by omega)) (fun r_121 h_r_121 => ?_)
                have h0_r_121 : r_121.toInt = 0 ∨ (1 : Int32).toInt ≤ v9_35.toInt := h_r_121
                refine y_if (fun c212 => ?_) (fun c212 => ?_)
                · skip
                  have c212' := c212
                  rw [← Int32.toInt_inj] at c212'
                  refine y_some ?_
                  try dsimp only
                  refine ⟨?_, ?_, ?_, ?_⟩ <;> (first | with_reducible assumption | omega | ((with_reducible refine y_Vl ?_ ?_) <;> omega) | ((with_reducible refine y_V8 ?_) <;> (first | with_reducible assumption | (unfold y_Tr; omega))) | ((with_reducible refine y_Tr4 ?_ ?_) <;> (first | with_reducible assumption | omega)) | ((with_reducible refine (y_Tr4 ?_ ?_).ty) <;> (first | with_reducible assumption | omega)) | (unfold y_Ty; omega) | (unfold y_Tr; omega))
                · skip
                  have c212' := c212
                  rw [← Int32.toInt_inj] at c212'
                  try have e213 := @y_cl (v9_35 - (1 : Int32)) (by omega)
                  try have e214 := k3.at (Int32.toNatClampNeg (v9_35 - (1 : Int32))) (by omega)
                  try have e215 := e214.b
                  try have e216 := @y_cl (v9_35 - (2 : Int32)) (by omega)
                  try have e217 := k3.at (Int32.toNatClampNeg (v9_35 - (2 : Int32))) (by omega)
                  try have e218 := e217.b
                  try have e219 := @y_subL p1 (89 : Int32) (89) rfl (by omega) (by omega)
                  refine y_Ok.mono (y_X9_moves_L_2 (l1 := 0) (l2 := (g9_34 (Int32.toNatClampNeg (v9_35 - (1 : Int32))))) (l3 := (g9_34 (Int32.toNatClampNeg (v9_35 - (2 : Int32))))) (l4 := 1) (l5 := (p1 - (89 : Int32))) (l6 := 0) (l7 := 0) (g9_34 := g9_34) (g9_61 := g9_61) (by omega) (by omega) (by omega) (by first | with_reducible assumption | omega | ((with_reducible refine y_Vl ?_ ?_) <;> omega) | ((with_reducible refine y_V8 ?_) <;> (first | with_reducible assumption | (unfold y_Tr; omega))) | ((with_reducible refine y_Tr4 ?_ ?_) <;> (first | with_reducible assumption | omega)) | ((with_reducible refine (y_Tr4 ?_ ?_).ty) <;> (first | with_reducible assumption | omega)) | (unfold y_Ty; omega) | (unfold y_Tr; omega)) (by first | with_reducible assumption | omega | ((with_reducible refine y_Vl ?_ ?_) <;> omega) | ((with_reducible refine y_V8 ?_) <;> (first | with_reducible assumption | (unfold y_Tr; omega))) | ((with_reducible refine y_Tr4 ?_ ?_) <;> (first | with_reducible assumption | omega)) | ((with_reducible refine (y_Tr4 ?_ ?_).ty) <;> (first | with_reducible assumption | omega)) | (unfold y_Ty; omega) | (unfold y_Tr; omega)) (by omega) (by omega) (by omega) (by omega) (by first | with_reducible assumption | omega | ((with_reducible refine y_Vl ?_ ?_) <;> omega) | ((with_reducible refine y_V8 ?_) <;> (first | with_reducible assumption | (unfold y_Tr; omega))) | ((with_reducible refine y_Tr4 ?_ ?_) <;> (first | with_reducible assumption | omega)) | ((with_reducible refine (y_Tr4 ?_ ?_).ty) <;> (first | with_reducible assumption | omega)) | (unfold y_Ty; omega) | (unfold y_Tr; omega)) (by first | with_reducible assumption | omega | ((with_reducible refine y_Vl ?_ ?_) <;> omega) | ((with_reducible refine y_V8 ?_) <;> (first | with_reducible assumption | (unfold y_Tr; omega))) | ((with_reducible refine y_Tr4 ?_ ?_) <;> (first | with_reducible assumption | omega)) | ((with_reducible refine (y_Tr4 ?_ ?_).ty) <;> (first | with_reducible assumption | omega)) | (unfold y_Ty; omega) | (unfold y_Tr; omega)) (by omega)) (fun r_t219 h_r_t219 => ?_)
                  obtain ⟨h0_r_t219, h1_r_t219, h2_r_t219, h3_r_t219⟩ := h_r_t219
                  refine ⟨?_, ?_, ?_, ?_⟩ <;> (first | with_reducible assumption | omega | ((with_reducible refine y_Vl ?_ ?_) <;> omega) | ((with_reducible refine y_V8 ?_) <;> (first | with_reducible assumption | (unfold y_Tr; omega))) | ((with_reducible refine y_Tr4 ?_ ?_) <;> (first | with_reducible assumption | omega)) | ((with_reducible refine (y_Tr4 ?_ ?_).ty) <;> (first | with_reducible assumption | omega)) | (unfold y_Ty; omega) | (unfold y_Tr; omega))
set_option maxHeartbeats 4000000 in
theorem y_X9_computes {v9_17 : Int32} {v9_35 : Int32} {g9_34 : Nat → Int32} {p1 : Int32} (k0 : 0 ≤ v9_35.toInt) (k1 : v9_35.toInt ≤ v9_17.toInt) (k2 : v9_17.toInt ≤ 200) (k3 : y_AV 202 g9_34) (k4 : 96 ≤ p1.toInt) (k5 : p1.toInt ≤ 131) : y_Ok (f_X9_computes v9_17 v9_35 g9_34 p1) (fun r => (0 ≤ r.2.1.toInt) ∧ (r.2.1.toInt ≤ v9_17.toInt) ∧ (y_AV 202 r.2.2)) := by
  unfold f_X9_computes
  refine y_if (fun c1 => ?_) (fun c1 => ?_)
  · skip
    have e2 : (120 : Int32).toInt = 120 := rfl
    have c1' := c1
    rw [Int32.lt_iff_toInt_lt] at c1'
    try have e3 := @y_subL p1 (96 : Int32) (96) rfl (by omega) (by omega)
    try have e4 := @y_rem (p1 - (96 : Int32)) (4 : Int32) 4 rfl (by decide) (by omega)
    refine y_gd (y_gdI (by omega) (by omega)) ?_
    try have e5 := @y_cl ((p1 - (96 : Int32)) - (((p1 - (96 : Int32)) / (4 : Int32)) * (4 : Int32))) (by omega)
    try have e6 := y_st0 (Int32.toNatClampNeg ((p1 - (96 : Int32)) - (((p1 - (96 : Int32)) / (4 : Int32)) * (4 : Int32))))
    refine y_bi (y_X9_pop (by omega) (by omega)) (fun r_4 h_r_4 => ?_)
    obtain ⟨h0_r_4, h1_r_4⟩ := h_r_4
    refine y_if (fun c7 => ?_) (fun c7 => ?_)
    · skip
      have e8 : (0 : Int32).toInt = 0 := rfl
      have c7' := c7
      rw [← Int32.toInt_inj] at c7'
      refine y_some ?_
      try dsimp only
      refine ⟨?_, ?_, ?_⟩ <;> (first | with_reducible assumption | omega | ((with_reducible refine y_Vl ?_ ?_) <;> omega))
    · skip
      have e9 : (0 : Int32).toInt = 0 := rfl
      have c7' := c7
      rw [← Int32.toInt_inj] at c7'
      refine y_if (fun c10 => ?_) (fun c10 => ?_)
      · skip
        have e11 : (116 : Int32).toInt = 116 := rfl
        have c10' := c10
        rw [Int32.le_iff_toInt_le] at c10'
        refine y_bi (y_X9_push (by omega) (by omega) (by omega) (by first | with_reducible assumption | omega | ((with_reducible refine y_Vl ?_ ?_) <;> omega)) (by first | with_reducible assumption | omega | ((with_reducible refine y_Vl ?_ ?_) <;> omega))) (fun r_7 h_r_7 => ?_)
        obtain ⟨h0_r_7, h1_r_7, h2_r_7⟩ := h_r_7
        refine y_if (fun c12 => ?_) (fun c12 => ?_)
        · skip
          have c12' := c12
          rw [← Int32.toInt_inj] at c12'
          refine y_some ?_
          try dsimp only
          refine ⟨?_, ?_, ?_⟩ <;> (first | with_reducible assumption | omega | ((with_reducible refine y_Vl ?_ ?_) <;> omega))
        · skip
          have c12' := c12
          rw [← Int32.toInt_inj] at c12'
          have e13 : (1 : Int32).toInt = 1 := rfl
          refine y_some ?_
          try dsimp only
          refine ⟨?_, ?_, ?_⟩ <;> (first | with_reducible assumption | omega | ((with_reducible refine y_Vl ?_ ?_) <;> omega))
      · skip
        have e14 : (116 : Int32).toInt = 116 := rfl
        have c10' := c10
        rw [Int32.le_iff_toInt_le] at c10'
        refine y_bi (y_X9_pop (by omega) (by omega)) (fun r_9 h_r_9 => ?_)
        obtain ⟨h0_r_9, h1_r_9⟩ := h_r_9
        refine y_if (fun c15 => ?_) (fun c15 => ?_)
        · skip
          have c15' := c15
          rw [← Int32.toInt_inj] at c15'
          refine y_some ?_
          try dsimp only
          refine ⟨?_, ?_, ?_⟩ <;> (first | with_reducible assumption | omega | ((with_reducible refine y_Vl ?_ ?_) <;> omega))
        · skip
          have c15' := c15
          rw [← Int32.toInt_inj] at c15'
          refine y_bi (y_X9_push (by omega) (by omega) (by omega) (by first | with_reducible assumption | omega | ((with_reducible refine y_Vl ?_ ?_) <;> omega)) (by first | with_reducible assumption | omega | ((with_reducible refine y_Vl ?_ ?_) <;> omega))) (fun r_11 h_r_11 => ?_)
          obtain ⟨h0_r_11, h1_r_11, h2_r_11⟩ := h_r_11
          refine y_if (fun c16 => ?_) (fun c16 => ?_)
          · skip
            have c16' := c16
            rw [← Int32.toInt_inj] at c16'
            refine y_some ?_
            try dsimp only
            refine ⟨?_, ?_, ?_⟩ <;> (first | with_reducible assumption | omega | ((with_reducible refine y_Vl ?_ ?_) <;> omega))
          · skip
            have c16' := c16
            rw [← Int32.toInt_inj] at c16'
            have e17 : (1 : Int32).toInt = 1 := rfl
            refine y_some ?_
            try dsimp only
            refine ⟨?_, ?_, ?_⟩ <;> (first | with_reducible assumption | omega | ((with_reducible refine y_Vl ?_ ?_) <;> omega))
  · skip
    have e18 : (120 : Int32).toInt = 120 := rfl
    have c1' := c1
    rw [Int32.lt_iff_toInt_lt] at c1'
    refine y_if (fun c19 => ?_) (fun c19 => ?_)
    · skip
      have e20 := y_and1 p1
      have e21 : (0 : Int32).toInt = 0 := rfl
      have c19' := c19
      rw [← Int32.toInt_inj] at c19'
      refine y_if (fun c22 => ?_) (fun c22 => ?_)
      · skip
        have e23 : (125 : Int32).toInt = 125 := rfl
        have c22' := c22
        rw [Int32.lt_iff_toInt_lt] at c22'
        have e24 : (1 : Int32).toInt = 1 := rfl
        refine y_bi (y_X9_pop (by omega) (by omega)) (fun r_28 h_r_28 => ?_)
        obtain ⟨h0_r_28, h1_r_28⟩ := h_r_28
        refine y_if (fun c25 => ?_) (fun c25 => ?_)
        · skip
          have c25' := c25
          rw [← Int32.toInt_inj] at c25'
          refine y_some ?_
          try dsimp only
          refine ⟨?_, ?_, ?_⟩ <;> (first | with_reducible assumption | omega | ((with_reducible refine y_Vl ?_ ?_) <;> omega))
        · skip
          have c25' := c25
          rw [← Int32.toInt_inj] at c25'
          refine y_bi (y_X9_pop (by omega) (by omega)) (fun r_30 h_r_30 => ?_)
          obtain ⟨h0_r_30, h1_r_30⟩ := h_r_30
          refine y_if (fun c26 => ?_) (fun c26 => ?_)
          · skip
            have c26' := c26
            rw [← Int32.toInt_inj] at c26'
            refine y_some ?_
            try dsimp only
            refine ⟨?_, ?_, ?_⟩ <;> (first | with_reducible assumption | omega | ((with_reducible refine y_Vl ?_ ?_) <;> omega))
          · skip
            have c26' := c26
            rw [← Int32.toInt_inj] at c26'
            refine y_bi (y_X9_push (by omega) (by omega) (by omega) (by first | with_reducible assumption | omega | ((with_reducible refine y_Vl ?_ ?_) <;> omega)) (by first | with_reducible assumption | omega | ((with_reducible refine y_Vl ?_ ?_) <;> omega))) (fun r_32 h_r_32 => ?_)
            obtain ⟨h0_r_32, h1_r_32, h2_r_32⟩ := h_r_32
            refine y_if (fun c27 => ?_) (fun c27 => ?_)
            · skip
              have c27' := c27
              rw [← Int32.toInt_inj] at c27'
              refine y_some ?_
              try dsimp only
              refine ⟨?_, ?_, ?_⟩ <;> (first | with_reducible assumption | omega | ((with_reducible refine y_Vl ?_ ?_) <;> omega))
            · skip
              have c27' := c27
              rw [← Int32.toInt_inj] at c27'
              refine y_some ?_
              try dsimp only
              refine ⟨?_, ?_, ?_⟩ <;> (first | with_reducible assumption | omega | ((with_reducible refine y_Vl ?_ ?_) <;> omega))
      · skip
        have e28 : (125 : Int32).toInt = 125 := rfl
        have c22' := c22
        rw [Int32.lt_iff_toInt_lt] at c22'
        have e29 : (1 : Int32).toInt = 1 := rfl
        refine y_bi (y_X9_pop (by omega) (by omega)) (fun r_34 h_r_34 => ?_)
        obtain ⟨h0_r_34, h1_r_34⟩ := h_r_34
        refine y_if (fun c30 => ?_) (fun c30 => ?_)
        · skip
          have c30' := c30
          rw [← Int32.toInt_inj] at c30'
          refine y_some ?_
          try dsimp only
          refine ⟨?_, ?_, ?_⟩ <;> (first | with_reducible assumption | omega | ((with_reducible refine y_Vl ?_ ?_) <;> omega))
        · skip
          have c30' := c30
          rw [← Int32.toInt_inj] at c30'
          refine y_bi (y_X9_pop (by omega) (by omega)) (fun r_36 h_r_36 => ?_)
          obtain ⟨h0_r_36, h1_r_36⟩ := h_r_36
          refine y_if (fun c31 => ?_) (fun c31 => ?_)
          · skip
            have c31' := c31
            rw [← Int32.toInt_inj] at c31'
            refine y_some ?_
            try dsimp only
            refine ⟨?_, ?_, ?_⟩ <;> (first | with_reducible assumption | omega | ((with_reducible refine y_Vl ?_ ?_) <;> omega))
          · skip
            have c31' := c31
            rw [← Int32.toInt_inj] at c31'
            refine y_bi (y_X9_push (by omega) (by omega) (by omega) (by first | with_reducible assumption | omega | ((with_reducible refine y_Vl ?_ ?_) <;> omega)) (by first | with_reducible assumption | omega | ((with_reducible refine y_Vl ?_ ?_) <;> omega))) (fun r_38 h_r_38 => ?_)
            obtain ⟨h0_r_38, h1_r_38, h2_r_38⟩ := h_r_38
            refine y_if (fun c32 => ?_) (fun c32 => ?_)
            · skip
              have c32' := c32
              rw [← Int32.toInt_inj] at c32'
              refine y_some ?_
              try dsimp only
              refine ⟨?_, ?_, ?_⟩ <;> (first | with_reducible assumption | omega | ((with_reducible refine y_Vl ?_ ?_) <;> omega))
            · skip
              have c32' := c32
              rw [← Int32.toInt_inj] at c32'
              refine y_some ?_
              try dsimp only
              refine ⟨?_, ?_, ?_⟩ <;> (first | with_reducible assumption | omega | ((with_reducible refine y_Vl ?_ ?_) <;> omega))
    · skip
      have e33 := y_and1 p1
      have e34 : (0 : Int32).toInt = 0 := rfl
      have c19' := c19
      rw [← Int32.toInt_inj] at c19'
      refine y_if (fun c35 => ?_) (fun c35 => ?_)
      · skip
        have e36 : (125 : Int32).toInt = 125 := rfl
        have c35' := c35
        rw [Int32.lt_iff_toInt_lt] at c35'
        have e37 : (3 : Int32).toInt = 3 := rfl
        refine y_bi (y_X9_pop (by omega) (by omega)) (fun r_15 h_r_15 => ?_)
        obtain ⟨h0_r_15, h1_r_15⟩ := h_r_15
        refine y_if (fun c38 => ?_) (fun c38 => ?_)
        · skip
          have c38' := c38
          rw [← Int32.toInt_inj] at c38'
          refine y_some ?_
          try dsimp only
          refine ⟨?_, ?_, ?_⟩ <;> (first | with_reducible assumption | omega | ((with_reducible refine y_Vl ?_ ?_) <;> omega))
        · skip
          have c38' := c38
          rw [← Int32.toInt_inj] at c38'
          refine y_bi (y_X9_pop (by omega) (by omega)) (fun r_17 h_r_17 => ?_)
          obtain ⟨h0_r_17, h1_r_17⟩ := h_r_17
          refine y_if (fun c39 => ?_) (fun c39 => ?_)
          · skip
            have c39' := c39
            rw [← Int32.toInt_inj] at c39'
            refine y_some ?_
            try dsimp only
            refine ⟨?_, ?_, ?_⟩ <;> (first | with_reducible assumption | omega | ((with_reducible refine y_Vl ?_ ?_) <;> omega))
          · skip
            have c39' := c39
            rw [← Int32.toInt_inj] at c39'
            refine y_bi (y_X9_push (by omega) (by omega) (by omega) (by first | with_reducible assumption | omega | ((with_reducible refine y_Vl ?_ ?_) <;> omega)) (by first | with_reducible assumption | omega | ((with_reducible refine y_Vl ?_ ?_) <;> omega))) (fun r_19 h_r_19 => ?_)
            obtain ⟨h0_r_19, h1_r_19, h2_r_19⟩ := h_r_19
            refine y_if (fun c40 => ?_) (fun c40 => ?_)
            · skip
              have c40' := c40
              rw [← Int32.toInt_inj] at c40'
              refine y_some ?_
              try dsimp only
              refine ⟨?_, ?_, ?_⟩ <;> (first | with_reducible assumption | omega | ((with_reducible refine y_Vl ?_ ?_) <;> omega))
            · skip
              have c40' := c40
              rw [← Int32.toInt_inj] at c40'
              have e41 : (1 : Int32).toInt = 1 := rfl
              refine y_some ?_
              try dsimp only
              refine ⟨?_, ?_, ?_⟩ <;> (first | with_reducible assumption | omega | ((with_reducible refine y_Vl ?_ ?_) <;> omega))
      · skip
        have e42 : (125 : Int32).toInt = 125 := rfl
        have c35' := c35
        rw [Int32.lt_iff_toInt_lt] at c35'
        have e43 : (1 : Int32).toInt = 1 := rfl
        refine y_bi (y_X9_pop (by omega) (by omega)) (fun r_21 h_r_21 => ?_)
        obtain ⟨h0_r_21, h1_r_21⟩ := h_r_21
        refine y_if (fun c44 => ?_) (fun c44 => ?_)
        · skip
          have c44' := c44
          rw [← Int32.toInt_inj] at c44'
          refine y_some ?_
          try dsimp only
          refine ⟨?_, ?_, ?_⟩ <;> (first | with_reducible assumption | omega | ((with_reducible refine y_Vl ?_ ?_) <;> omega))
        · skip
          have c44' := c44
          rw [← Int32.toInt_inj] at c44'
          have e45 : (3 : Int32).toInt = 3 := rfl
          refine y_bi (y_X9_pop (by omega) (by omega)) (fun r_23 h_r_23 => ?_)
          obtain ⟨h0_r_23, h1_r_23⟩ := h_r_23
          refine y_if (fun c46 => ?_) (fun c46 => ?_)
          · skip
            have c46' := c46
            rw [← Int32.toInt_inj] at c46'
            refine y_some ?_
            try dsimp only
            refine ⟨?_, ?_, ?_⟩ <;> (first | with_reducible assumption | omega | ((with_reducible refine y_Vl ?_ ?_) <;> omega))
          · skip
            have c46' := c46
            rw [← Int32.toInt_inj] at c46'
            refine y_bi (y_X9_push (by omega) (by omega) (by omega) (by first | with_reducible assumption | omega | ((with_reducible refine y_Vl ?_ ?_) <;> omega)) (by first | with_reducible assumption | omega | ((with_reducible refine y_Vl ?_ ?_) <;> omega))) (fun r_25 h_r_25 => ?_)
            obtain ⟨h0_r_25, h1_r_25, h2_r_25⟩ := h_r_25
            refine y_if (fun c47 => ?_) (fun c47 => ?_)
            · skip
              have c47' := c47
              rw [← Int32.toInt_inj] at c47'
              refine y_some ?_
              try dsimp only
              refine ⟨?_, ?_, ?_⟩ <;> (first | with_reducible assumption | omega | ((with_reducible refine y_Vl ?_ ?_) <;> omega))
            · skip
              have c47' := c47
              rw [← Int32.toInt_inj] at c47'
              refine y_some ?_
              try dsimp only
              refine ⟨?_, ?_, ?_⟩ <;> (first | with_reducible assumption | omega | ((with_reducible refine y_Vl ?_ ?_) <;> omega))
set_option maxHeartbeats 4000000 in
theorem y_X9_converts_L_0 {v9_17 : Int32} {l2 : Int32} {v9_35 : Int32} {g9_34 : Nat → Int32} (k0 : 0 ≤ v9_35.toInt) (k1 : v9_35.toInt ≤ v9_17.toInt) (k2 : v9_17.toInt ≤ 200) (k3 : y_AV 202 g9_34) (k4 : 0 ≤ l2.toInt) (k5 : l2.toInt ≤ 7) : y_Ok (f_X9_converts_L v9_17 l2 v9_35 g9_34 (0)) (fun r => (0 ≤ r.2.1.toInt) ∧ (r.2.1.toInt ≤ v9_17.toInt) ∧ (y_AV 202 r.2.2)) := by
  rw [f_X9_converts_L]
  refine y_ip rfl ?_
  refine y_bi (y_X9_pop (by omega) (by omega)) (fun r_1 h_r_1 => ?_)
  obtain ⟨h0_r_1, h1_r_1⟩ := h_r_1
  refine y_if (fun c1 => ?_) (fun c1 => ?_)
  · skip
    have e2 : (0 : Int32).toInt = 0 := rfl
    have c1' := c1
    rw [← Int32.toInt_inj] at c1'
    refine y_some ?_
    try dsimp only
    refine ⟨?_, ?_, ?_⟩ <;> (first | with_reducible assumption | omega | ((with_reducible refine y_Vl ?_ ?_) <;> omega))
  · skip
    have e3 : (0 : Int32).toInt = 0 := rfl
    have c1' := c1
    rw [← Int32.toInt_inj] at c1'
    have e4 : (3 : Int32).toInt = 3 := rfl
    refine y_bi (y_X9_push (by omega) (by omega) (by omega) (by first | with_reducible assumption | omega | ((with_reducible refine y_Vl ?_ ?_) <;> omega)) (by first | with_reducible assumption | omega | ((with_reducible refine y_Vl ?_ ?_) <;> omega))) (fun r_3 h_r_3 => ?_)
    obtain ⟨h0_r_3, h1_r_3, h2_r_3⟩ := h_r_3
    refine y_if (fun c5 => ?_) (fun c5 => ?_)
    · skip
      have c5' := c5
      rw [← Int32.toInt_inj] at c5'
      refine y_some ?_
      try dsimp only
      refine ⟨?_, ?_, ?_⟩ <;> (first | with_reducible assumption | omega | ((with_reducible refine y_Vl ?_ ?_) <;> omega))
    · skip
      have c5' := c5
      rw [← Int32.toInt_inj] at c5'
      have e6 : (1 : Int32).toInt = 1 := rfl
      refine y_some ?_
      try dsimp only
      refine ⟨?_, ?_, ?_⟩ <;> (first | with_reducible assumption | omega | ((with_reducible refine y_Vl ?_ ?_) <;> omega))
set_option maxHeartbeats 4000000 in
theorem y_X9_converts_L_1 {v9_17 : Int32} {l2 : Int32} {v9_35 : Int32} {g9_34 : Nat → Int32} (k0 : 0 ≤ v9_35.toInt) (k1 : v9_35.toInt ≤ v9_17.toInt) (k2 : v9_17.toInt ≤ 200) (k3 : y_AV 202 g9_34) (k4 : 0 ≤ l2.toInt) (k5 : l2.toInt ≤ 7) : y_Ok (f_X9_converts_L v9_17 l2 v9_35 g9_34 (1)) (fun r => (0 ≤ r.2.1.toInt) ∧ (r.2.1.toInt ≤ v9_17.toInt) ∧ (y_AV 202 r.2.2)) := by
  rw [f_X9_converts_L]
  refine y_in (by decide) ?_
  refine y_ip rfl ?_
  refine y_bi (y_X9_pop (by omega) (by omega)) (fun r_5 h_r_5 => ?_)
  obtain ⟨h0_r_5, h1_r_5⟩ := h_r_5
  refine y_if (fun c1 => ?_) (fun c1 => ?_)
  · skip
    have e2 : (0 : Int32).toInt = 0 := rfl
    have c1' := c1
    rw [← Int32.toInt_inj] at c1'
    refine y_some ?_
    try dsimp only
    refine ⟨?_, ?_, ?_⟩ <;> (first | with_reducible assumption | omega | ((with_reducible refine y_Vl ?_ ?_) <;> omega))
  · skip
    have e3 : (0 : Int32).toInt = 0 := rfl
    have c1' := c1
    rw [← Int32.toInt_inj] at c1'
    have e4 : (2 : Int32).toInt = 2 := rfl
    refine y_bi (y_X9_push (by omega) (by omega) (by omega) (by first | with_reducible assumption | omega | ((with_reducible refine y_Vl ?_ ?_) <;> omega)) (by first | with_reducible assumption | omega | ((with_reducible refine y_Vl ?_ ?_) <;> omega))) (fun r_7 h_r_7 => ?_)
    obtain ⟨h0_r_7, h1_r_7, h2_r_7⟩ := h_r_7
    refine y_if (fun c5 => ?_) (fun c5 => ?_)
    · skip
      have c5' := c5
      rw [← Int32.toInt_inj] at c5'
      refine y_some ?_
      try dsimp only
      refine ⟨?_, ?_, ?_⟩ <;> (first | with_reducible assumption | omega | ((with_reducible refine y_Vl ?_ ?_) <;> omega))
    · skip
      have c5' := c5
      rw [← Int32.toInt_inj] at c5'
      have e6 : (1 : Int32).toInt = 1 := rfl
      refine y_some ?_
      try dsimp only
      refine ⟨?_, ?_, ?_⟩ <;> (first | with_reducible assumption | omega | ((with_reducible refine y_Vl ?_ ?_) <;> omega))
set_option maxHeartbeats 4000000 in
theorem y_X9_converts_L_2 {v9_17 : Int32} {l2 : Int32} {v9_35 : Int32} {g9_34 : Nat → Int32} (k0 : 0 ≤ v9_35.toInt) (k1 : v9_35.toInt ≤ v9_17.toInt) (k2 : v9_17.toInt ≤ 200) (k3 : y_AV 202 g9_34) (k4 : 0 ≤ l2.toInt) (k5 : l2.toInt ≤ 7) : y_Ok (f_X9_converts_L v9_17 l2 v9_35 g9_34 (2)) (fun r => (0 ≤ r.2.1.toInt) ∧ (r.2.1.toInt ≤ v9_17.toInt) ∧ (y_AV 202 r.2.2)) := by
  rw [f_X9_converts_L]
  refine y_in (by decide) ?_
  refine y_in (by decide) ?_
  refine y_ip rfl ?_
  refine y_bi (y_X9_pop (by omega) (by omega)) (fun r_9 h_r_9 => ?_)
  obtain ⟨h0_r_9, h1_r_9⟩ := h_r_9
  refine y_if (fun c1 => ?_) (fun c1 => ?_)
  · skip
    have e2 : (0 : Int32).toInt = 0 := rfl
    have c1' := c1
    rw [← Int32.toInt_inj] at c1'
    refine y_some ?_
    try dsimp only
    refine ⟨?_, ?_, ?_⟩ <;> (first | with_reducible assumption | omega | ((with_reducible refine y_Vl ?_ ?_) <;> omega))
  · skip
    have e3 : (0 : Int32).toInt = 0 := rfl
    have c1' := c1
    rw [← Int32.toInt_inj] at c1'
    have e4 : (4 : Int32).toInt = 4 := rfl
    refine y_bi (y_X9_push (by omega) (by omega) (by omega) (by first | with_reducible assumption | omega | ((with_reducible refine y_Vl ?_ ?_) <;> omega)) (by first | with_reducible assumption | omega | ((with_reducible refine y_Vl ?_ ?_) <;> omega))) (fun r_11 h_r_11 => ?_)
    obtain ⟨h0_r_11, h1_r_11, h2_r_11⟩ := h_r_11
    refine y_if (fun c5 => ?_) (fun c5 => ?_)
    · skip
      have c5' := c5
      rw [← Int32.toInt_inj] at c5'
      refine y_some ?_
      try dsimp only
      refine ⟨?_, ?_, ?_⟩ <;> (first | with_reducible assumption | omega | ((with_reducible refine y_Vl ?_ ?_) <;> omega))
    · skip
      have c5' := c5
      rw [← Int32.toInt_inj] at c5'
      have e6 : (1 : Int32).toInt = 1 := rfl
      refine y_some ?_
      try dsimp only
      refine ⟨?_, ?_, ?_⟩ <;> (first | with_reducible assumption | omega | ((with_reducible refine y_Vl ?_ ?_) <;> omega))
set_option maxHeartbeats 4000000 in
theorem y_X9_converts {v9_17 : Int32} {v9_35 : Int32} {g9_34 : Nat → Int32} {p1 : Int32} (k0 : 0 ≤ v9_35.toInt) (k1 : v9_35.toInt ≤ v9_17.toInt) (k2 : v9_17.toInt ≤ 200) (k3 : y_AV 202 g9_34) : y_Ok (f_X9_converts v9_17 v9_35 g9_34 p1) (fun r => (0 ≤ r.2.1.toInt) ∧ (r.2.1.toInt ≤ v9_17.toInt) ∧ (y_AV 202 r.2.2)) := by
  unfold f_X9_converts
  refine y_if (fun c1 => ?_) (fun c1 => ?_)
  · skip
    have e2 : (148 : Int32).toInt = 148 := rfl
    have c1' := c1
    rw [Int32.lt_iff_toInt_lt] at c1'
    refine y_if (fun c3 => ?_) (fun c3 => ?_)
    · skip
      have e4 : (135 : Int32).toInt = 135 := rfl
      have c3' := c3
      rw [Int32.lt_iff_toInt_lt] at c3'
      refine y_if (fun c5 => ?_) (fun c5 => ?_)
      · skip
        have e6 : (138 : Int32).toInt = 138 := rfl
        have c5' := c5
        rw [Int32.lt_iff_toInt_lt] at c5'
        refine y_if (fun c7 => ?_) (fun c7 => ?_)
        · skip
          have e8 : (141 : Int32).toInt = 141 := rfl
          have c7' := c7
          rw [Int32.lt_iff_toInt_lt] at c7'
          refine y_if (fun c9 => ?_) (fun c9 => ?_)
          · skip
            have e10 : (144 : Int32).toInt = 144 := rfl
            have c9' := c9
            rw [Int32.lt_iff_toInt_lt] at c9'
            refine y_if (fun c11 => ?_) (fun c11 => ?_)
            · skip
              have e12 : (133 : Int32).toInt = 133 := rfl
              have c11' := c11
              rw [← Int32.toInt_inj] at c11'
              have e13 : (1 : Int32).toInt = 1 := rfl
              refine y_Ok.mono (y_X9_converts_L_0 (by omega) (by omega) (by omega) (by first | with_reducible assumption | omega | ((with_reducible refine y_Vl ?_ ?_) <;> omega)) (by omega) (by omega)) (fun r_t13 h_r_t13 => ?_)
              obtain ⟨h0_r_t13, h1_r_t13, h2_r_t13⟩ := h_r_t13
              refine ⟨?_, ?_, ?_⟩ <;> (first | with_reducible assumption | omega | ((with_reducible refine y_Vl ?_ ?_) <;> omega))
            · skip
              have e15 : (133 : Int32).toInt = 133 := rfl
              have c11' := c11
              rw [← Int32.toInt_inj] at c11'
              refine y_if (fun c16 => ?_) (fun c16 => ?_)
              · skip
                have e17 : (140 : Int32).toInt = 140 := rfl
                have c16' := c16
                rw [← Int32.toInt_inj] at c16'
                have e18 : (1 : Int32).toInt = 1 := rfl
                refine y_Ok.mono (y_X9_converts_L_0 (by omega) (by omega) (by omega) (by first | with_reducible assumption | omega | ((with_reducible refine y_Vl ?_ ?_) <;> omega)) (by omega) (by omega)) (fun r_t18 h_r_t18 => ?_)
                obtain ⟨h0_r_t18, h1_r_t18, h2_r_t18⟩ := h_r_t18
                refine ⟨?_, ?_, ?_⟩ <;> (first | with_reducible assumption | omega | ((with_reducible refine y_Vl ?_ ?_) <;> omega))
              · skip
                have e20 : (140 : Int32).toInt = 140 := rfl
                have c16' := c16
                rw [← Int32.toInt_inj] at c16'
                refine y_if (fun c21 => ?_) (fun c21 => ?_)
                · skip
                  have e22 : (143 : Int32).toInt = 143 := rfl
                  have c21' := c21
                  rw [← Int32.toInt_inj] at c21'
                  have e23 : (1 : Int32).toInt = 1 := rfl
                  refine y_Ok.mono (y_X9_converts_L_0 (by omega) (by omega) (by omega) (by first | with_reducible assumption | omega | ((with_reducible refine y_Vl ?_ ?_) <;> omega)) (by omega) (by omega)) (fun r_t23 h_r_t23 => ?_)
                  obtain ⟨h0_r_t23, h1_r_t23, h2_r_t23⟩ := h_r_t23
                  refine ⟨?_, ?_, ?_⟩ <;> (first | with_reducible assumption | omega | ((with_reducible refine y_Vl ?_ ?_) <;> omega))
                · skip
                  have e25 : (143 : Int32).toInt = 143 := rfl
                  have c21' := c21
                  rw [← Int32.toInt_inj] at c21'
                  refine y_if (fun c26 => ?_) (fun c26 => ?_)
                  · skip
                    have e27 : (134 : Int32).toInt = 134 := rfl
                    have c26' := c26
                    rw [← Int32.toInt_inj] at c26'
                    have e28 : (1 : Int32).toInt = 1 := rfl
                    refine y_Ok.mono (y_X9_converts_L_1 (by omega) (by omega) (by omega) (by first | with_reducible assumption | omega | ((with_reducible refine y_Vl ?_ ?_) <;> omega)) (by omega) (by omega)) (fun r_t28 h_r_t28 => ?_)
                    obtain ⟨h0_r_t28, h1_r_t28, h2_r_t28⟩ := h_r_t28
                    refine ⟨?_, ?_, ?_⟩ <;> (first | with_reducible assumption | omega | ((with_reducible refine y_Vl ?_ ?_) <;> omega))
                  · skip
                    have e30 : (134 : Int32).toInt = 134 := rfl
                    have c26' := c26
                    rw [← Int32.toInt_inj] at c26'
                    refine y_if (fun c31 => ?_) (fun c31 => ?_)
                    · skip
                      have e32 : (137 : Int32).toInt = 137 := rfl
                      have c31' := c31
                      rw [← Int32.toInt_inj] at c31'
                      have e33 : (1 : Int32).toInt = 1 := rfl
                      refine y_Ok.mono (y_X9_converts_L_1 (by omega) (by omega) (by omega) (by first | with_reducible assumption | omega | ((with_reducible refine y_Vl ?_ ?_) <;> omega)) (by omega) (by omega)) (fun r_t33 h_r_t33 => ?_)
                      obtain ⟨h0_r_t33, h1_r_t33, h2_r_t33⟩ := h_r_t33
                      refine ⟨?_, ?_, ?_⟩ <;> (first | with_reducible assumption | omega | ((with_reducible refine y_Vl ?_ ?_) <;> omega))
                    · skip
                      have e35 : (137 : Int32).toInt = 137 := rfl
                      have c31' := c31
                      rw [← Int32.toInt_inj] at c31'
                      refine y_if (fun c36 => ?_) (fun c36 => ?_)
                      · skip
                        have c36' := c36
                        rw [← Int32.toInt_inj] at c36'
                        have e37 : (1 : Int32).toInt = 1 := rfl
                        refine y_Ok.mono (y_X9_converts_L_1 (by omega) (by omega) (by omega) (by first | with_reducible assumption | omega | ((with_reducible refine y_Vl ?_ ?_) <;> omega)) (by omega) (by omega)) (fun r_t37 h_r_t37 => ?_)
                        obtain ⟨h0_r_t37, h1_r_t37, h2_r_t37⟩ := h_r_t37
                        refine ⟨?_, ?_, ?_⟩ <;> (first | with_reducible assumption | omega | ((with_reducible refine y_Vl ?_ ?_) <;> omega))
                      · skip
                        have c36' := c36
                        rw [← Int32.toInt_inj] at c36'
                        refine y_if (fun c39 => ?_) (fun c39 => ?_)
                        · skip
                          have c39' := c39
                          rw [← Int32.toInt_inj] at c39'
                          have e40 : (1 : Int32).toInt = 1 := rfl
                          refine y_Ok.mono (y_X9_converts_L_2 (by omega) (by omega) (by omega) (by first | with_reducible assumption | omega | ((with_reducible refine y_Vl ?_ ?_) <;> omega)) (by omega) (by omega)) (fun r_t40 h_r_t40 => ?_)
                          obtain ⟨h0_r_t40, h1_r_t40, h2_r_t40⟩ := h_r_t40
                          refine ⟨?_, ?_, ?_⟩ <;> (first | with_reducible assumption | omega | ((with_reducible refine y_Vl ?_ ?_) <;> omega))
                        · skip
                          have c39' := c39
                          rw [← Int32.toInt_inj] at c39'
                          refine y_if (fun c42 => ?_) (fun c42 => ?_)
                          · skip
                            have c42' := c42
                            rw [← Int32.toInt_inj] at c42'
                            have e43 : (1 : Int32).toInt = 1 := rfl
                            refine y_Ok.mono (y_X9_converts_L_2 (by omega) (by omega) (by omega) (by first | with_reducible assumption | omega | ((with_reducible refine y_Vl ?_ ?_) <;> omega)) (by omega) (by omega)) (fun r_t43 h_r_t43 => ?_)
                            obtain ⟨h0_r_t43, h1_r_t43, h2_r_t43⟩ := h_r_t43
                            refine ⟨?_, ?_, ?_⟩ <;> (first | with_reducible assumption | omega | ((with_reducible refine y_Vl ?_ ?_) <;> omega))
                          · skip
                            have c42' := c42
                            rw [← Int32.toInt_inj] at c42'
                            refine y_if (fun c45 => ?_) (fun c45 => ?_)
                            · skip
                              have c45' := c45
                              rw [← Int32.toInt_inj] at c45'
                              have e46 : (1 : Int32).toInt = 1 := rfl
                              refine y_Ok.mono (y_X9_converts_L_2 (by omega) (by omega) (by omega) (by first | with_reducible assumption | omega | ((with_reducible refine y_Vl ?_ ?_) <;> omega)) (by omega) (by omega)) (fun r_t46 h_r_t46 => ?_)
                              obtain ⟨h0_r_t46, h1_r_t46, h2_r_t46⟩ := h_r_t46
                              refine ⟨?_, ?_, ?_⟩ <;> (first | with_reducible assumption | omega | ((with_reducible refine y_Vl ?_ ?_) <;> omega))
                            · skip
                              have c45' := c45
                              rw [← Int32.toInt_inj] at c45'
                              have e48 : (1 : Int32).toInt = 1 := rfl
                              refine y_bi (y_X9_pop (by omega) (by omega)) (fun r_27 h_r_27 => ?_)
                              obtain ⟨h0_r_27, h1_r_27⟩ := h_r_27
                              refine y_if (fun c49 => ?_) (fun c49 => ?_)
                              · skip
                                have e50 : (0 : Int32).toInt = 0 := rfl
                                have c49' := c49
                                rw [← Int32.toInt_inj] at c49'
                                refine y_some ?_
                                try dsimp only
                                refine ⟨?_, ?_, ?_⟩ <;> (first | with_reducible assumption | omega | ((with_reducible refine y_Vl ?_ ?_) <;> omega))
                              · skip
                                have e51 : (0 : Int32).toInt = 0 := rfl
                                have c49' := c49
                                rw [← Int32.toInt_inj] at c49'
                                refine y_bi (y_X9_push (by omega) (by omega) (by omega) (by first | with_reducible assumption | omega | ((with_reducible refine y_Vl ?_ ?_) <;> omega)) (by first | with_reducible assumption | omega | ((with_reducible refine y_Vl ?_ ?_) <;> omega))) (fun r_29 h_r_29 => ?_)
                                obtain ⟨h0_r_29, h1_r_29, h2_r_29⟩ := h_r_29
                                refine y_if (fun c52 => ?_) (fun c52 => ?_)
                                · skip
                                  have c52' := c52
                                  rw [← Int32.toInt_inj] at c52'
                                  refine y_some ?_
                                  try dsimp only
                                  refine ⟨?_, ?_, ?_⟩ <;> (first | with_reducible assumption | omega | ((with_reducible refine y_Vl ?_ ?_) <;> omega))
                                · skip
                                  have c52' := c52
                                  rw [← Int32.toInt_inj] at c52'
                                  refine y_some ?_
                                  try dsimp only
                                  refine ⟨?_, ?_, ?_⟩ <;> (first | with_reducible assumption | omega | ((with_reducible refine y_Vl ?_ ?_) <;> omega))
          · skip
            have e53 : (144 : Int32).toInt = 144 := rfl
            have c9' := c9
            rw [Int32.lt_iff_toInt_lt] at c9'
            refine y_if (fun c54 => ?_) (fun c54 => ?_)
            · skip
              have e55 : (133 : Int32).toInt = 133 := rfl
              have c54' := c54
              rw [← Int32.toInt_inj] at c54'
              have e56 : (4 : Int32).toInt = 4 := rfl
              refine y_Ok.mono (y_X9_converts_L_0 (by omega) (by omega) (by omega) (by first | with_reducible assumption | omega | ((with_reducible refine y_Vl ?_ ?_) <;> omega)) (by omega) (by omega)) (fun r_t56 h_r_t56 => ?_)
              obtain ⟨h0_r_t56, h1_r_t56, h2_r_t56⟩ := h_r_t56
              refine ⟨?_, ?_, ?_⟩ <;> (first | with_reducible assumption | omega | ((with_reducible refine y_Vl ?_ ?_) <;> omega))
            · skip
              have e58 : (133 : Int32).toInt = 133 := rfl
              have c54' := c54
              rw [← Int32.toInt_inj] at c54'
              refine y_if (fun c59 => ?_) (fun c59 => ?_)
              · skip
                have e60 : (140 : Int32).toInt = 140 := rfl
                have c59' := c59
                rw [← Int32.toInt_inj] at c59'
                have e61 : (4 : Int32).toInt = 4 := rfl
                refine y_Ok.mono (y_X9_converts_L_0 (by omega) (by omega) (by omega) (by first | with_reducible assumption | omega | ((with_reducible refine y_Vl ?_ ?_) <;> omega)) (by omega) (by omega)) (fun r_t61 h_r_t61 => ?_)
                obtain ⟨h0_r_t61, h1_r_t61, h2_r_t61⟩ := h_r_t61
                refine ⟨?_, ?_, ?_⟩ <;> (first | with_reducible assumption | omega | ((with_reducible refine y_Vl ?_ ?_) <;> omega))
              · skip
                have e63 : (140 : Int32).toInt = 140 := rfl
                have c59' := c59
                rw [← Int32.toInt_inj] at c59'
                refine y_if (fun c64 => ?_) (fun c64 => ?_)
                · skip
                  have e65 : (143 : Int32).toInt = 143 := rfl
                  have c64' := c64
                  rw [← Int32.toInt_inj] at c64'
                  have e66 : (4 : Int32).toInt = 4 := rfl
                  refine y_Ok.mono (y_X9_converts_L_0 (by omega) (by omega) (by omega) (by first | with_reducible assumption | omega | ((with_reducible refine y_Vl ?_ ?_) <;> omega)) (by omega) (by omega)) (fun r_t66 h_r_t66 => ?_)
                  obtain ⟨h0_r_t66, h1_r_t66, h2_r_t66⟩ := h_r_t66
                  refine ⟨?_, ?_, ?_⟩ <;> (first | with_reducible assumption | omega | ((with_reducible refine y_Vl ?_ ?_) <;> omega))
                · skip
                  have e68 : (143 : Int32).toInt = 143 := rfl
                  have c64' := c64
                  rw [← Int32.toInt_inj] at c64'
                  refine y_if (fun c69 => ?_) (fun c69 => ?_)
                  · skip
                    have e70 : (134 : Int32).toInt = 134 := rfl
                    have c69' := c69
                    rw [← Int32.toInt_inj] at c69'
                    have e71 : (4 : Int32).toInt = 4 := rfl
                    refine y_Ok.mono (y_X9_converts_L_1 (by omega) (by omega) (by omega) (by first | with_reducible assumption | omega | ((with_reducible refine y_Vl ?_ ?_) <;> omega)) (by omega) (by omega)) (fun r_t71 h_r_t71 => ?_)
                    obtain ⟨h0_r_t71, h1_r_t71, h2_r_t71⟩ := h_r_t71
                    refine ⟨?_, ?_, ?_⟩ <;> (first | with_reducible assumption | omega | ((with_reducible refine y_Vl ?_ ?_) <;> omega))
                  · skip
                    have e73 : (134 : Int32).toInt = 134 := rfl
                    have c69' := c69
                    rw [← Int32.toInt_inj] at c69'
                    refine y_if (fun c74 => ?_) (fun c74 => ?_)
                    · skip
                      have e75 : (137 : Int32).toInt = 137 := rfl
                      have c74' := c74
                      rw [← Int32.toInt_inj] at c74'
                      have e76 : (4 : Int32).toInt = 4 := rfl
                      refine y_Ok.mono (y_X9_converts_L_1 (by omega) (by omega) (by omega) (by first | with_reducible assumption | omega | ((with_reducible refine y_Vl ?_ ?_) <;> omega)) (by omega) (by omega)) (fun r_t76 h_r_t76 => ?_)
                      obtain ⟨h0_r_t76, h1_r_t76, h2_r_t76⟩ := h_r_t76
                      refine ⟨?_, ?_, ?_⟩ <;> (first | with_reducible assumption | omega | ((with_reducible refine y_Vl ?_ ?_) <;> omega))
                    · skip
                      have e78 : (137 : Int32).toInt = 137 := rfl
                      have c74' := c74
                      rw [← Int32.toInt_inj] at c74'
                      refine y_if (fun c79 => ?_) (fun c79 => ?_)
                      · skip
                        have c79' := c79
                        rw [← Int32.toInt_inj] at c79'
                        have e80 : (4 : Int32).toInt = 4 := rfl
                        refine y_Ok.mono (y_X9_converts_L_1 (by omega) (by omega) (by omega) (by first | with_reducible assumption | omega | ((with_reducible refine y_Vl ?_ ?_) <;> omega)) (by omega) (by omega)) (fun r_t80 h_r_t80 => ?_)
                        obtain ⟨h0_r_t80, h1_r_t80, h2_r_t80⟩ := h_r_t80
                        refine ⟨?_, ?_, ?_⟩ <;> (first | with_reducible assumption | omega | ((with_reducible refine y_Vl ?_ ?_) <;> omega))
                      · skip
                        have c79' := c79
                        rw [← Int32.toInt_inj] at c79'
                        refine y_if (fun c82 => ?_) (fun c82 => ?_)
                        · skip
                          have c82' := c82
                          rw [← Int32.toInt_inj] at c82'
                          have e83 : (4 : Int32).toInt = 4 := rfl
                          refine y_Ok.mono (y_X9_converts_L_2 (by omega) (by omega) (by omega) (by first | with_reducible assumption | omega | ((with_reducible refine y_Vl ?_ ?_) <;> omega)) (by omega) (by omega)) (fun r_t83 h_r_t83 => ?_)
                          obtain ⟨h0_r_t83, h1_r_t83, h2_r_t83⟩ := h_r_t83
                          refine ⟨?_, ?_, ?_⟩ <;> (first | with_reducible assumption | omega | ((with_reducible refine y_Vl ?_ ?_) <;> omega))
                        · skip
                          have c82' := c82
                          rw [← Int32.toInt_inj] at c82'
                          refine y_if (fun c85 => ?_) (fun c85 => ?_)
                          · skip
                            have c85' := c85
                            rw [← Int32.toInt_inj] at c85'
                            have e86 : (4 : Int32).toInt = 4 := rfl
                            refine y_Ok.mono (y_X9_converts_L_2 (by omega) (by omega) (by omega) (by first | with_reducible assumption | omega | ((with_reducible refine y_Vl ?_ ?_) <;> omega)) (by omega) (by omega)) (fun r_t86 h_r_t86 => ?_)
                            obtain ⟨h0_r_t86, h1_r_t86, h2_r_t86⟩ := h_r_t86
                            refine ⟨?_, ?_, ?_⟩ <;> (first | with_reducible assumption | omega | ((with_reducible refine y_Vl ?_ ?_) <;> omega))
                          · skip
                            have c85' := c85
                            rw [← Int32.toInt_inj] at c85'
                            refine y_if (fun c88 => ?_) (fun c88 => ?_)
                            · skip
                              have c88' := c88
                              rw [← Int32.toInt_inj] at c88'
                              have e89 : (4 : Int32).toInt = 4 := rfl
                              refine y_Ok.mono (y_X9_converts_L_2 (by omega) (by omega) (by omega) (by first | with_reducible assumption | omega | ((with_reducible refine y_Vl ?_ ?_) <;> omega)) (by omega) (by omega)) (fun r_t89 h_r_t89 => ?_)
                              obtain ⟨h0_r_t89, h1_r_t89, h2_r_t89⟩ := h_r_t89
                              refine ⟨?_, ?_, ?_⟩ <;> (first | with_reducible assumption | omega | ((with_reducible refine y_Vl ?_ ?_) <;> omega))
                            · skip
                              have c88' := c88
                              rw [← Int32.toInt_inj] at c88'
                              have e91 : (4 : Int32).toInt = 4 := rfl
                              refine y_bi (y_X9_pop (by omega) (by omega)) (fun r_40 h_r_40 => ?_)
                              obtain ⟨h0_r_40, h1_r_40⟩ := h_r_40
                              refine y_if (fun c92 => ?_) (fun c92 => ?_)
                              · skip
                                have e93 : (0 : Int32).toInt = 0 := rfl
                                have c92' := c92
                                rw [← Int32.toInt_inj] at c92'
                                refine y_some ?_
                                try dsimp only
                                refine ⟨?_, ?_, ?_⟩ <;> (first | with_reducible assumption | omega | ((with_reducible refine y_Vl ?_ ?_) <;> omega))
                              · skip
                                have e94 : (0 : Int32).toInt = 0 := rfl
                                have c92' := c92
                                rw [← Int32.toInt_inj] at c92'
                                have e95 : (1 : Int32).toInt = 1 := rfl
                                refine y_bi (y_X9_push (by omega) (by omega) (by omega) (by first | with_reducible assumption | omega | ((with_reducible refine y_Vl ?_ ?_) <;> omega)) (by first | with_reducible assumption | omega | ((with_reducible refine y_Vl ?_ ?_) <;> omega))) (fun r_42 h_r_42 => ?_)
                                obtain ⟨h0_r_42, h1_r_42, h2_r_42⟩ := h_r_42
                                refine y_if (fun c96 => ?_) (fun c96 => ?_)
                                · skip
                                  have c96' := c96
                                  rw [← Int32.toInt_inj] at c96'
                                  refine y_some ?_
                                  try dsimp only
                                  refine ⟨?_, ?_, ?_⟩ <;> (first | with_reducible assumption | omega | ((with_reducible refine y_Vl ?_ ?_) <;> omega))
                                · skip
                                  have c96' := c96
                                  rw [← Int32.toInt_inj] at c96'
                                  refine y_some ?_
                                  try dsimp only
                                  refine ⟨?_, ?_, ?_⟩ <;> (first | with_reducible assumption | omega | ((with_reducible refine y_Vl ?_ ?_) <;> omega))
        · skip
          have e97 : (141 : Int32).toInt = 141 := rfl
          have c7' := c7
          rw [Int32.lt_iff_toInt_lt] at c7'
          refine y_if (fun c98 => ?_) (fun c98 => ?_)
          · skip
            have e99 : (133 : Int32).toInt = 133 := rfl
            have c98' := c98
            rw [← Int32.toInt_inj] at c98'
            have e100 : (2 : Int32).toInt = 2 := rfl
            refine y_Ok.mono (y_X9_converts_L_0 (by omega) (by omega) (by omega) (by first | with_reducible assumption | omega | ((with_reducible refine y_Vl ?_ ?_) <;> omega)) (by omega) (by omega)) (fun r_t100 h_r_t100 => ?_)
            obtain ⟨h0_r_t100, h1_r_t100, h2_r_t100⟩ := h_r_t100
            refine ⟨?_, ?_, ?_⟩ <;> (first | with_reducible assumption | omega | ((with_reducible refine y_Vl ?_ ?_) <;> omega))
          · skip
            have e102 : (133 : Int32).toInt = 133 := rfl
            have c98' := c98
            rw [← Int32.toInt_inj] at c98'
            refine y_if (fun c103 => ?_) (fun c103 => ?_)
            · skip
              have e104 : (140 : Int32).toInt = 140 := rfl
              have c103' := c103
              rw [← Int32.toInt_inj] at c103'
              have e105 : (2 : Int32).toInt = 2 := rfl
              refine y_Ok.mono (y_X9_converts_L_0 (by omega) (by omega) (by omega) (by first | with_reducible assumption | omega | ((with_reducible refine y_Vl ?_ ?_) <;> omega)) (by omega) (by omega)) (fun r_t105 h_r_t105 => ?_)
              obtain ⟨h0_r_t105, h1_r_t105, h2_r_t105⟩ := h_r_t105
              refine ⟨?_, ?_, ?_⟩ <;> (first | with_reducible assumption | omega | ((with_reducible refine y_Vl ?_ ?_) <;> omega))
            · skip
              have e107 : (140 : Int32).toInt = 140 := rfl
              have c103' := c103
              rw [← Int32.toInt_inj] at c103'
              refine y_if (fun c108 => ?_) (fun c108 => ?_)
              · skip
                have e109 : (143 : Int32).toInt = 143 := rfl
                have c108' := c108
                rw [← Int32.toInt_inj] at c108'
                have e110 : (2 : Int32).toInt = 2 := rfl
                refine y_Ok.mono (y_X9_converts_L_0 (by omega) (by omega) (by omega) (by first | with_reducible assumption | omega | ((with_reducible refine y_Vl ?_ ?_) <;> omega)) (by omega) (by omega)) (fun r_t110 h_r_t110 => ?_)
                obtain ⟨h0_r_t110, h1_r_t110, h2_r_t110⟩ := h_r_t110
                refine ⟨?_, ?_, ?_⟩ <;> (first | with_reducible assumption | omega | ((with_reducible refine y_Vl ?_ ?_) <;> omega))
              · skip
                have e112 : (143 : Int32).toInt = 143 := rfl
                have c108' := c108
                rw [← Int32.toInt_inj] at c108'
                refine y_if (fun c113 => ?_) (fun c113 => ?_)
                · skip
                  have e114 : (134 : Int32).toInt = 134 := rfl
                  have c113' := c113
                  rw [← Int32.toInt_inj] at c113'
                  have e115 : (2 : Int32).toInt = 2 := rfl
                  refine y_Ok.mono (y_X9_converts_L_1 (by omega) (by omega) (by omega) (by first | with_reducible assumption | omega | ((with_reducible refine y_Vl ?_ ?_) <;> omega)) (by omega) (by omega)) (fun r_t115 h_r_t115 => ?_)
                  obtain ⟨h0_r_t115, h1_r_t115, h2_r_t115⟩ := h_r_t115
                  refine ⟨?_, ?_, ?_⟩ <;> (first | with_reducible assumption | omega | ((with_reducible refine y_Vl ?_ ?_) <;> omega))
                · skip
                  have e117 : (134 : Int32).toInt = 134 := rfl
                  have c113' := c113
                  rw [← Int32.toInt_inj] at c113'
                  refine y_if (fun c118 => ?_) (fun c118 => ?_)
                  · skip
                    have e119 : (137 : Int32).toInt = 137 := rfl
                    have c118' := c118
                    rw [← Int32.toInt_inj] at c118'
                    have e120 : (2 : Int32).toInt = 2 := rfl
                    refine y_Ok.mono (y_X9_converts_L_1 (by omega) (by omega) (by omega) (by first | with_reducible assumption | omega | ((with_reducible refine y_Vl ?_ ?_) <;> omega)) (by omega) (by omega)) (fun r_t120 h_r_t120 => ?_)
                    obtain ⟨h0_r_t120, h1_r_t120, h2_r_t120⟩ := h_r_t120
                    refine ⟨?_, ?_, ?_⟩ <;> (first | with_reducible assumption | omega | ((with_reducible refine y_Vl ?_ ?_) <;> omega))
                  · skip
                    have e122 : (137 : Int32).toInt = 137 := rfl
                    have c118' := c118
                    rw [← Int32.toInt_inj] at c118'
                    refine y_if (fun c123 => ?_) (fun c123 => ?_)
                    · skip
                      have e124 : (144 : Int32).toInt = 144 := rfl
                      have c123' := c123
                      rw [← Int32.toInt_inj] at c123'
                      have e125 : (2 : Int32).toInt = 2 := rfl
                      refine y_Ok.mono (y_X9_converts_L_1 (by omega) (by omega) (by omega) (by first | with_reducible assumption | omega | ((with_reducible refine y_Vl ?_ ?_) <;> omega)) (by omega) (by omega)) (fun r_t125 h_r_t125 => ?_)
                      obtain ⟨h0_r_t125, h1_r_t125, h2_r_t125⟩ := h_r_t125
                      refine ⟨?_, ?_, ?_⟩ <;> (first | with_reducible assumption | omega | ((with_reducible refine y_Vl ?_ ?_) <;> omega))
                    · skip
                      have e127 : (144 : Int32).toInt = 144 := rfl
                      have c123' := c123
                      rw [← Int32.toInt_inj] at c123'
                      refine y_if (fun c128 => ?_) (fun c128 => ?_)
                      · skip
                        have c128' := c128
                        rw [← Int32.toInt_inj] at c128'
                        have e129 : (2 : Int32).toInt = 2 := rfl
                        refine y_Ok.mono (y_X9_converts_L_2 (by omega) (by omega) (by omega) (by first | with_reducible assumption | omega | ((with_reducible refine y_Vl ?_ ?_) <;> omega)) (by omega) (by omega)) (fun r_t129 h_r_t129 => ?_)
                        obtain ⟨h0_r_t129, h1_r_t129, h2_r_t129⟩ := h_r_t129
                        refine ⟨?_, ?_, ?_⟩ <;> (first | with_reducible assumption | omega | ((with_reducible refine y_Vl ?_ ?_) <;> omega))
                      · skip
                        have c128' := c128
                        rw [← Int32.toInt_inj] at c128'
                        refine y_if (fun c131 => ?_) (fun c131 => ?_)
                        · skip
                          have c131' := c131
                          rw [← Int32.toInt_inj] at c131'
                          have e132 : (2 : Int32).toInt = 2 := rfl
                          refine y_Ok.mono (y_X9_converts_L_2 (by omega) (by omega) (by omega) (by first | with_reducible assumption | omega | ((with_reducible refine y_Vl ?_ ?_) <;> omega)) (by omega) (by omega)) (fun r_t132 h_r_t132 => ?_)
                          obtain ⟨h0_r_t132, h1_r_t132, h2_r_t132⟩ := h_r_t132
                          refine ⟨?_, ?_, ?_⟩ <;> (first | with_reducible assumption | omega | ((with_reducible refine y_Vl ?_ ?_) <;> omega))
                        · skip
                          have c131' := c131
                          rw [← Int32.toInt_inj] at c131'
                          refine y_if (fun c134 => ?_) (fun c134 => ?_)
                          · skip
                            have c134' := c134
                            rw [← Int32.toInt_inj] at c134'
                            have e135 : (2 : Int32).toInt = 2 := rfl
                            refine y_Ok.mono (y_X9_converts_L_2 (by omega) (by omega) (by omega) (by first | with_reducible assumption | omega | ((with_reducible refine y_Vl ?_ ?_) <;> omega)) (by omega) (by omega)) (fun r_t135 h_r_t135 => ?_)
                            obtain ⟨h0_r_t135, h1_r_t135, h2_r_t135⟩ := h_r_t135
                            refine ⟨?_, ?_, ?_⟩ <;> (first | with_reducible assumption | omega | ((with_reducible refine y_Vl ?_ ?_) <;> omega))
                          · skip
                            have c134' := c134
                            rw [← Int32.toInt_inj] at c134'
                            have e137 : (2 : Int32).toInt = 2 := rfl
                            refine y_bi (y_X9_pop (by omega) (by omega)) (fun r_53 h_r_53 => ?_)
                            obtain ⟨h0_r_53, h1_r_53⟩ := h_r_53
                            refine y_if (fun c138 => ?_) (fun c138 => ?_)
                            · skip
                              have e139 : (0 : Int32).toInt = 0 := rfl
                              have c138' := c138
                              rw [← Int32.toInt_inj] at c138'
                              refine y_some ?_
                              try dsimp only
                              refine ⟨?_, ?_, ?_⟩ <;> (first | with_reducible assumption | omega | ((with_reducible refine y_Vl ?_ ?_) <;> omega))
                            · skip
                              have e140 : (0 : Int32).toInt = 0 := rfl
                              have c138' := c138
                              rw [← Int32.toInt_inj] at c138'
                              have e141 : (1 : Int32).toInt = 1 := rfl
                              refine y_bi (y_X9_push (by omega) (by omega) (by omega) (by first | with_reducible assumption | omega | ((with_reducible refine y_Vl ?_ ?_) <;> omega)) (by first | with_reducible assumption | omega | ((with_reducible refine y_Vl ?_ ?_) <;> omega))) (fun r_55 h_r_55 => ?_)
                              obtain ⟨h0_r_55, h1_r_55, h2_r_55⟩ := h_r_55
                              refine y_if (fun c142 => ?_) (fun c142 => ?_)
                              · skip
                                have c142' := c142
                                rw [← Int32.toInt_inj] at c142'
                                refine y_some ?_
                                try dsimp only
                                refine ⟨?_, ?_, ?_⟩ <;> (first | with_reducible assumption | omega | ((with_reducible refine y_Vl ?_ ?_) <;> omega))
                              · skip
                                have c142' := c142
                                rw [← Int32.toInt_inj] at c142'
                                refine y_some ?_
                                try dsimp only
                                refine ⟨?_, ?_, ?_⟩ <;> (first | with_reducible assumption | omega | ((with_reducible refine y_Vl ?_ ?_) <;> omega))
      · skip
        have e143 : (138 : Int32).toInt = 138 := rfl
        have c5' := c5
        rw [Int32.lt_iff_toInt_lt] at c5'
        refine y_if (fun c144 => ?_) (fun c144 => ?_)
        · skip
          have e145 : (133 : Int32).toInt = 133 := rfl
          have c144' := c144
          rw [← Int32.toInt_inj] at c144'
          have e146 : (3 : Int32).toInt = 3 := rfl
          refine y_Ok.mono (y_X9_converts_L_0 (by omega) (by omega) (by omega) (by first | with_reducible assumption | omega | ((with_reducible refine y_Vl ?_ ?_) <;> omega)) (by omega) (by omega)) (fun r_t146 h_r_t146 => ?_)
          obtain ⟨h0_r_t146, h1_r_t146, h2_r_t146⟩ := h_r_t146
          refine ⟨?_, ?_, ?_⟩ <;> (first | with_reducible assumption | omega | ((with_reducible refine y_Vl ?_ ?_) <;> omega))
        · skip
          have e148 : (133 : Int32).toInt = 133 := rfl
          have c144' := c144
          rw [← Int32.toInt_inj] at c144'
          refine y_if (fun c149 => ?_) (fun c149 => ?_)
          · skip
            have e150 : (140 : Int32).toInt = 140 := rfl
            have c149' := c149
            rw [← Int32.toInt_inj] at c149'
            have e151 : (3 : Int32).toInt = 3 := rfl
            refine y_Ok.mono (y_X9_converts_L_0 (by omega) (by omega) (by omega) (by first | with_reducible assumption | omega | ((with_reducible refine y_Vl ?_ ?_) <;> omega)) (by omega) (by omega)) (fun r_t151 h_r_t151 => ?_)
            obtain ⟨h0_r_t151, h1_r_t151, h2_r_t151⟩ := h_r_t151
            refine ⟨?_, ?_, ?_⟩ <;> (first | with_reducible assumption | omega | ((with_reducible refine y_Vl ?_ ?_) <;> omega))
          · skip
            have e153 : (140 : Int32).toInt = 140 := rfl
            have c149' := c149
            rw [← Int32.toInt_inj] at c149'
            refine y_if (fun c154 => ?_) (fun c154 => ?_)
            · skip
              have e155 : (143 : Int32).toInt = 143 := rfl
              have c154' := c154
              rw [← Int32.toInt_inj] at c154'
              have e156 : (3 : Int32).toInt = 3 := rfl
              refine y_Ok.mono (y_X9_converts_L_0 (by omega) (by omega) (by omega) (by first | with_reducible assumption | omega | ((with_reducible refine y_Vl ?_ ?_) <;> omega)) (by omega) (by omega)) (fun r_t156 h_r_t156 => ?_)
              obtain ⟨h0_r_t156, h1_r_t156, h2_r_t156⟩ := h_r_t156
              refine ⟨?_, ?_, ?_⟩ <;> (first | with_reducible assumption | omega | ((with_reducible refine y_Vl ?_ ?_) <;> omega))
            · skip
              have e158 : (143 : Int32).toInt = 143 := rfl
              have c154' := c154
              rw [← Int32.toInt_inj] at c154'
              refine y_if (fun c159 => ?_) (fun c159 => ?_)
              · skip
                have e160 : (134 : Int32).toInt = 134 := rfl
                have c159' := c159
                rw [← Int32.toInt_inj] at c159'
                have e161 : (3 : Int32).toInt = 3 := rfl
                refine y_Ok.mono (y_X9_converts_L_1 (by omega) (by omega) (by omega) (by first | with_reducible assumption | omega | ((with_reducible refine y_Vl ?_ ?_) <;> omega)) (by omega) (by omega)) (fun r_t161 h_r_t161 => ?_)
                obtain ⟨h0_r_t161, h1_r_t161, h2_r_t161⟩ := h_r_t161
                refine ⟨?_, ?_, ?_⟩ <;> (first | with_reducible assumption | omega | ((with_reducible refine y_Vl ?_ ?_) <;> omega))
              · skip
                have e163 : (134 : Int32).toInt = 134 := rfl
                have c159' := c159
                rw [← Int32.toInt_inj] at c159'
                refine y_if (fun c164 => ?_) (fun c164 => ?_)
                · skip
                  have e165 : (137 : Int32).toInt = 137 := rfl
                  have c164' := c164
                  rw [← Int32.toInt_inj] at c164'
                  have e166 : (3 : Int32).toInt = 3 := rfl
                  refine y_Ok.mono (y_X9_converts_L_1 (by omega) (by omega) (by omega) (by first | with_reducible assumption | omega | ((with_reducible refine y_Vl ?_ ?_) <;> omega)) (by omega) (by omega)) (fun r_t166 h_r_t166 => ?_)
                  obtain ⟨h0_r_t166, h1_r_t166, h2_r_t166⟩ := h_r_t166
                  refine ⟨?_, ?_, ?_⟩ <;> (first | with_reducible assumption | omega | ((with_reducible refine y_Vl ?_ ?_) <;> omega))
                · skip
                  have e168 : (137 : Int32).toInt = 137 := rfl
                  have c164' := c164
                  rw [← Int32.toInt_inj] at c164'
                  refine y_if (fun c169 => ?_) (fun c169 => ?_)
                  · skip
                    have e170 : (144 : Int32).toInt = 144 := rfl
                    have c169' := c169
                    rw [← Int32.toInt_inj] at c169'
                    have e171 : (3 : Int32).toInt = 3 := rfl
                    refine y_Ok.mono (y_X9_converts_L_1 (by omega) (by omega) (by omega) (by first | with_reducible assumption | omega | ((with_reducible refine y_Vl ?_ ?_) <;> omega)) (by omega) (by omega)) (fun r_t171 h_r_t171 => ?_)
                    obtain ⟨h0_r_t171, h1_r_t171, h2_r_t171⟩ := h_r_t171
                    refine ⟨?_, ?_, ?_⟩ <;> (first | with_reducible assumption | omega | ((with_reducible refine y_Vl ?_ ?_) <;> omega))
                  · skip
                    have e173 : (144 : Int32).toInt = 144 := rfl
                    have c169' := c169
                    rw [← Int32.toInt_inj] at c169'
                    refine y_if (fun c174 => ?_) (fun c174 => ?_)
                    · skip
                      have c174' := c174
                      rw [← Int32.toInt_inj] at c174'
                      have e175 : (3 : Int32).toInt = 3 := rfl
                      refine y_Ok.mono (y_X9_converts_L_2 (by omega) (by omega) (by omega) (by first | with_reducible assumption | omega | ((with_reducible refine y_Vl ?_ ?_) <;> omega)) (by omega) (by omega)) (fun r_t175 h_r_t175 => ?_)
                      obtain ⟨h0_r_t175, h1_r_t175, h2_r_t175⟩ := h_r_t175
                      refine ⟨?_, ?_, ?_⟩ <;> (first | with_reducible assumption | omega | ((with_reducible refine y_Vl ?_ ?_) <;> omega))
                    · skip
                      have c174' := c174
                      rw [← Int32.toInt_inj] at c174'
                      refine y_if (fun c177 => ?_) (fun c177 => ?_)
                      · skip
                        have c177' := c177
                        rw [← Int32.toInt_inj] at c177'
                        have e178 : (3 : Int32).toInt = 3 := rfl
                        refine y_Ok.mono (y_X9_converts_L_2 (by omega) (by omega) (by omega) (by first | with_reducible assumption | omega | ((with_reducible refine y_Vl ?_ ?_) <;> omega)) (by omega) (by omega)) (fun r_t178 h_r_t178 => ?_)
                        obtain ⟨h0_r_t178, h1_r_t178, h2_r_t178⟩ := h_r_t178
                        refine ⟨?_, ?_, ?_⟩ <;> (first | with_reducible assumption | omega | ((with_reducible refine y_Vl ?_ ?_) <;> omega))
                      · skip
                        have c177' := c177
                        rw [← Int32.toInt_inj] at c177'
                        refine y_if (fun c180 => ?_) (fun c180 => ?_)
                        · skip
                          have e181 : (141 : Int32).toInt = 141 := rfl
                          have c180' := c180
                          rw [← Int32.toInt_inj] at c180'
                          have e182 : (3 : Int32).toInt = 3 := rfl
                          refine y_Ok.mono (y_X9_converts_L_2 (by omega) (by omega) (by omega) (by first | with_reducible assumption | omega | ((with_reducible refine y_Vl ?_ ?_) <;> omega)) (by omega) (by omega)) (fun r_t182 h_r_t182 => ?_)
                          obtain ⟨h0_r_t182, h1_r_t182, h2_r_t182⟩ := h_r_t182
                          refine ⟨?_, ?_, ?_⟩ <;> (first | with_reducible assumption | omega | ((with_reducible refine y_Vl ?_ ?_) <;> omega))
                        · skip
                          have e184 : (141 : Int32).toInt = 141 := rfl
                          have c180' := c180
                          rw [← Int32.toInt_inj] at c180'
                          have e185 : (3 : Int32).toInt = 3 := rfl
                          refine y_bi (y_X9_pop (by omega) (by omega)) (fun r_66 h_r_66 => ?_)
                          obtain ⟨h0_r_66, h1_r_66⟩ := h_r_66
                          refine y_if (fun c186 => ?_) (fun c186 => ?_)
                          · skip
                            have e187 : (0 : Int32).toInt = 0 := rfl
                            have c186' := c186
                            rw [← Int32.toInt_inj] at c186'
                            refine y_some ?_
                            try dsimp only
                            refine ⟨?_, ?_, ?_⟩ <;> (first | with_reducible assumption | omega | ((with_reducible refine y_Vl ?_ ?_) <;> omega))
                          · skip
                            have e188 : (0 : Int32).toInt = 0 := rfl
                            have c186' := c186
                            rw [← Int32.toInt_inj] at c186'
                            have e189 : (1 : Int32).toInt = 1 := rfl
                            refine y_bi (y_X9_push (by omega) (by omega) (by omega) (by first | with_reducible assumption | omega | ((with_reducible refine y_Vl ?_ ?_) <;> omega)) (by first | with_reducible assumption | omega | ((with_reducible refine y_Vl ?_ ?_) <;> omega))) (fun r_68 h_r_68 => ?_)
                            obtain ⟨h0_r_68, h1_r_68, h2_r_68⟩ := h_r_68
                            refine y_if (fun c190 => ?_) (fun c190 => ?_)
                            · skip
                              have c190' := c190
                              rw [← Int32.toInt_inj] at c190'
                              refine y_some ?_
                              try dsimp only
                              refine ⟨?_, ?_, ?_⟩ <;> (first | with_reducible assumption | omega | ((with_reducible refine y_Vl ?_ ?_) <;> omega))
                            · skip
                              have c190' := c190
                              rw [← Int32.toInt_inj] at c190'
                              refine y_some ?_
                              try dsimp only
                              refine ⟨?_, ?_, ?_⟩ <;> (first | with_reducible assumption | omega | ((with_reducible refine y_Vl ?_ ?_) <;> omega))
    · skip
      have e191 : (135 : Int32).toInt = 135 := rfl
      have c3' := c3
      rw [Int32.lt_iff_toInt_lt] at c3'
      refine y_if (fun c192 => ?_) (fun c192 => ?_)
      · skip
        have e193 : (133 : Int32).toInt = 133 := rfl
        have c192' := c192
        rw [← Int32.toInt_inj] at c192'
        have e194 : (1 : Int32).toInt = 1 := rfl
        refine y_Ok.mono (y_X9_converts_L_0 (by omega) (by omega) (by omega) (by first | with_reducible assumption | omega | ((with_reducible refine y_Vl ?_ ?_) <;> omega)) (by omega) (by omega)) (fun r_t194 h_r_t194 => ?_)
        obtain ⟨h0_r_t194, h1_r_t194, h2_r_t194⟩ := h_r_t194
        refine ⟨?_, ?_, ?_⟩ <;> (first | with_reducible assumption | omega | ((with_reducible refine y_Vl ?_ ?_) <;> omega))
      · skip
        have e196 : (133 : Int32).toInt = 133 := rfl
        have c192' := c192
        rw [← Int32.toInt_inj] at c192'
        refine y_if (fun c197 => ?_) (fun c197 => ?_)
        · skip
          have e198 : (140 : Int32).toInt = 140 := rfl
          have c197' := c197
          rw [← Int32.toInt_inj] at c197'
          have e199 : (1 : Int32).toInt = 1 := rfl
          refine y_Ok.mono (y_X9_converts_L_0 (by omega) (by omega) (by omega) (by first | with_reducible assumption | omega | ((with_reducible refine y_Vl ?_ ?_) <;> omega)) (by omega) (by omega)) (fun r_t199 h_r_t199 => ?_)
          obtain ⟨h0_r_t199, h1_r_t199, h2_r_t199⟩ := h_r_t199
          refine ⟨?_, ?_, ?_⟩ <;> (first | with_reducible assumption | omega | ((with_reducible refine y_Vl ?_ ?_) <;> omega))
        · skip
          have e201 : (140 : Int32).toInt = 140 := rfl
          have c197' := c197
          rw [← Int32.toInt_inj] at c197'
          refine y_if (fun c202 => ?_) (fun c202 => ?_)
          · skip
            have e203 : (143 : Int32).toInt = 143 := rfl
            have c202' := c202
            rw [← Int32.toInt_inj] at c202'
            have e204 : (1 : Int32).toInt = 1 := rfl
            refine y_Ok.mono (y_X9_converts_L_0 (by omega) (by omega) (by omega) (by first | with_reducible assumption | omega | ((with_reducible refine y_Vl ?_ ?_) <;> omega)) (by omega) (by omega)) (fun r_t204 h_r_t204 => ?_)
            obtain ⟨h0_r_t204, h1_r_t204, h2_r_t204⟩ := h_r_t204
            refine ⟨?_, ?_, ?_⟩ <;> (first | with_reducible assumption | omega | ((with_reducible refine y_Vl ?_ ?_) <;> omega))
          · skip
            have e206 : (143 : Int32).toInt = 143 := rfl
            have c202' := c202
            rw [← Int32.toInt_inj] at c202'
            refine y_if (fun c207 => ?_) (fun c207 => ?_)
            · skip
              have e208 : (134 : Int32).toInt = 134 := rfl
              have c207' := c207
              rw [← Int32.toInt_inj] at c207'
              have e209 : (1 : Int32).toInt = 1 := rfl
              refine y_Ok.mono (y_X9_converts_L_1 (by omega) (by omega) (by omega) (by first | with_reducible assumption | omega | ((with_reducible refine y_Vl ?_ ?_) <;> omega)) (by omega) (by omega)) (fun r_t209 h_r_t209 => ?_)
              obtain ⟨h0_r_t209, h1_r_t209, h2_r_t209⟩ := h_r_t209
              refine ⟨?_, ?_, ?_⟩ <;> (first | with_reducible assumption | omega | ((with_reducible refine y_Vl ?_ ?_) <;> omega))
            · skip
              have e211 : (134 : Int32).toInt = 134 := rfl
              have c207' := c207
              rw [← Int32.toInt_inj] at c207'
              refine y_if (fun c212 => ?_) (fun c212 => ?_)
              · skip
                have e213 : (137 : Int32).toInt = 137 := rfl
                have c212' := c212
                rw [← Int32.toInt_inj] at c212'
                have e214 : (1 : Int32).toInt = 1 := rfl
                refine y_Ok.mono (y_X9_converts_L_1 (by omega) (by omega) (by omega) (by first | with_reducible assumption | omega | ((with_reducible refine y_Vl ?_ ?_) <;> omega)) (by omega) (by omega)) (fun r_t214 h_r_t214 => ?_)
                obtain ⟨h0_r_t214, h1_r_t214, h2_r_t214⟩ := h_r_t214
                refine ⟨?_, ?_, ?_⟩ <;> (first | with_reducible assumption | omega | ((with_reducible refine y_Vl ?_ ?_) <;> omega))
              · skip
                have e216 : (137 : Int32).toInt = 137 := rfl
                have c212' := c212
                rw [← Int32.toInt_inj] at c212'
                refine y_if (fun c217 => ?_) (fun c217 => ?_)
                · skip
                  have e218 : (144 : Int32).toInt = 144 := rfl
                  have c217' := c217
                  rw [← Int32.toInt_inj] at c217'
                  have e219 : (1 : Int32).toInt = 1 := rfl
                  refine y_Ok.mono (y_X9_converts_L_1 (by omega) (by omega) (by omega) (by first | with_reducible assumption | omega | ((with_reducible refine y_Vl ?_ ?_) <;> omega)) (by omega) (by omega)) (fun r_t219 h_r_t219 => ?_)
                  obtain ⟨h0_r_t219, h1_r_t219, h2_r_t219⟩ := h_r_t219
                  refine ⟨?_, ?_, ?_⟩ <;> (first | with_reducible assumption | omega | ((with_reducible refine y_Vl ?_ ?_) <;> omega))
                · skip
                  have e221 : (144 : Int32).toInt = 144 := rfl
                  have c217' := c217
                  rw [← Int32.toInt_inj] at c217'
                  refine y_if (fun c222 => ?_) (fun c222 => ?_)
                  · skip
                    have c222' := c222
                    rw [← Int32.toInt_inj] at c222'
                    have e223 : (1 : Int32).toInt = 1 := rfl
                    refine y_Ok.mono (y_X9_converts_L_2 (by omega) (by omega) (by omega) (by first | with_reducible assumption | omega | ((with_reducible refine y_Vl ?_ ?_) <;> omega)) (by omega) (by omega)) (fun r_t223 h_r_t223 => ?_)
                    obtain ⟨h0_r_t223, h1_r_t223, h2_r_t223⟩ := h_r_t223
                    refine ⟨?_, ?_, ?_⟩ <;> (first | with_reducible assumption | omega | ((with_reducible refine y_Vl ?_ ?_) <;> omega))
                  · skip
                    have c222' := c222
                    rw [← Int32.toInt_inj] at c222'
                    refine y_if (fun c225 => ?_) (fun c225 => ?_)
                    · skip
                      have e226 : (138 : Int32).toInt = 138 := rfl
                      have c225' := c225
                      rw [← Int32.toInt_inj] at c225'
                      have e227 : (1 : Int32).toInt = 1 := rfl
                      refine y_Ok.mono (y_X9_converts_L_2 (by omega) (by omega) (by omega) (by first | with_reducible assumption | omega | ((with_reducible refine y_Vl ?_ ?_) <;> omega)) (by omega) (by omega)) (fun r_t227 h_r_t227 => ?_)
                      obtain ⟨h0_r_t227, h1_r_t227, h2_r_t227⟩ := h_r_t227
                      refine ⟨?_, ?_, ?_⟩ <;> (first | with_reducible assumption | omega | ((with_reducible refine y_Vl ?_ ?_) <;> omega))
                    · skip
                      have e229 : (138 : Int32).toInt = 138 := rfl
                      have c225' := c225
                      rw [← Int32.toInt_inj] at c225'
                      refine y_if (fun c230 => ?_) (fun c230 => ?_)
                      · skip
                        have e231 : (141 : Int32).toInt = 141 := rfl
                        have c230' := c230
                        rw [← Int32.toInt_inj] at c230'
                        have e232 : (1 : Int32).toInt = 1 := rfl
                        refine y_Ok.mono (y_X9_converts_L_2 (by omega) (by omega) (by omega) (by first | with_reducible assumption | omega | ((with_reducible refine y_Vl ?_ ?_) <;> omega)) (by omega) (by omega)) (fun r_t232 h_r_t232 => ?_)
                        obtain ⟨h0_r_t232, h1_r_t232, h2_r_t232⟩ := h_r_t232
                        refine ⟨?_, ?_, ?_⟩ <;> (first | with_reducible assumption | omega | ((with_reducible refine y_Vl ?_ ?_) <;> omega))
                      · skip
                        have e234 : (141 : Int32).toInt = 141 := rfl
                        have c230' := c230
                        rw [← Int32.toInt_inj] at c230'
                        have e235 : (1 : Int32).toInt = 1 := rfl
                        refine y_bi (y_X9_pop (by omega) (by omega)) (fun r_79 h_r_79 => ?_)
                        obtain ⟨h0_r_79, h1_r_79⟩ := h_r_79
                        refine y_if (fun c236 => ?_) (fun c236 => ?_)
                        · skip
                          have e237 : (0 : Int32).toInt = 0 := rfl
                          have c236' := c236
                          rw [← Int32.toInt_inj] at c236'
                          refine y_some ?_
                          try dsimp only
                          refine ⟨?_, ?_, ?_⟩ <;> (first | with_reducible assumption | omega | ((with_reducible refine y_Vl ?_ ?_) <;> omega))
                        · skip
                          have e238 : (0 : Int32).toInt = 0 := rfl
                          have c236' := c236
                          rw [← Int32.toInt_inj] at c236'
                          refine y_bi (y_X9_push (by omega) (by omega) (by omega) (by first | with_reducible assumption | omega | ((with_reducible refine y_Vl ?_ ?_) <;> omega)) (by first | with_reducible assumption | omega | ((with_reducible refine y_Vl ?_ ?_) <;> omega))) (fun r_81 h_r_81 => ?_)
                          obtain ⟨h0_r_81, h1_r_81, h2_r_81⟩ := h_r_81
                          refine y_if (fun c239 => ?_) (fun c239 => ?_)
                          · skip
                            have c239' := c239
                            rw [← Int32.toInt_inj] at c239'
                            refine y_some ?_
                            try dsimp only
                            refine ⟨?_, ?_, ?_⟩ <;> (first | with_reducible assumption | omega | ((with_reducible refine y_Vl ?_ ?_) <;> omega))
                          · skip
                            have c239' := c239
                            rw [← Int32.toInt_inj] at c239'
                            refine y_some ?_
                            try dsimp only
                            refine ⟨?_, ?_, ?_⟩ <;> (first | with_reducible assumption | omega | ((with_reducible refine y_Vl ?_ ?_) <;> omega))
  · skip
    have e240 : (148 : Int32).toInt = 148 := rfl
    have c1' := c1
    rw [Int32.lt_iff_toInt_lt] at c1'
    refine y_if (fun c241 => ?_) (fun c241 => ?_)
    · skip
      have c241' := c241
      rw [← Int32.toInt_inj] at c241'
      have e242 : (3 : Int32).toInt = 3 := rfl
      refine y_bi (y_X9_pop (by omega) (by omega)) (fun r_97 h_r_97 => ?_)
      obtain ⟨h0_r_97, h1_r_97⟩ := h_r_97
      refine y_if (fun c243 => ?_) (fun c243 => ?_)
      · skip
        have e244 : (0 : Int32).toInt = 0 := rfl
        have c243' := c243
        rw [← Int32.toInt_inj] at c243'
        refine y_some ?_
        try dsimp only
        refine ⟨?_, ?_, ?_⟩ <;> (first | with_reducible assumption | omega | ((with_reducible refine y_Vl ?_ ?_) <;> omega))
      · skip
        have e245 : (0 : Int32).toInt = 0 := rfl
        have c243' := c243
        rw [← Int32.toInt_inj] at c243'
        refine y_bi (y_X9_pop (by omega) (by omega)) (fun r_99 h_r_99 => ?_)
        obtain ⟨h0_r_99, h1_r_99⟩ := h_r_99
        refine y_if (fun c246 => ?_) (fun c246 => ?_)
        · skip
          have c246' := c246
          rw [← Int32.toInt_inj] at c246'
          refine y_some ?_
          try dsimp only
          refine ⟨?_, ?_, ?_⟩ <;> (first | with_reducible assumption | omega | ((with_reducible refine y_Vl ?_ ?_) <;> omega))
        · skip
          have c246' := c246
          rw [← Int32.toInt_inj] at c246'
          have e247 : (1 : Int32).toInt = 1 := rfl
          refine y_bi (y_X9_push (by omega) (by omega) (by omega) (by first | with_reducible assumption | omega | ((with_reducible refine y_Vl ?_ ?_) <;> omega)) (by first | with_reducible assumption | omega | ((with_reducible refine y_Vl ?_ ?_) <;> omega))) (fun r_101 h_r_101 => ?_)
          obtain ⟨h0_r_101, h1_r_101, h2_r_101⟩ := h_r_101
          refine y_if (fun c248 => ?_) (fun c248 => ?_)
          · skip
            have c248' := c248
            rw [← Int32.toInt_inj] at c248'
            refine y_some ?_
            try dsimp only
            refine ⟨?_, ?_, ?_⟩ <;> (first | with_reducible assumption | omega | ((with_reducible refine y_Vl ?_ ?_) <;> omega))
          · skip
            have c248' := c248
            rw [← Int32.toInt_inj] at c248'
            refine y_some ?_
            try dsimp only
            refine ⟨?_, ?_, ?_⟩ <;> (first | with_reducible assumption | omega | ((with_reducible refine y_Vl ?_ ?_) <;> omega))
    · skip
      have c241' := c241
      rw [← Int32.toInt_inj] at c241'
      refine y_if (fun c249 => ?_) (fun c249 => ?_)
      · skip
        have e250 : (150 : Int32).toInt = 150 := rfl
        have c249' := c249
        rw [Int32.lt_iff_toInt_lt] at c249'
        have e251 : (4 : Int32).toInt = 4 := rfl
        refine y_bi (y_X9_pop (by omega) (by omega)) (fun r_85 h_r_85 => ?_)
        obtain ⟨h0_r_85, h1_r_85⟩ := h_r_85
        refine y_if (fun c252 => ?_) (fun c252 => ?_)
        · skip
          have e253 : (0 : Int32).toInt = 0 := rfl
          have c252' := c252
          rw [← Int32.toInt_inj] at c252'
          refine y_some ?_
          try dsimp only
          refine ⟨?_, ?_, ?_⟩ <;> (first | with_reducible assumption | omega | ((with_reducible refine y_Vl ?_ ?_) <;> omega))
        · skip
          have e254 : (0 : Int32).toInt = 0 := rfl
          have c252' := c252
          rw [← Int32.toInt_inj] at c252'
          refine y_bi (y_X9_pop (by omega) (by omega)) (fun r_87 h_r_87 => ?_)
          obtain ⟨h0_r_87, h1_r_87⟩ := h_r_87
          refine y_if (fun c255 => ?_) (fun c255 => ?_)
          · skip
            have c255' := c255
            rw [← Int32.toInt_inj] at c255'
            refine y_some ?_
            try dsimp only
            refine ⟨?_, ?_, ?_⟩ <;> (first | with_reducible assumption | omega | ((with_reducible refine y_Vl ?_ ?_) <;> omega))
          · skip
            have c255' := c255
            rw [← Int32.toInt_inj] at c255'
            have e256 : (1 : Int32).toInt = 1 := rfl
            refine y_bi (y_X9_push (by omega) (by omega) (by omega) (by first | with_reducible assumption | omega | ((with_reducible refine y_Vl ?_ ?_) <;> omega)) (by first | with_reducible assumption | omega | ((with_reducible refine y_Vl ?_ ?_) <;> omega))) (fun r_89 h_r_89 => ?_)
            obtain ⟨h0_r_89, h1_r_89, h2_r_89⟩ := h_r_89
            refine y_if (fun c257 => ?_) (fun c257 => ?_)
            · skip
              have c257' := c257
              rw [← Int32.toInt_inj] at c257'
              refine y_some ?_
              try dsimp only
              refine ⟨?_, ?_, ?_⟩ <;> (first | with_reducible assumption | omega | ((with_reducible refine y_Vl ?_ ?_) <;> omega))
            · skip
              have c257' := c257
              rw [← Int32.toInt_inj] at c257'
              refine y_some ?_
              try dsimp only
              refine ⟨?_, ?_, ?_⟩ <;> (first | with_reducible assumption | omega | ((with_reducible refine y_Vl ?_ ?_) <;> omega))
      · skip
        have e258 : (150 : Int32).toInt = 150 := rfl
        have c249' := c249
        rw [Int32.lt_iff_toInt_lt] at c249'
        have e259 : (2 : Int32).toInt = 2 := rfl
        refine y_bi (y_X9_pop (by omega) (by omega)) (fun r_91 h_r_91 => ?_)
        obtain ⟨h0_r_91, h1_r_91⟩ := h_r_91
        refine y_if (fun c260 => ?_) (fun c260 => ?_)
        · skip
          have e261 : (0 : Int32).toInt = 0 := rfl
          have c260' := c260
          rw [← Int32.toInt_inj] at c260'
          refine y_some ?_
          try dsimp only
          refine ⟨?_, ?_, ?_⟩ <;> (first | with_reducible assumption | omega | ((with_reducible refine y_Vl ?_ ?_) <;> omega))
        · skip
          have e262 : (0 : Int32).toInt = 0 := rfl
          have c260' := c260
          rw [← Int32.toInt_inj] at c260'
          refine y_bi (y_X9_pop (by omega) (by omega)) (fun r_93 h_r_93 => ?_)
          obtain ⟨h0_r_93, h1_r_93⟩ := h_r_93
          refine y_if (fun c263 => ?_) (fun c263 => ?_)
          · skip
            have c263' := c263
            rw [← Int32.toInt_inj] at c263'
            refine y_some ?_
            try dsimp only
            refine ⟨?_, ?_, ?_⟩ <;> (first | with_reducible assumption | omega | ((with_reducible refine y_Vl ?_ ?_) <;> omega))
          · skip
            have c263' := c263
            rw [← Int32.toInt_inj] at c263'
            have e264 : (1 : Int32).toInt = 1 := rfl
            refine y_bi (y_X9_push (by omega) (by omega) (by omega) (by first | with_reducible assumption | omega | ((with_reducible refine y_Vl ?_ ?_) <;> omega)) (by first | with_reducible assumption | omega | ((with_reducible refine y_Vl ?_ ?_) <;> omega))) (fun r_95 h_r_95 => ?_)
            obtain ⟨h0_r_95, h1_r_95, h2_r_95⟩ := h_r_95
            refine y_if (fun c265 => ?_) (fun c265 => ?_)
            · skip
              have c265' := c265
              rw [← Int32.toInt_inj] at c265'
              refine y_some ?_
              try dsimp only
              refine ⟨?_, ?_, ?_⟩ <;> (first | with_reducible assumption | omega | ((with_reducible refine y_Vl ?_ ?_) <;> omega))
            · skip
              have c265' := c265
              rw [← Int32.toInt_inj] at c265'
              refine y_some ?_
              try dsimp only
              refine ⟨?_, ?_, ?_⟩ <;> (first | with_reducible assumption | omega | ((with_reducible refine y_Vl ?_ ?_) <;> omega))
set_option maxHeartbeats 4000000 in
theorem y_X9_load {v9_17 : Int32} {v9_35 : Int32} {g9_33 : Nat → Int32} {g9_34 : Nat → Int32} {p1 : Int32} {p2 : Int32} (k0 : 0 ≤ v9_35.toInt) (k1 : v9_35.toInt ≤ v9_17.toInt) (k2 : v9_17.toInt ≤ 200) (k3 : y_AV 202 g9_34) (k4 : y_AV 202 g9_33) (k5 : 0 ≤ p1.toInt) (k6 : p1.toInt ≤ 4) (k7 : 0 ≤ p2.toInt) (k8 : p2.toInt < 200) : y_Ok (f_X9_load v9_17 v9_35 g9_33 g9_34 p1 p2) (fun r => (0 ≤ r.2.1.toInt) ∧ (r.2.1.toInt ≤ v9_17.toInt) ∧ (y_AV 202 r.2.2)) := by
  unfold f_X9_load
  refine y_if (fun c1 => ?_) (fun c1 => ?_)
  · skip
    have e2 : (4 : Int32).toInt = 4 := rfl
    have c1' := c1
    rw [← Int32.toInt_inj] at c1'
    refine y_gd (y_gdI (by omega) (by omega)) ?_
    try have e3 := @y_cl p2 (by omega)
    try have e4 := k4.at (Int32.toNatClampNeg p2) (by omega)
    try have e5 := e4.b
    refine y_bi (y_X9_isRef) (fun r_15 h_r_15 => ?_)
    have h0_r_15 : r_15.toInt = 0 ∨ r_15.toInt = 1 := h_r_15
    refine y_if (fun c6 => ?_) (fun c6 => ?_)
    · skip
      have e7 : (0 : Int32).toInt = 0 := rfl
      have c6' := c6
      rw [← Int32.toInt_inj] at c6'
      refine y_some ?_
      try dsimp only
      refine ⟨?_, ?_, ?_⟩ <;> (first | with_reducible assumption | omega | ((with_reducible refine y_Vl ?_ ?_) <;> omega))
    · skip
      have e8 : (0 : Int32).toInt = 0 := rfl
      have c6' := c6
      rw [← Int32.toInt_inj] at c6'
      refine y_gd (y_gdI (by omega) (by omega)) ?_
      refine y_bi (y_X9_push (by omega) (by omega) (by omega) (by first | with_reducible assumption | omega | ((with_reducible refine y_Vl ?_ ?_) <;> omega)) (by first | with_reducible assumption | omega | ((with_reducible refine y_Vl ?_ ?_) <;> omega))) (fun r_18 h_r_18 => ?_)
      obtain ⟨h0_r_18, h1_r_18, h2_r_18⟩ := h_r_18
      refine y_if (fun c9 => ?_) (fun c9 => ?_)
      · skip
        have c9' := c9
        rw [← Int32.toInt_inj] at c9'
        refine y_some ?_
        try dsimp only
        refine ⟨?_, ?_, ?_⟩ <;> (first | with_reducible assumption | omega | ((with_reducible refine y_Vl ?_ ?_) <;> omega))
      · skip
        have c9' := c9
        rw [← Int32.toInt_inj] at c9'
        have e10 : (1 : Int32).toInt = 1 := rfl
        refine y_some ?_
        try dsimp only
        refine ⟨?_, ?_, ?_⟩ <;> (first | with_reducible assumption | omega | ((with_reducible refine y_Vl ?_ ?_) <;> omega))
  · skip
    have e11 : (4 : Int32).toInt = 4 := rfl
    have c1' := c1
    rw [← Int32.toInt_inj] at c1'
    refine y_gd (y_gdI (by omega) (by omega)) ?_
    refine y_gd (y_gdI (by omega) (by omega)) ?_
    refine y_if (fun c12 => ?_) (fun c12 => ?_)
    · skip
      try have e13 := @y_cl p2 (by omega)
      try have e14 := k4.at (Int32.toNatClampNeg p2) (by omega)
      try have e15 := e14.b
      try have e16 := @y_cl p1 (by omega)
      try have e17 := y_st0 (Int32.toNatClampNeg p1)
      have c12' := c12
      rw [← Int32.toInt_inj] at c12'
      refine y_bi (y_X9_places) (fun r_6 h_r_6 => ?_)
      obtain ⟨h0_r_6, h1_r_6⟩ := h_r_6
      refine y_if (fun c18 => ?_) (fun c18 => ?_)
      · skip
        have e19 : (1 : Int32).toInt = 1 := rfl
        have c18' := c18
        rw [← Int32.toInt_inj] at c18'
        refine y_bi (y_X9_push (by omega) (by omega) (by omega) (by first | with_reducible assumption | omega | ((with_reducible refine y_Vl ?_ ?_) <;> omega)) (by first | with_reducible assumption | omega | ((with_reducible refine y_Vl ?_ ?_) <;> omega))) (fun r_8 h_r_8 => ?_)
        obtain ⟨h0_r_8, h1_r_8, h2_r_8⟩ := h_r_8
        refine y_if (fun c20 => ?_) (fun c20 => ?_)
        · skip
          have e21 : (0 : Int32).toInt = 0 := rfl
          have c20' := c20
          rw [← Int32.toInt_inj] at c20'
          refine y_some ?_
          try dsimp only
          refine ⟨?_, ?_, ?_⟩ <;> (first | with_reducible assumption | omega | ((with_reducible refine y_Vl ?_ ?_) <;> omega))
        · skip
          have e22 : (0 : Int32).toInt = 0 := rfl
          have c20' := c20
          rw [← Int32.toInt_inj] at c20'
          refine y_some ?_
          try dsimp only
          refine ⟨?_, ?_, ?_⟩ <;> (first | with_reducible assumption | omega | ((with_reducible refine y_Vl ?_ ?_) <;> omega))
      · skip
        have e23 : (1 : Int32).toInt = 1 := rfl
        have c18' := c18
        rw [← Int32.toInt_inj] at c18'
        try have e24 := @y_addL p2 (1 : Int32) (1) rfl (by omega) (by omega)
        refine y_gd (y_gdI (by omega) (by omega)) ?_
        refine y_if (fun c25 => ?_) (fun c25 => ?_)
        · skip
          try have e26 := @y_cl (p2 + (1 : Int32)) (by omega)
          try have e27 := k4.at (Int32.toNatClampNeg (p2 + (1 : Int32))) (by omega)
          try have e28 := e27.b
          have e29 : (7 : Int32).toInt = 7 := rfl
          have c25' := c25
          rw [← Int32.toInt_inj] at c25'
          refine y_bi (y_X9_push (by omega) (by omega) (by omega) (by first | with_reducible assumption | omega | ((with_reducible refine y_Vl ?_ ?_) <;> omega)) (by first | with_reducible assumption | omega | ((with_reducible refine y_Vl ?_ ?_) <;> omega))) (fun r_12 h_r_12 => ?_)
          obtain ⟨h0_r_12, h1_r_12, h2_r_12⟩ := h_r_12
          refine y_if (fun c30 => ?_) (fun c30 => ?_)
          · skip
            have e31 : (0 : Int32).toInt = 0 := rfl
            have c30' := c30
            rw [← Int32.toInt_inj] at c30'
            refine y_some ?_
            try dsimp only
            refine ⟨?_, ?_, ?_⟩ <;> (first | with_reducible assumption | omega | ((with_reducible refine y_Vl ?_ ?_) <;> omega))
          · skip
            have e32 : (0 : Int32).toInt = 0 := rfl
            have c30' := c30
            rw [← Int32.toInt_inj] at c30'
            refine y_some ?_
            try dsimp only
            refine ⟨?_, ?_, ?_⟩ <;> (first | with_reducible assumption | omega | ((with_reducible refine y_Vl ?_ ?_) <;> omega))
        · skip
          try have e33 := @y_cl (p2 + (1 : Int32)) (by omega)
          try have e34 := k4.at (Int32.toNatClampNeg (p2 + (1 : Int32))) (by omega)
          try have e35 := e34.b
          have e36 : (7 : Int32).toInt = 7 := rfl
          have c25' := c25
          rw [← Int32.toInt_inj] at c25'
          have e37 : (0 : Int32).toInt = 0 := rfl
          refine y_some ?_
          try dsimp only
          refine ⟨?_, ?_, ?_⟩ <;> (first | with_reducible assumption | omega | ((with_reducible refine y_Vl ?_ ?_) <;> omega))
    · skip
      try have e38 := @y_cl p2 (by omega)
      try have e39 := k4.at (Int32.toNatClampNeg p2) (by omega)
      try have e40 := e39.b
      try have e41 := @y_cl p1 (by omega)
      try have e42 := y_st0 (Int32.toNatClampNeg p1)
      have c12' := c12
      rw [← Int32.toInt_inj] at c12'
      have e43 : (0 : Int32).toInt = 0 := rfl
      refine y_some ?_
      try dsimp only
      refine ⟨?_, ?_, ?_⟩ <;> (first | with_reducible assumption | omega | ((with_reducible refine y_Vl ?_ ?_) <;> omega))
set_option maxHeartbeats 4000000 in
theorem y_X9_store {v9_35 : Int32} {g9_33 : Nat → Int32} {g9_34 : Nat → Int32} {p1 : Int32} {p2 : Int32} (k0 : 0 ≤ v9_35.toInt) (k1 : v9_35.toInt ≤ 200) (k2 : y_AV 202 g9_34) (k3 : y_AV 202 g9_33) (k4 : 0 ≤ p1.toInt) (k5 : p1.toInt ≤ 4) (k6 : 0 ≤ p2.toInt) (k7 : p2.toInt < 200) : y_Ok (f_X9_store v9_35 g9_33 g9_34 p1 p2) (fun r => (0 ≤ r.2.1.toInt) ∧ (r.2.1.toInt ≤ v9_35.toInt) ∧ (y_AV 202 r.2.2)) := by
  unfold f_X9_store
  refine y_if (fun c1 => ?_) (fun c1 => ?_)
  · skip
    have e2 : (4 : Int32).toInt = 4 := rfl
    have c1' := c1
    rw [← Int32.toInt_inj] at c1'
    refine y_if (fun c3 => ?_) (fun c3 => ?_)
    · skip
      have e4 : (0 : Int32).toInt = 0 := rfl
      have c3' := c3
      rw [← Int32.toInt_inj] at c3'
      refine y_some ?_
      try dsimp only
      refine ⟨?_, ?_, ?_⟩ <;> (first | with_reducible assumption | omega | ((with_reducible refine y_Vl ?_ ?_) <;> omega))
    · skip
      have e5 : (0 : Int32).toInt = 0 := rfl
      have c3' := c3
      rw [← Int32.toInt_inj] at c3'
      try have e6 := @y_subL v9_35 (1 : Int32) (1) rfl (by omega) (by omega)
      refine y_gd (y_gdI (by omega) (by omega)) ?_
      try have e7 := @y_cl (v9_35 - (1 : Int32)) (by omega)
      try have e8 := k2.at (Int32.toNatClampNeg (v9_35 - (1 : Int32))) (by omega)
      try have e9 := e8.b
      refine y_bi (y_X9_isRef) (fun r_11 h_r_11 => ?_)
      have h0_r_11 : r_11.toInt = 0 ∨ r_11.toInt = 1 := h_r_11
      refine y_if (fun c10 => ?_) (fun c10 => ?_)
      · skip
        have c10' := c10
        rw [← Int32.toInt_inj] at c10'
        refine y_gd (y_gdI (by omega) (by omega)) ?_
        refine y_if (fun c11 => ?_) (fun c11 => ?_)
        · skip
          have e12 := y_and4 (g9_34 (Int32.toNatClampNeg (v9_35 - (1 : Int32))))
          have e13 : (10 : Int32).toInt = 10 := rfl
          have c11' := c11
          rw [← Int32.toInt_inj] at c11'
          refine y_gd (y_gdI (by omega) (by omega)) ?_
          refine y_bi (y_X9_set (by first | with_reducible assumption | omega | ((with_reducible refine y_Vl ?_ ?_) <;> omega)) (by omega) (by omega) (by first | with_reducible assumption | omega | ((with_reducible refine y_Vl ?_ ?_) <;> omega))) (fun r_18 h_r_18 => ?_)
          have h0_r_18 : y_AV 202 r_18 := h_r_18
          have e14 : (1 : Int32).toInt = 1 := rfl
          refine y_some ?_
          try dsimp only
          refine ⟨?_, ?_, ?_⟩ <;> (first | with_reducible assumption | omega | ((with_reducible refine y_Vl ?_ ?_) <;> omega))
        · skip
          have e15 := y_and4 (g9_34 (Int32.toNatClampNeg (v9_35 - (1 : Int32))))
          have e16 : (10 : Int32).toInt = 10 := rfl
          have c11' := c11
          rw [← Int32.toInt_inj] at c11'
          refine y_some ?_
          try dsimp only
          refine ⟨?_, ?_, ?_⟩ <;> (first | with_reducible assumption | omega | ((with_reducible refine y_Vl ?_ ?_) <;> omega))
      · skip
        have c10' := c10
        rw [← Int32.toInt_inj] at c10'
        refine y_gd (y_gdI (by omega) (by omega)) ?_
        refine y_bi (y_X9_set (by first | with_reducible assumption | omega | ((with_reducible refine y_Vl ?_ ?_) <;> omega)) (by omega) (by omega) (by first | with_reducible assumption | omega | ((with_reducible refine y_Vl ?_ ?_) <;> omega))) (fun r_14 h_r_14 => ?_)
        have h0_r_14 : y_AV 202 r_14 := h_r_14
        have e17 : (1 : Int32).toInt = 1 := rfl
        refine y_some ?_
        try dsimp only
        refine ⟨?_, ?_, ?_⟩ <;> (first | with_reducible assumption | omega | ((with_reducible refine y_Vl ?_ ?_) <;> omega))
  · skip
    have e18 : (4 : Int32).toInt = 4 := rfl
    have c1' := c1
    rw [← Int32.toInt_inj] at c1'
    refine y_gd (y_gdI (by omega) (by omega)) ?_
    try have e19 := @y_cl p1 (by omega)
    try have e20 := y_st0 (Int32.toNatClampNeg p1)
    refine y_bi (y_X9_pop (by omega) (by omega)) (fun r_4 h_r_4 => ?_)
    obtain ⟨h0_r_4, h1_r_4⟩ := h_r_4
    refine y_if (fun c21 => ?_) (fun c21 => ?_)
    · skip
      have e22 : (0 : Int32).toInt = 0 := rfl
      have c21' := c21
      rw [← Int32.toInt_inj] at c21'
      refine y_some ?_
      try dsimp only
      refine ⟨?_, ?_, ?_⟩ <;> (first | with_reducible assumption | omega | ((with_reducible refine y_Vl ?_ ?_) <;> omega))
    · skip
      have e23 : (0 : Int32).toInt = 0 := rfl
      have c21' := c21
      rw [← Int32.toInt_inj] at c21'
      refine y_gd (y_gdI (by omega) (by omega)) ?_
      refine y_bi (y_X9_set (by first | with_reducible assumption | omega | ((with_reducible refine y_Vl ?_ ?_) <;> omega)) (by omega) (by omega) (by first | with_reducible assumption | omega | ((with_reducible refine y_Vl ?_ ?_) <;> omega))) (fun r_8 h_r_8 => ?_)
      have h0_r_8 : y_AV 202 r_8 := h_r_8
      have e24 : (1 : Int32).toInt = 1 := rfl
      refine y_some ?_
      try dsimp only
      refine ⟨?_, ?_, ?_⟩ <;> (first | with_reducible assumption | omega | ((with_reducible refine y_Vl ?_ ?_) <;> omega))
set_option maxHeartbeats 4000000 in
theorem y_X9_returns {v9_14 : Int32} {v9_15 : Int32} {v9_35 : Int32} {v9_36 : Int32} {g9_4 : Nat → Int32} {g9_5 : Nat → Int32} {g9_34 : Nat → Int32} {p1 : Int32} (k0 : 0 ≤ v9_35.toInt) (k1 : v9_35.toInt ≤ 200) (k2 : y_Up g9_4) (k3 : y_AV 202 g9_34) (k4 : y_Rs v9_15) (k5 : 172 ≤ p1.toInt) (k6 : p1.toInt ≤ 177) : y_Ok (f_X9_returns v9_14 v9_15 v9_35 v9_36 g9_4 g9_5 g9_34 p1) (fun r => (0 ≤ r.2.toInt) ∧ (r.2.toInt ≤ v9_35.toInt)) := by
  unfold f_X9_returns
  refine y_if (fun c1 => ?_) (fun c1 => ?_)
  · skip
    have e2 : (177 : Int32).toInt = 177 := rfl
    have c1' := c1
    rw [← Int32.toInt_inj] at c1'
    refine y_if (fun c3 => ?_) (fun c3 => ?_)
    · skip
      have e4 : (-1 : Int32).toInt = -1 := rfl
      have c3' := c3
      rw [← Int32.toInt_inj] at c3'
      refine y_if (fun c5 => ?_) (fun c5 => ?_)
      · skip
        have e6 : (2 : Int32).toInt = 2 := rfl
        have c5' := c5
        rw [← Int32.toInt_inj] at c5'
        refine y_if (fun c7 => ?_) (fun c7 => ?_)
        · skip
          have e8 : (0 : Int32).toInt = 0 := rfl
          have c7' := c7
          rw [← Int32.toInt_inj] at c7'
          refine y_some ?_
          try dsimp only
          refine ⟨?_, ?_⟩ <;> (first | with_reducible assumption | omega | ((with_reducible refine y_Vl ?_ ?_) <;> omega) | ((with_reducible refine y_V8 ?_) <;> (first | with_reducible assumption | (unfold y_Tr; omega))) | ((with_reducible refine y_Tr4 ?_ ?_) <;> (first | with_reducible assumption | omega)) | ((with_reducible refine (y_Tr4 ?_ ?_).ty) <;> (first | with_reducible assumption | omega)) | (unfold y_Ty; omega) | (unfold y_Tr; omega) | ((with_reducible refine y_Rs.ty ?_ ?_) <;> (first | with_reducible assumption | omega)))
        · skip
          have e9 : (0 : Int32).toInt = 0 := rfl
          have c7' := c7
          rw [← Int32.toInt_inj] at c7'
          have e10 : (1 : Int32).toInt = 1 := rfl
          refine y_some ?_
          try dsimp only
          refine ⟨?_, ?_⟩ <;> (first | with_reducible assumption | omega | ((with_reducible refine y_Vl ?_ ?_) <;> omega) | ((with_reducible refine y_V8 ?_) <;> (first | with_reducible assumption | (unfold y_Tr; omega))) | ((with_reducible refine y_Tr4 ?_ ?_) <;> (first | with_reducible assumption | omega)) | ((with_reducible refine (y_Tr4 ?_ ?_).ty) <;> (first | with_reducible assumption | omega)) | (unfold y_Ty; omega) | (unfold y_Tr; omega) | ((with_reducible refine y_Rs.ty ?_ ?_) <;> (first | with_reducible assumption | omega)))
      · skip
        have e11 : (2 : Int32).toInt = 2 := rfl
        have c5' := c5
        rw [← Int32.toInt_inj] at c5'
        have e12 : (1 : Int32).toInt = 1 := rfl
        refine y_some ?_
        try dsimp only
        refine ⟨?_, ?_⟩ <;> (first | with_reducible assumption | omega | ((with_reducible refine y_Vl ?_ ?_) <;> omega) | ((with_reducible refine y_V8 ?_) <;> (first | with_reducible assumption | (unfold y_Tr; omega))) | ((with_reducible refine y_Tr4 ?_ ?_) <;> (first | with_reducible assumption | omega)) | ((with_reducible refine (y_Tr4 ?_ ?_).ty) <;> (first | with_reducible assumption | omega)) | (unfold y_Ty; omega) | (unfold y_Tr; omega) | ((with_reducible refine y_Rs.ty ?_ ?_) <;> (first | with_reducible assumption | omega)))
    · skip
      have e13 : (-1 : Int32).toInt = -1 := rfl
      have c3' := c3
      rw [← Int32.toInt_inj] at c3'
      have e14 : (0 : Int32).toInt = 0 := rfl
      refine y_some ?_
      try dsimp only
      refine ⟨?_, ?_⟩ <;> (first | with_reducible assumption | omega | ((with_reducible refine y_Vl ?_ ?_) <;> omega) | ((with_reducible refine y_V8 ?_) <;> (first | with_reducible assumption | (unfold y_Tr; omega))) | ((with_reducible refine y_Tr4 ?_ ?_) <;> (first | with_reducible assumption | omega)) | ((with_reducible refine (y_Tr4 ?_ ?_).ty) <;> (first | with_reducible assumption | omega)) | (unfold y_Ty; omega) | (unfold y_Tr; omega) | ((with_reducible refine y_Rs.ty ?_ ?_) <;> (first | with_reducible assumption | omega)))
  · skip
    have e15 : (177 : Int32).toInt = 177 := rfl
    have c1' := c1
    rw [← Int32.toInt_inj] at c1'
    refine y_if (fun c16 => ?_) (fun c16 => ?_)
    · skip
      have e17 : (-1 : Int32).toInt = -1 := rfl
      have c16' := c16
      rw [← Int32.toInt_inj] at c16'
      have e18 : (0 : Int32).toInt = 0 := rfl
      refine y_some ?_
      try dsimp only
      refine ⟨?_, ?_⟩ <;> (first | with_reducible assumption | omega | ((with_reducible refine y_Vl ?_ ?_) <;> omega) | ((with_reducible refine y_V8 ?_) <;> (first | with_reducible assumption | (unfold y_Tr; omega))) | ((with_reducible refine y_Tr4 ?_ ?_) <;> (first | with_reducible assumption | omega)) | ((with_reducible refine (y_Tr4 ?_ ?_).ty) <;> (first | with_reducible assumption | omega)) | (unfold y_Ty; omega) | (unfold y_Tr; omega) | ((with_reducible refine y_Rs.ty ?_ ?_) <;> (first | with_reducible assumption | omega)))
    · skip
      have e19 : (-1 : Int32).toInt = -1 := rfl
      have c16' := c16
      rw [← Int32.toInt_inj] at c16'
      refine y_bi (y_X9_kindOf (by first | with_reducible assumption | omega | ((with_reducible refine y_Vl ?_ ?_) <;> omega) | ((with_reducible refine y_V8 ?_) <;> (first | with_reducible assumption | (unfold y_Tr; omega))) | ((with_reducible refine y_Tr4 ?_ ?_) <;> (first | with_reducible assumption | omega)) | ((with_reducible refine (y_Tr4 ?_ ?_).ty) <;> (first | with_reducible assumption | omega)) | (unfold y_Ty; omega) | (unfold y_Tr; omega) | ((with_reducible refine y_Rs.ty ?_ ?_) <;> (first | with_reducible assumption | omega)))) (fun r_3 h_r_3 => ?_)
      have h0_r_3 : y_V r_3 := h_r_3
      refine y_if (fun c20 => ?_) (fun c20 => ?_)
      · skip
        have e21 : (176 : Int32).toInt = 176 := rfl
        have c20' := c20
        rw [← Int32.toInt_inj] at c20'
        refine y_if (fun c22 => ?_) (fun c22 => ?_)
        · skip
          have e23 := y_and4 r_3
          have e24 : (8 : Int32).toInt = 8 := rfl
          have c22' := c22
          rw [← Int32.toInt_inj] at c22'
          refine y_bi (y_X9_popType (by omega) (by omega) (by first | with_reducible assumption | omega | ((with_reducible refine y_Vl ?_ ?_) <;> omega) | ((with_reducible refine y_V8 ?_) <;> (first | with_reducible assumption | (unfold y_Tr; omega))) | ((with_reducible refine y_Tr4 ?_ ?_) <;> (first | with_reducible assumption | omega)) | ((with_reducible refine (y_Tr4 ?_ ?_).ty) <;> (first | with_reducible assumption | omega)) | (unfold y_Ty; omega) | (unfold y_Tr; omega) | ((with_reducible refine y_Rs.ty ?_ ?_) <;> (first | with_reducible assumption | omega))) (by first | with_reducible assumption | omega | ((with_reducible refine y_Vl ?_ ?_) <;> omega) | ((with_reducible refine y_V8 ?_) <;> (first | with_reducible assumption | (unfold y_Tr; omega))) | ((with_reducible refine y_Tr4 ?_ ?_) <;> (first | with_reducible assumption | omega)) | ((with_reducible refine (y_Tr4 ?_ ?_).ty) <;> (first | with_reducible assumption | omega)) | (unfold y_Ty; omega) | (unfold y_Tr; omega) | ((with_reducible refine y_Rs.ty ?_ ?_) <;> (first | with_reducible assumption | omega))) (by first | with_reducible assumption | omega | ((with_reducible refine y_Vl ?_ ?_) <;> omega) | ((with_reducible refine y_V8 ?_) <;> (first | with_reducible assumption | (unfold y_Tr; omega))) | ((with_reducible refine y_Tr4 ?_ ?_) <;> (first | with_reducible assumption | omega)) | ((with_reducible refine (y_Tr4 ?_ ?_).ty) <;> (first | with_reducible assumption | omega)) | (unfold y_Ty; omega) | (unfold y_Tr; omega) | ((with_reducible refine y_Rs.ty ?_ ?_) <;> (first | with_reducible assumption | omega)))) (fun r_11 h_r_11 => ?_)
          obtain ⟨h0_r_11, h1_r_11⟩ := h_r_11
          refine y_if (fun c25 => ?_) (fun c25 => ?_)
          · skip
            have e26 : (0 : Int32).toInt = 0 := rfl
            have c25' := c25
            rw [← Int32.toInt_inj] at c25'
            refine y_some ?_
            try dsimp only
            refine ⟨?_, ?_⟩ <;> (first | with_reducible assumption | omega | ((with_reducible refine y_Vl ?_ ?_) <;> omega) | ((with_reducible refine y_V8 ?_) <;> (first | with_reducible assumption | (unfold y_Tr; omega))) | ((with_reducible refine y_Tr4 ?_ ?_) <;> (first | with_reducible assumption | omega)) | ((with_reducible refine (y_Tr4 ?_ ?_).ty) <;> (first | with_reducible assumption | omega)) | (unfold y_Ty; omega) | (unfold y_Tr; omega) | ((with_reducible refine y_Rs.ty ?_ ?_) <;> (first | with_reducible assumption | omega)))
          · skip
            have e27 : (0 : Int32).toInt = 0 := rfl
            have c25' := c25
            rw [← Int32.toInt_inj] at c25'
            have e28 : (1 : Int32).toInt = 1 := rfl
            refine y_some ?_
            try dsimp only
            refine ⟨?_, ?_⟩ <;> (first | with_reducible assumption | omega | ((with_reducible refine y_Vl ?_ ?_) <;> omega) | ((with_reducible refine y_V8 ?_) <;> (first | with_reducible assumption | (unfold y_Tr; omega))) | ((with_reducible refine y_Tr4 ?_ ?_) <;> (first | with_reducible assumption | omega)) | ((with_reducible refine (y_Tr4 ?_ ?_).ty) <;> (first | with_reducible assumption | omega)) | (unfold y_Ty; omega) | (unfold y_Tr; omega) | ((with_reducible refine y_Rs.ty ?_ ?_) <;> (first | with_reducible assumption | omega)))
        · skip
          have e29 := y_and4 r_3
          have e30 : (8 : Int32).toInt = 8 := rfl
          have c22' := c22
          rw [← Int32.toInt_inj] at c22'
          have e31 : (0 : Int32).toInt = 0 := rfl
          refine y_some ?_
          try dsimp only
          refine ⟨?_, ?_⟩ <;> (first | with_reducible assumption | omega | ((with_reducible refine y_Vl ?_ ?_) <;> omega) | ((with_reducible refine y_V8 ?_) <;> (first | with_reducible assumption | (unfold y_Tr; omega))) | ((with_reducible refine y_Tr4 ?_ ?_) <;> (first | with_reducible assumption | omega)) | ((with_reducible refine (y_Tr4 ?_ ?_).ty) <;> (first | with_reducible assumption | omega)) | (unfold y_Ty; omega) | (unfold y_Tr; omega) | ((with_reducible refine y_Rs.ty ?_ ?_) <;> (first | with_reducible assumption | omega)))
      · skip
        have e32 : (176 : Int32).toInt = 176 := rfl
        have c20' := c20
        rw [← Int32.toInt_inj] at c20'
        try have e33 := @y_subL p1 (172 : Int32) (172) rfl (by omega) (by omega)
        refine y_gd (y_gdI (by omega) (by omega)) ?_
        refine y_if (fun c34 => ?_) (fun c34 => ?_)
        · skip
          try have e35 := @y_cl (p1 - (172 : Int32)) (by omega)
          try have e36 := y_st0 (Int32.toNatClampNeg (p1 - (172 : Int32)))
          have c34' := c34
          rw [← Int32.toInt_inj] at c34'
          refine y_bi (y_X9_pop (by omega) (by omega)) (fun r_8 h_r_8 => ?_)
          obtain ⟨h0_r_8, h1_r_8⟩ := h_r_8
          refine y_if (fun c37 => ?_) (fun c37 => ?_)
          · skip
            have e38 : (0 : Int32).toInt = 0 := rfl
            have c37' := c37
            rw [← Int32.toInt_inj] at c37'
            refine y_some ?_
            try dsimp only
            refine ⟨?_, ?_⟩ <;> (first | with_reducible assumption | omega | ((with_reducible refine y_Vl ?_ ?_) <;> omega) | ((with_reducible refine y_V8 ?_) <;> (first | with_reducible assumption | (unfold y_Tr; omega))) | ((with_reducible refine y_Tr4 ?_ ?_) <;> (first | with_reducible assumption | omega)) | ((with_reducible refine (y_Tr4 ?_ ?_).ty) <;> (first | with_reducible assumption | omega)) | (unfold y_Ty; omega) | (unfold y_Tr; omega) | ((with_reducible refine y_Rs.ty ?_ ?_) <;> (first | with_reducible assumption | omega)))
          · skip
            have e39 : (0 : Int32).toInt = 0 := rfl
            have c37' := c37
            rw [← Int32.toInt_inj] at c37'
            have e40 : (1 : Int32).toInt = 1 := rfl
            refine y_some ?_
            try dsimp only
            refine ⟨?_, ?_⟩ <;> (first | with_reducible assumption | omega | ((with_reducible refine y_Vl ?_ ?_) <;> omega) | ((with_reducible refine y_V8 ?_) <;> (first | with_reducible assumption | (unfold y_Tr; omega))) | ((with_reducible refine y_Tr4 ?_ ?_) <;> (first | with_reducible assumption | omega)) | ((with_reducible refine (y_Tr4 ?_ ?_).ty) <;> (first | with_reducible assumption | omega)) | (unfold y_Ty; omega) | (unfold y_Tr; omega) | ((with_reducible refine y_Rs.ty ?_ ?_) <;> (first | with_reducible assumption | omega)))
        · skip
          try have e41 := @y_cl (p1 - (172 : Int32)) (by omega)
          try have e42 := y_st0 (Int32.toNatClampNeg (p1 - (172 : Int32)))
          have c34' := c34
          rw [← Int32.toInt_inj] at c34'
          have e43 : (0 : Int32).toInt = 0 := rfl
          refine y_some ?_
          try dsimp only
          refine ⟨?_, ?_⟩ <;> (first | with_reducible assumption | omega | ((with_reducible refine y_Vl ?_ ?_) <;> omega) | ((with_reducible refine y_V8 ?_) <;> (first | with_reducible assumption | (unfold y_Tr; omega))) | ((with_reducible refine y_Tr4 ?_ ?_) <;> (first | with_reducible assumption | omega)) | ((with_reducible refine (y_Tr4 ?_ ?_).ty) <;> (first | with_reducible assumption | omega)) | (unfold y_Ty; omega) | (unfold y_Tr; omega) | ((with_reducible refine y_Rs.ty ?_ ?_) <;> (first | with_reducible assumption | omega)))
set_option maxHeartbeats 4000000 in
theorem y_X9_fieldStep {v9_13 : Int32} {v9_17 : Int32} {v9_35 : Int32} {g9_4 : Nat → Int32} {g9_5 : Nat → Int32} {g9_6 : Nat → Int32} {g9_7 : Nat → Int32} {g9_34 : Nat → Int32} {p1 : Int32} {p2 : Int32} (k0 : 0 ≤ v9_35.toInt) (k1 : v9_35.toInt ≤ v9_17.toInt) (k2 : v9_17.toInt ≤ 200) (k3 : y_Up g9_4) (k4 : y_AV 202 g9_34) (k5 : y_Rg 100 0 199 g9_6) (k6 : y_ATy 100 g9_7) (k7 : 0 ≤ v9_13.toInt) (k8 : v9_13.toInt ≤ 199) (k9 : 0 ≤ p2.toInt) (k10 : p2.toInt < 100) : y_Ok (f_X9_fieldStep v9_13 v9_17 v9_35 g9_4 g9_5 g9_6 g9_7 g9_34 p1 p2) (fun r => (0 ≤ r.2.1.toInt) ∧ (r.2.1.toInt ≤ v9_17.toInt) ∧ (y_AV 202 r.2.2)) := by
  unfold f_X9_fieldStep
  refine y_gd (y_gdI (by omega) (by omega)) ?_
  refine y_if (fun c1 => ?_) (fun c1 => ?_)
  · skip
    have e2 : (178 : Int32).toInt = 178 := rfl
    have c1' := c1
    rw [← Int32.toInt_inj] at c1'
    try have e3 := @y_cl p2 (by omega)
    try have e4 := k6.at (Int32.toNatClampNeg p2) (by omega)
    try have e5 := e4.b
    refine y_bi (y_X9_kindOf (by first | with_reducible assumption | omega | ((with_reducible refine y_Vl ?_ ?_) <;> omega) | ((with_reducible refine y_V8 ?_) <;> (first | with_reducible assumption | (unfold y_Tr; omega))) | ((with_reducible refine y_Tr4 ?_ ?_) <;> (first | with_reducible assumption | omega)) | ((with_reducible refine (y_Tr4 ?_ ?_).ty) <;> (first | with_reducible assumption | omega)) | (unfold y_Ty; omega) | (unfold y_Tr; omega) | ((with_reducible refine y_Rs.ty ?_ ?_) <;> (first | with_reducible assumption | omega)))) (fun r_23 h_r_23 => ?_)
    have h0_r_23 : y_V r_23 := h_r_23
    refine y_bi (y_X9_push (by omega) (by omega) (by omega) (by first | with_reducible assumption | omega | ((with_reducible refine y_Vl ?_ ?_) <;> omega) | ((with_reducible refine y_V8 ?_) <;> (first | with_reducible assumption | (unfold y_Tr; omega))) | ((with_reducible refine y_Tr4 ?_ ?_) <;> (first | with_reducible assumption | omega)) | ((with_reducible refine (y_Tr4 ?_ ?_).ty) <;> (first | with_reducible assumption | omega)) | (unfold y_Ty; omega) | (unfold y_Tr; omega) | ((with_reducible refine y_Rs.ty ?_ ?_) <;> (first | with_reducible assumption | omega))) (by first | with_reducible assumption | omega | ((with_reducible refine y_Vl ?_ ?_) <;> omega) | ((with_reducible refine y_V8 ?_) <;> (first | with_reducible assumption | (unfold y_Tr; omega))) | ((with_reducible refine y_Tr4 ?_ ?_) <;> (first | with_reducible assumption | omega)) | ((with_reducible refine (y_Tr4 ?_ ?_).ty) <;> (first | with_reducible assumption | omega)) | (unfold y_Ty; omega) | (unfold y_Tr; omega) | ((with_reducible refine y_Rs.ty ?_ ?_) <;> (first | with_reducible assumption | omega)))) (fun r_24 h_r_24 => ?_)
    obtain ⟨h0_r_24, h1_r_24, h2_r_24⟩ := h_r_24
    refine y_some ?_
    try dsimp only
    refine ⟨?_, ?_, ?_⟩ <;> (first | with_reducible assumption | omega | ((with_reducible refine y_Vl ?_ ?_) <;> omega) | ((with_reducible refine y_V8 ?_) <;> (first | with_reducible assumption | (unfold y_Tr; omega))) | ((with_reducible refine y_Tr4 ?_ ?_) <;> (first | with_reducible assumption | omega)) | ((with_reducible refine (y_Tr4 ?_ ?_).ty) <;> (first | with_reducible assumption | omega)) | (unfold y_Ty; omega) | (unfold y_Tr; omega) | ((with_reducible refine y_Rs.ty ?_ ?_) <;> (first | with_reducible assumption | omega)))
  · skip
    have e6 : (178 : Int32).toInt = 178 := rfl
    have c1' := c1
    rw [← Int32.toInt_inj] at c1'
    refine y_if (fun c7 => ?_) (fun c7 => ?_)
    · skip
      have e8 : (179 : Int32).toInt = 179 := rfl
      have c7' := c7
      rw [← Int32.toInt_inj] at c7'
      try have e9 := @y_cl p2 (by omega)
      try have e10 := k6.at (Int32.toNatClampNeg p2) (by omega)
      try have e11 := e10.b
      refine y_bi (y_X9_popType (by omega) (by omega) (by first | with_reducible assumption | omega | ((with_reducible refine y_Vl ?_ ?_) <;> omega) | ((with_reducible refine y_V8 ?_) <;> (first | with_reducible assumption | (unfold y_Tr; omega))) | ((with_reducible refine y_Tr4 ?_ ?_) <;> (first | with_reducible assumption | omega)) | ((with_reducible refine (y_Tr4 ?_ ?_).ty) <;> (first | with_reducible assumption | omega)) | (unfold y_Ty; omega) | (unfold y_Tr; omega) | ((with_reducible refine y_Rs.ty ?_ ?_) <;> (first | with_reducible assumption | omega))) (by first | with_reducible assumption | omega | ((with_reducible refine y_Vl ?_ ?_) <;> omega) | ((with_reducible refine y_V8 ?_) <;> (first | with_reducible assumption | (unfold y_Tr; omega))) | ((with_reducible refine y_Tr4 ?_ ?_) <;> (first | with_reducible assumption | omega)) | ((with_reducible refine (y_Tr4 ?_ ?_).ty) <;> (first | with_reducible assumption | omega)) | (unfold y_Ty; omega) | (unfold y_Tr; omega) | ((with_reducible refine y_Rs.ty ?_ ?_) <;> (first | with_reducible assumption | omega))) (by first | with_reducible assumption | omega | ((with_reducible refine y_Vl ?_ ?_) <;> omega) | ((with_reducible refine y_V8 ?_) <;> (first | with_reducible assumption | (unfold y_Tr; omega))) | ((with_reducible refine y_Tr4 ?_ ?_) <;> (first | with_reducible assumption | omega)) | ((with_reducible refine (y_Tr4 ?_ ?_).ty) <;> (first | with_reducible assumption | omega)) | (unfold y_Ty; omega) | (unfold y_Tr; omega) | ((with_reducible refine y_Rs.ty ?_ ?_) <;> (first | with_reducible assumption | omega)))) (fun r_22 h_r_22 => ?_)
      obtain ⟨h0_r_22, h1_r_22⟩ := h_r_22
      refine y_some ?_
      try dsimp only
      refine ⟨?_, ?_, ?_⟩ <;> (first | with_reducible assumption | omega | ((with_reducible refine y_Vl ?_ ?_) <;> omega) | ((with_reducible refine y_V8 ?_) <;> (first | with_reducible assumption | (unfold y_Tr; omega))) | ((with_reducible refine y_Tr4 ?_ ?_) <;> (first | with_reducible assumption | omega)) | ((with_reducible refine (y_Tr4 ?_ ?_).ty) <;> (first | with_reducible assumption | omega)) | (unfold y_Ty; omega) | (unfold y_Tr; omega) | ((with_reducible refine y_Rs.ty ?_ ?_) <;> (first | with_reducible assumption | omega)))
    · skip
      have e12 : (179 : Int32).toInt = 179 := rfl
      have c7' := c7
      rw [← Int32.toInt_inj] at c7'
      refine y_if (fun c13 => ?_) (fun c13 => ?_)
      · skip
        have e14 : (180 : Int32).toInt = 180 := rfl
        have c13' := c13
        rw [← Int32.toInt_inj] at c13'
        refine y_gd (y_gdI (by omega) (by omega)) ?_
        try have e15 := @y_cl p2 (by omega)
        try have e16 := k5.at (Int32.toNatClampNeg p2) (by omega)
        refine y_bi (y_X9_popType (by omega) (by omega) (by first | with_reducible assumption | omega | ((with_reducible refine y_Vl ?_ ?_) <;> omega) | ((with_reducible refine y_V8 ?_) <;> (first | with_reducible assumption | (unfold y_Tr; omega))) | ((with_reducible refine y_Tr4 ?_ ?_) <;> (first | with_reducible assumption | omega)) | ((with_reducible refine (y_Tr4 ?_ ?_).ty) <;> (first | with_reducible assumption | omega)) | (unfold y_Ty; omega) | (unfold y_Tr; omega) | ((with_reducible refine y_Rs.ty ?_ ?_) <;> (first | with_reducible assumption | omega))) (by first | with_reducible assumption | omega | ((with_reducible refine y_Vl ?_ ?_) <;> omega) | ((with_reducible refine y_V8 ?_) <;> (first | with_reducible assumption | (unfold y_Tr; omega))) | ((with_reducible refine y_Tr4 ?_ ?_) <;> (first | with_reducible assumption | omega)) | ((with_reducible refine (y_Tr4 ?_ ?_).ty) <;> (first | with_reducible assumption | omega)) | (unfold y_Ty; omega) | (unfold y_Tr; omega) | ((with_reducible refine y_Rs.ty ?_ ?_) <;> (first | with_reducible assumption | omega))) (by first | with_reducible assumption | omega | ((with_reducible refine y_Vl ?_ ?_) <;> omega) | ((with_reducible refine y_V8 ?_) <;> (first | with_reducible assumption | (unfold y_Tr; omega))) | ((with_reducible refine y_Tr4 ?_ ?_) <;> (first | with_reducible assumption | omega)) | ((with_reducible refine (y_Tr4 ?_ ?_).ty) <;> (first | with_reducible assumption | omega)) | (unfold y_Ty; omega) | (unfold y_Tr; omega) | ((with_reducible refine y_Rs.ty ?_ ?_) <;> (first | with_reducible assumption | omega)))) (fun r_17 h_r_17 => ?_)
        obtain ⟨h0_r_17, h1_r_17⟩ := h_r_17
        refine y_if (fun c17 => ?_) (fun c17 => ?_)
        · skip
          have e18 : (0 : Int32).toInt = 0 := rfl
          have c17' := c17
          rw [← Int32.toInt_inj] at c17'
          refine y_some ?_
          try dsimp only
          refine ⟨?_, ?_, ?_⟩ <;> (first | with_reducible assumption | omega | ((with_reducible refine y_Vl ?_ ?_) <;> omega) | ((with_reducible refine y_V8 ?_) <;> (first | with_reducible assumption | (unfold y_Tr; omega))) | ((with_reducible refine y_Tr4 ?_ ?_) <;> (first | with_reducible assumption | omega)) | ((with_reducible refine (y_Tr4 ?_ ?_).ty) <;> (first | with_reducible assumption | omega)) | (unfold y_Ty; omega) | (unfold y_Tr; omega) | ((with_reducible refine y_Rs.ty ?_ ?_) <;> (first | with_reducible assumption | omega)))
        · skip
          have e19 : (0 : Int32).toInt = 0 := rfl
          have c17' := c17
          rw [← Int32.toInt_inj] at c17'
          try have e20 := k6.at (Int32.toNatClampNeg p2) (by omega)
          try have e21 := e20.b
          refine y_bi (y_X9_kindOf (by first | with_reducible assumption | omega | ((with_reducible refine y_Vl ?_ ?_) <;> omega) | ((with_reducible refine y_V8 ?_) <;> (first | with_reducible assumption | (unfold y_Tr; omega))) | ((with_reducible refine y_Tr4 ?_ ?_) <;> (first | with_reducible assumption | omega)) | ((with_reducible refine (y_Tr4 ?_ ?_).ty) <;> (first | with_reducible assumption | omega)) | (unfold y_Ty; omega) | (unfold y_Tr; omega) | ((with_reducible refine y_Rs.ty ?_ ?_) <;> (first | with_reducible assumption | omega)))) (fun r_19 h_r_19 => ?_)
          have h0_r_19 : y_V r_19 := h_r_19
          refine y_bi (y_X9_push (by omega) (by omega) (by omega) (by first | with_reducible assumption | omega | ((with_reducible refine y_Vl ?_ ?_) <;> omega) | ((with_reducible refine y_V8 ?_) <;> (first | with_reducible assumption | (unfold y_Tr; omega))) | ((with_reducible refine y_Tr4 ?_ ?_) <;> (first | with_reducible assumption | omega)) | ((with_reducible refine (y_Tr4 ?_ ?_).ty) <;> (first | with_reducible assumption | omega)) | (unfold y_Ty; omega) | (unfold y_Tr; omega) | ((with_reducible refine y_Rs.ty ?_ ?_) <;> (first | with_reducible assumption | omega))) (by first | with_reducible assumption | omega | ((with_reducible refine y_Vl ?_ ?_) <;> omega) | ((with_reducible refine y_V8 ?_) <;> (first | with_reducible assumption | (unfold y_Tr; omega))) | ((with_reducible refine y_Tr4 ?_ ?_) <;> (first | with_reducible assumption | omega)) | ((with_reducible refine (y_Tr4 ?_ ?_).ty) <;> (first | with_reducible assumption | omega)) | (unfold y_Ty; omega) | (unfold y_Tr; omega) | ((with_reducible refine y_Rs.ty ?_ ?_) <;> (first | with_reducible assumption | omega)))) (fun r_20 h_r_20 => ?_)
          obtain ⟨h0_r_20, h1_r_20, h2_r_20⟩ := h_r_20
          refine y_if (fun c22 => ?_) (fun c22 => ?_)
          · skip
            have c22' := c22
            rw [← Int32.toInt_inj] at c22'
            refine y_some ?_
            try dsimp only
            refine ⟨?_, ?_, ?_⟩ <;> (first | with_reducible assumption | omega | ((with_reducible refine y_Vl ?_ ?_) <;> omega) | ((with_reducible refine y_V8 ?_) <;> (first | with_reducible assumption | (unfold y_Tr; omega))) | ((with_reducible refine y_Tr4 ?_ ?_) <;> (first | with_reducible assumption | omega)) | ((with_reducible refine (y_Tr4 ?_ ?_).ty) <;> (first | with_reducible assumption | omega)) | (unfold y_Ty; omega) | (unfold y_Tr; omega) | ((with_reducible refine y_Rs.ty ?_ ?_) <;> (first | with_reducible assumption | omega)))
          · skip
            have c22' := c22
            rw [← Int32.toInt_inj] at c22'
            have e23 : (1 : Int32).toInt = 1 := rfl
            refine y_some ?_
            try dsimp only
            refine ⟨?_, ?_, ?_⟩ <;> (first | with_reducible assumption | omega | ((with_reducible refine y_Vl ?_ ?_) <;> omega) | ((with_reducible refine y_V8 ?_) <;> (first | with_reducible assumption | (unfold y_Tr; omega))) | ((with_reducible refine y_Tr4 ?_ ?_) <;> (first | with_reducible assumption | omega)) | ((with_reducible refine (y_Tr4 ?_ ?_).ty) <;> (first | with_reducible assumption | omega)) | (unfold y_Ty; omega) | (unfold y_Tr; omega) | ((with_reducible refine y_Rs.ty ?_ ?_) <;> (first | with_reducible assumption | omega)))
      · skip
        have e24 : (180 : Int32).toInt = 180 := rfl
        have c13' := c13
        rw [← Int32.toInt_inj] at c13'
        try have e25 := @y_cl p2 (by omega)
        try have e26 := k6.at (Int32.toNatClampNeg p2) (by omega)
        try have e27 := e26.b
        refine y_bi (y_X9_popType (by omega) (by omega) (by first | with_reducible assumption | omega | ((with_reducible refine y_Vl ?_ ?_) <;> omega) | ((with_reducible refine y_V8 ?_) <;> (first | with_reducible assumption | (unfold y_Tr; omega))) | ((with_reducible refine y_Tr4 ?_ ?_) <;> (first | with_reducible assumption | omega)) | ((with_reducible refine (y_Tr4 ?_ ?_).ty) <;> (first | with_reducible assumption | omega)) | (unfold y_Ty; omega) | (unfold y_Tr; omega) | ((with_reducible refine y_Rs.ty ?_ ?_) <;> (first | with_reducible assumption | omega))) (by first | with_reducible assumption | omega | ((with_reducible refine y_Vl ?_ ?_) <;> omega) | ((with_reducible refine y_V8 ?_) <;> (first | with_reducible assumption | (unfold y_Tr; omega))) | ((with_reducible refine y_Tr4 ?_ ?_) <;> (first | with_reducible assumption | omega)) | ((with_reducible refine (y_Tr4 ?_ ?_).ty) <;> (first | with_reducible assumption | omega)) | (unfold y_Ty; omega) | (unfold y_Tr; omega) | ((with_reducible refine y_Rs.ty ?_ ?_) <;> (first | with_reducible assumption | omega))) (by first | with_reducible assumption | omega | ((with_reducible refine y_Vl ?_ ?_) <;> omega) | ((with_reducible refine y_V8 ?_) <;> (first | with_reducible assumption | (unfold y_Tr; omega))) | ((with_reducible refine y_Tr4 ?_ ?_) <;> (first | with_reducible assumption | omega)) | ((with_reducible refine (y_Tr4 ?_ ?_).ty) <;> (first | with_reducible assumption | omega)) | (unfold y_Ty; omega) | (unfold y_Tr; omega) | ((with_reducible refine y_Rs.ty ?_ ?_) <;> (first | with_reducible assumption | omega)))) (fun r_5 h_r_5 => ?_)
        obtain ⟨h0_r_5, h1_r_5⟩ := h_r_5
        refine y_if (fun c28 => ?_) (fun c28 => ?_)
        · skip
          have e29 : (0 : Int32).toInt = 0 := rfl
          have c28' := c28
          rw [← Int32.toInt_inj] at c28'
          refine y_some ?_
          try dsimp only
          refine ⟨?_, ?_, ?_⟩ <;> (first | with_reducible assumption | omega | ((with_reducible refine y_Vl ?_ ?_) <;> omega) | ((with_reducible refine y_V8 ?_) <;> (first | with_reducible assumption | (unfold y_Tr; omega))) | ((with_reducible refine y_Tr4 ?_ ?_) <;> (first | with_reducible assumption | omega)) | ((with_reducible refine (y_Tr4 ?_ ?_).ty) <;> (first | with_reducible assumption | omega)) | (unfold y_Ty; omega) | (unfold y_Tr; omega) | ((with_reducible refine y_Rs.ty ?_ ?_) <;> (first | with_reducible assumption | omega)))
        · skip
          have e30 : (0 : Int32).toInt = 0 := rfl
          have c28' := c28
          rw [← Int32.toInt_inj] at c28'
          refine y_if (fun c31 => ?_) (fun c31 => ?_)
          · skip
            have c31' := c31
            rw [Int32.le_iff_toInt_le] at c31'
            refine y_gd (y_gdI (by omega) (by omega)) ?_
            try have e32 := k5.at (Int32.toNatClampNeg p2) (by omega)
            refine y_bi (y_X9_popType (by omega) (by omega) (by first | with_reducible assumption | omega | ((with_reducible refine y_Vl ?_ ?_) <;> omega) | ((with_reducible refine y_V8 ?_) <;> (first | with_reducible assumption | (unfold y_Tr; omega))) | ((with_reducible refine y_Tr4 ?_ ?_) <;> (first | with_reducible assumption | omega)) | ((with_reducible refine (y_Tr4 ?_ ?_).ty) <;> (first | with_reducible assumption | omega)) | (unfold y_Ty; omega) | (unfold y_Tr; omega) | ((with_reducible refine y_Rs.ty ?_ ?_) <;> (first | with_reducible assumption | omega))) (by first | with_reducible assumption | omega | ((with_reducible refine y_Vl ?_ ?_) <;> omega) | ((with_reducible refine y_V8 ?_) <;> (first | with_reducible assumption | (unfold y_Tr; omega))) | ((with_reducible refine y_Tr4 ?_ ?_) <;> (first | with_reducible assumption | omega)) | ((with_reducible refine (y_Tr4 ?_ ?_).ty) <;> (first | with_reducible assumption | omega)) | (unfold y_Ty; omega) | (unfold y_Tr; omega) | ((with_reducible refine y_Rs.ty ?_ ?_) <;> (first | with_reducible assumption | omega))) (by first | with_reducible assumption | omega | ((with_reducible refine y_Vl ?_ ?_) <;> omega) | ((with_reducible refine y_V8 ?_) <;> (first | with_reducible assumption | (unfold y_Tr; omega))) | ((with_reducible refine y_Tr4 ?_ ?_) <;> (first | with_reducible assumption | omega)) | ((with_reducible refine (y_Tr4 ?_ ?_).ty) <;> (first | with_reducible assumption | omega)) | (unfold y_Ty; omega) | (unfold y_Tr; omega) | ((with_reducible refine y_Rs.ty ?_ ?_) <;> (first | with_reducible assumption | omega)))) (fun r_9 h_r_9 => ?_)
            obtain ⟨h0_r_9, h1_r_9⟩ := h_r_9
            refine y_some ?_
            try dsimp only
            refine ⟨?_, ?_, ?_⟩ <;> (first | with_reducible assumption | omega | ((with_reducible refine y_Vl ?_ ?_) <;> omega) | ((with_reducible refine y_V8 ?_) <;> (first | with_reducible assumption | (unfold y_Tr; omega))) | ((with_reducible refine y_Tr4 ?_ ?_) <;> (first | with_reducible assumption | omega)) | ((with_reducible refine (y_Tr4 ?_ ?_).ty) <;> (first | with_reducible assumption | omega)) | (unfold y_Ty; omega) | (unfold y_Tr; omega) | ((with_reducible refine y_Rs.ty ?_ ?_) <;> (first | with_reducible assumption | omega)))
          · skip
            have c31' := c31
            rw [Int32.le_iff_toInt_le] at c31'
            try have e33 := @y_subL r_5.2 (1 : Int32) (1) rfl (by omega) (by omega)
            refine y_gd (y_gdI (by omega) (by omega)) ?_
            refine y_if (fun c34 => ?_) (fun c34 => ?_)
            · skip
              try have e35 := @y_cl (r_5.2 - (1 : Int32)) (by omega)
              try have e36 := k4.at (Int32.toNatClampNeg (r_5.2 - (1 : Int32))) (by omega)
              try have e37 := e36.b
              have e38 : (6 : Int32).toInt = 6 := rfl
              have c34' := c34
              rw [← Int32.toInt_inj] at c34'
              refine y_gd (y_gdI (by omega) (by omega)) ?_
              refine y_if (fun c39 => ?_) (fun c39 => ?_)
              · skip
                try have e40 := k5.at (Int32.toNatClampNeg p2) (by omega)
                have c39' := c39
                rw [← Int32.toInt_inj] at c39'
                have e41 : (1 : Int32).toInt = 1 := rfl
                refine y_some ?_
                try dsimp only
                refine ⟨?_, ?_, ?_⟩ <;> (first | with_reducible assumption | omega | ((with_reducible refine y_Vl ?_ ?_) <;> omega) | ((with_reducible refine y_V8 ?_) <;> (first | with_reducible assumption | (unfold y_Tr; omega))) | ((with_reducible refine y_Tr4 ?_ ?_) <;> (first | with_reducible assumption | omega)) | ((with_reducible refine (y_Tr4 ?_ ?_).ty) <;> (first | with_reducible assumption | omega)) | (unfold y_Ty; omega) | (unfold y_Tr; omega) | ((with_reducible refine y_Rs.ty ?_ ?_) <;> (first | with_reducible assumption | omega)))
              · skip
                try have e42 := k5.at (Int32.toNatClampNeg p2) (by omega)
                have c39' := c39
                rw [← Int32.toInt_inj] at c39'
                refine y_some ?_
                try dsimp only
                refine ⟨?_, ?_, ?_⟩ <;> (first | with_reducible assumption | omega | ((with_reducible refine y_Vl ?_ ?_) <;> omega) | ((with_reducible refine y_V8 ?_) <;> (first | with_reducible assumption | (unfold y_Tr; omega))) | ((with_reducible refine y_Tr4 ?_ ?_) <;> (first | with_reducible assumption | omega)) | ((with_reducible refine (y_Tr4 ?_ ?_).ty) <;> (first | with_reducible assumption | omega)) | (unfold y_Ty; omega) | (unfold y_Tr; omega) | ((with_reducible refine y_Rs.ty ?_ ?_) <;> (first | with_reducible assumption | omega)))
            · skip
              try have e43 := @y_cl (r_5.2 - (1 : Int32)) (by omega)
              try have e44 := k4.at (Int32.toNatClampNeg (r_5.2 - (1 : Int32))) (by omega)
              try have e45 := e44.b
              have e46 : (6 : Int32).toInt = 6 := rfl
              have c34' := c34
              rw [← Int32.toInt_inj] at c34'
              refine y_gd (y_gdI (by omega) (by omega)) ?_
              try have e47 := k5.at (Int32.toNatClampNeg p2) (by omega)
              refine y_bi (y_X9_popType (by omega) (by omega) (by first | with_reducible assumption | omega | ((with_reducible refine y_Vl ?_ ?_) <;> omega) | ((with_reducible refine y_V8 ?_) <;> (first | with_reducible assumption | (unfold y_Tr; omega))) | ((with_reducible refine y_Tr4 ?_ ?_) <;> (first | with_reducible assumption | omega)) | ((with_reducible refine (y_Tr4 ?_ ?_).ty) <;> (first | with_reducible assumption | omega)) | (unfold y_Ty; omega) | (unfold y_Tr; omega) | ((with_reducible refine y_Rs.ty ?_ ?_) <;> (first | with_reducible assumption | omega))) (by first | with_reducible assumption | omega | ((with_reducible refine y_Vl ?_ ?_) <;> omega) | ((with_reducible refine y_V8 ?_) <;> (first | with_reducible assumption | (unfold y_Tr; omega))) | ((with_reducible refine y_Tr4 ?_ ?_) <;> (first | with_reducible assumption | omega)) | ((with_reducible refine (y_Tr4 ?_ ?_).ty) <;> (first | with_reducible assumption | omega)) | (unfold y_Ty; omega) | (unfold y_Tr; omega) | ((with_reducible refine y_Rs.ty ?_ ?_) <;> (first | with_reducible assumption | omega))) (by first | with_reducible assumption | omega | ((with_reducible refine y_Vl ?_ ?_) <;> omega) | ((with_reducible refine y_V8 ?_) <;> (first | with_reducible assumption | (unfold y_Tr; omega))) | ((with_reducible refine y_Tr4 ?_ ?_) <;> (first | with_reducible assumption | omega)) | ((with_reducible refine (y_Tr4 ?_ ?_).ty) <;> (first | with_reducible assumption | omega)) | (unfold y_Ty; omega) | (unfold y_Tr; omega) | ((with_reducible refine y_Rs.ty ?_ ?_) <;> (first | with_reducible assumption | omega)))) (fun r_13 h_r_13 => ?_)
              obtain ⟨h0_r_13, h1_r_13⟩ := h_r_13
              refine y_some ?_
              try dsimp only
              refine ⟨?_, ?_, ?_⟩ <;> (first | with_reducible assumption | omega | ((with_reducible refine y_Vl ?_ ?_) <;> omega) | ((with_reducible refine y_V8 ?_) <;> (first | with_reducible assumption | (unfold y_Tr; omega))) | ((with_reducible refine y_Tr4 ?_ ?_) <;> (first | with_reducible assumption | omega)) | ((with_reducible refine (y_Tr4 ?_ ?_).ty) <;> (first | with_reducible assumption | omega)) | (unfold y_Ty; omega) | (unfold y_Tr; omega) | ((with_reducible refine y_Rs.ty ?_ ?_) <;> (first | with_reducible assumption | omega)))
