set_option maxHeartbeats 4000000 in
theorem y_X9_keep_L_1_i {v9_16 : Int32} {v9_17 : Int32} {v9_35 : Int32} {v9_36 : Int32} {g9_33 : Nat → Int32} {g9_34 : Nat → Int32} {l1 : Int32} {e0 : Nat} {F0 : Nat → Int32} (k0 : 0 ≤ v9_16.toInt) (k1 : v9_16.toInt ≤ 200) (k2 : 0 ≤ v9_17.toInt) (k3 : v9_17.toInt ≤ 200) (k4 : 0 ≤ v9_35.toInt) (k5 : v9_35.toInt ≤ v9_17.toInt) (k6 : 0 ≤ v9_36.toInt) (k7 : v9_36.toInt ≤ 1) (k8 : y_AV 202 g9_33) (k9 : y_AV 202 g9_34) (k10 : 0 ≤ l1.toInt) (k11 : l1.toInt + v9_16.toInt + v9_17.toInt + 2 ≤ 60600) (k14 : (e0 : Int) ≤ l1.toInt) : ∀ (m : Nat) {l2 : Int32} {g9_57 : Nat → Int32}, (y_AV 60600 g9_57) → (y_Eq e0 F0 g9_57) → (0 ≤ l2.toInt) → (l2.toInt ≤ v9_35.toInt) → v9_35.toInt - l2.toInt < m → y_Ok (f_X9_keep_L v9_16 v9_17 v9_35 v9_36 g9_33 g9_34 l1 (1, l2, g9_57)) (fun r => (y_AV 60600 r) ∧ (y_Eq e0 F0 r) ∧ ((r (Int32.toNatClampNeg ((l1 + v9_16) + v9_17))).toInt = v9_35.toInt)) := by
  intro m
  induction m with
  | zero => intro l2 g9_57 k12 k13 k15 k16 hm; exfalso; omega
  | succ m ih =>
    intro l2 g9_57 k12 k13 k15 k16 hm
    rw [f_X9_keep_L]
    refine y_in (by decide) ?_
    refine y_ip rfl ?_
    refine y_if (fun c1 => ?_) (fun c1 => ?_)
    · skip
      have c1' := c1
      rw [Int32.le_iff_toInt_le] at c1'
      try have e2 := @y_add l1 v9_16 (by omega) (by omega)
      try have e3 := @y_add (l1 + v9_16) v9_17 (by omega) (by omega)
      refine y_gd (y_gdI (by omega) (by omega)) ?_
      refine y_if (fun c4 => ?_) (fun c4 => ?_)
      · skip
        have e5 : (0 : Int32).toInt = 0 := rfl
        have c4' := c4
        rw [← Int32.toInt_inj] at c4'
        try have e6 := @y_addL ((l1 + v9_16) + v9_17) (1 : Int32) (1) rfl (by omega) (by omega)
        refine y_gd (y_gdI (by omega) (by omega)) ?_
        try have e7 := @y_cl ((l1 + v9_16) + v9_17) (by omega)
        try have e8 : y_AV 60600 (upd g9_57 (Int32.toNatClampNeg ((l1 + v9_16) + v9_17)) v9_35) := y_AV_upd k12 (by first | with_reducible assumption | omega | ((with_reducible refine y_Vl ?_ ?_) <;> omega) | (rw [y_upd2 (by omega), y_upd1]))
        try have e9 : y_Eq e0 F0 (upd g9_57 (Int32.toNatClampNeg ((l1 + v9_16) + v9_17)) v9_35) := y_Eq_upd k13 (by omega)
        try have e10 := @y_cl (((l1 + v9_16) + v9_17) + (1 : Int32)) (by omega)
        try have e11 : y_AV 60600 (upd (upd g9_57 (Int32.toNatClampNeg ((l1 + v9_16) + v9_17)) v9_35) (Int32.toNatClampNeg (((l1 + v9_16) + v9_17) + (1 : Int32))) (0 : Int32)) := y_AV_upd e8 (by first | with_reducible assumption | omega | ((with_reducible refine y_Vl ?_ ?_) <;> omega) | (rw [y_upd2 (by omega), y_upd1]))
        try have e12 : y_Eq e0 F0 (upd (upd g9_57 (Int32.toNatClampNeg ((l1 + v9_16) + v9_17)) v9_35) (Int32.toNatClampNeg (((l1 + v9_16) + v9_17) + (1 : Int32))) (0 : Int32)) := y_Eq_upd e9 (by omega)
        refine y_some ?_
        try dsimp only
        refine ⟨?_, ?_, ?_⟩ <;> (first | with_reducible assumption | omega | ((with_reducible refine y_Vl ?_ ?_) <;> omega) | (rw [y_upd2 (by omega), y_upd1]))
      · skip
        have e13 : (0 : Int32).toInt = 0 := rfl
        have c4' := c4
        rw [← Int32.toInt_inj] at c4'
        try have e14 := @y_addL ((l1 + v9_16) + v9_17) (1 : Int32) (1) rfl (by omega) (by omega)
        refine y_gd (y_gdI (by omega) (by omega)) ?_
        try have e15 := @y_cl ((l1 + v9_16) + v9_17) (by omega)
        try have e16 : y_AV 60600 (upd g9_57 (Int32.toNatClampNeg ((l1 + v9_16) + v9_17)) v9_35) := y_AV_upd k12 (by first | with_reducible assumption | omega | ((with_reducible refine y_Vl ?_ ?_) <;> omega) | (rw [y_upd2 (by omega), y_upd1]))
        try have e17 : y_Eq e0 F0 (upd g9_57 (Int32.toNatClampNeg ((l1 + v9_16) + v9_17)) v9_35) := y_Eq_upd k13 (by omega)
        try have e18 := @y_cl (((l1 + v9_16) + v9_17) + (1 : Int32)) (by omega)
        have e19 : (1 : Int32).toInt = 1 := rfl
        try have e20 : y_AV 60600 (upd (upd g9_57 (Int32.toNatClampNeg ((l1 + v9_16) + v9_17)) v9_35) (Int32.toNatClampNeg (((l1 + v9_16) + v9_17) + (1 : Int32))) (1 : Int32)) := y_AV_upd e16 (by first | with_reducible assumption | omega | ((with_reducible refine y_Vl ?_ ?_) <;> omega) | (rw [y_upd2 (by omega), y_upd1]))
        try have e21 : y_Eq e0 F0 (upd (upd g9_57 (Int32.toNatClampNeg ((l1 + v9_16) + v9_17)) v9_35) (Int32.toNatClampNeg (((l1 + v9_16) + v9_17) + (1 : Int32))) (1 : Int32)) := y_Eq_upd e17 (by omega)
        refine y_some ?_
        try dsimp only
        refine ⟨?_, ?_, ?_⟩ <;> (first | with_reducible assumption | omega | ((with_reducible refine y_Vl ?_ ?_) <;> omega) | (rw [y_upd2 (by omega), y_upd1]))
    · skip
      have c1' := c1
      rw [Int32.le_iff_toInt_le] at c1'
      refine y_gd (y_gdI (by omega) (by omega)) ?_
      try have e22 := @y_add l1 v9_16 (by omega) (by omega)
      try have e23 := @y_add (l1 + v9_16) l2 (by omega) (by omega)
      refine y_gd (y_gdI (by omega) (by omega)) ?_
      try have e24 := @y_addL l2 (1 : Int32) (1) rfl (by omega) (by omega)
      try have e25 := @y_cl ((l1 + v9_16) + l2) (by omega)
      try have e26 := @y_cl l2 (by omega)
      try have e27 := k9.at (Int32.toNatClampNeg l2) (by omega)
      try have e28 := e27.b
      try have e29 : y_AV 60600 (upd g9_57 (Int32.toNatClampNeg ((l1 + v9_16) + l2)) (g9_34 (Int32.toNatClampNeg l2))) := y_AV_upd k12 (by first | with_reducible assumption | omega | ((with_reducible refine y_Vl ?_ ?_) <;> omega) | (rw [y_upd2 (by omega), y_upd1]))
      try have e30 : y_Eq e0 F0 (upd g9_57 (Int32.toNatClampNeg ((l1 + v9_16) + l2)) (g9_34 (Int32.toNatClampNeg l2))) := y_Eq_upd k13 (by omega)
      exact ih (l2 := (l2 + 1)) (g9_57 := (upd g9_57 (Int32.toNatClampNeg ((l1 + v9_16) + l2)) (g9_34 (Int32.toNatClampNeg l2)))) (by first | with_reducible assumption | omega | ((with_reducible refine y_Vl ?_ ?_) <;> omega) | (rw [y_upd2 (by omega), y_upd1])) (by first | with_reducible assumption | omega | ((with_reducible refine y_Vl ?_ ?_) <;> omega) | (rw [y_upd2 (by omega), y_upd1])) (by omega) (by omega) (by omega)
theorem y_X9_keep_L_1 {v9_16 : Int32} {v9_17 : Int32} {v9_35 : Int32} {v9_36 : Int32} {g9_33 : Nat → Int32} {g9_34 : Nat → Int32} {l1 : Int32} {e0 : Nat} {F0 : Nat → Int32} {l2 : Int32} {g9_57 : Nat → Int32} (k0 : 0 ≤ v9_16.toInt) (k1 : v9_16.toInt ≤ 200) (k2 : 0 ≤ v9_17.toInt) (k3 : v9_17.toInt ≤ 200) (k4 : 0 ≤ v9_35.toInt) (k5 : v9_35.toInt ≤ v9_17.toInt) (k6 : 0 ≤ v9_36.toInt) (k7 : v9_36.toInt ≤ 1) (k8 : y_AV 202 g9_33) (k9 : y_AV 202 g9_34) (k10 : 0 ≤ l1.toInt) (k11 : l1.toInt + v9_16.toInt + v9_17.toInt + 2 ≤ 60600) (k12 : y_AV 60600 g9_57) (k13 : y_Eq e0 F0 g9_57) (k14 : (e0 : Int) ≤ l1.toInt) (k15 : 0 ≤ l2.toInt) (k16 : l2.toInt ≤ v9_35.toInt) : y_Ok (f_X9_keep_L v9_16 v9_17 v9_35 v9_36 g9_33 g9_34 l1 (1, l2, g9_57)) (fun r => (y_AV 60600 r) ∧ (y_Eq e0 F0 r) ∧ ((r (Int32.toNatClampNeg ((l1 + v9_16) + v9_17))).toInt = v9_35.toInt)) := y_X9_keep_L_1_i (e0 := e0) (F0 := F0) k0 k1 k2 k3 k4 k5 k6 k7 k8 k9 k10 k11 k14 (v9_35.toInt - l2.toInt + 1).toNat k12 k13 k15 k16 (by omega)
set_option maxHeartbeats 4000000 in
theorem y_X9_keep_L_0_i {v9_16 : Int32} {v9_17 : Int32} {v9_35 : Int32} {v9_36 : Int32} {g9_33 : Nat → Int32} {g9_34 : Nat → Int32} {l1 : Int32} {e0 : Nat} {F0 : Nat → Int32} (k0 : 0 ≤ v9_16.toInt) (k1 : v9_16.toInt ≤ 200) (k2 : 0 ≤ v9_17.toInt) (k3 : v9_17.toInt ≤ 200) (k4 : 0 ≤ v9_35.toInt) (k5 : v9_35.toInt ≤ v9_17.toInt) (k6 : 0 ≤ v9_36.toInt) (k7 : v9_36.toInt ≤ 1) (k8 : y_AV 202 g9_33) (k9 : y_AV 202 g9_34) (k10 : 0 ≤ l1.toInt) (k11 : l1.toInt + v9_16.toInt + v9_17.toInt + 2 ≤ 60600) (k14 : (e0 : Int) ≤ l1.toInt) : ∀ (m : Nat) {l2 : Int32} {g9_57 : Nat → Int32}, (y_AV 60600 g9_57) → (y_Eq e0 F0 g9_57) → (0 ≤ l2.toInt) → (l2.toInt ≤ v9_16.toInt) → v9_16.toInt - l2.toInt < m → y_Ok (f_X9_keep_L v9_16 v9_17 v9_35 v9_36 g9_33 g9_34 l1 (0, l2, g9_57)) (fun r => (y_AV 60600 r) ∧ (y_Eq e0 F0 r) ∧ ((r (Int32.toNatClampNeg ((l1 + v9_16) + v9_17))).toInt = v9_35.toInt)) := by
  intro m
  induction m with
  | zero => intro l2 g9_57 k12 k13 k15 k16 hm; exfalso; omega
  | succ m ih =>
    intro l2 g9_57 k12 k13 k15 k16 hm
    rw [f_X9_keep_L]
    refine y_ip rfl ?_
    refine y_if (fun c1 => ?_) (fun c1 => ?_)
    · skip
      have c1' := c1
      rw [Int32.le_iff_toInt_le] at c1'
      have e2 : (0 : Int32).toInt = 0 := rfl
      refine y_Ok.mono (y_X9_keep_L_1 (e0 := e0) (F0 := F0) (l2 := 0) (g9_57 := g9_57) (by omega) (by omega) (by omega) (by omega) (by omega) (by omega) (by omega) (by omega) (by first | with_reducible assumption | omega | ((with_reducible refine y_Vl ?_ ?_) <;> omega) | (rw [y_upd2 (by omega), y_upd1])) (by first | with_reducible assumption | omega | ((with_reducible refine y_Vl ?_ ?_) <;> omega) | (rw [y_upd2 (by omega), y_upd1])) (by omega) (by omega) (by first | with_reducible assumption | omega | ((with_reducible refine y_Vl ?_ ?_) <;> omega) | (rw [y_upd2 (by omega), y_upd1])) (by first | with_reducible assumption | omega | ((with_reducible refine y_Vl ?_ ?_) <;> omega) | (rw [y_upd2 (by omega), y_upd1])) (by omega) (by omega) (by omega)) (fun r_t2 h_r_t2 => ?_)
      obtain ⟨h0_r_t2, h1_r_t2, h2_r_t2⟩ := h_r_t2
      refine ⟨?_, ?_, ?_⟩ <;> (first | with_reducible assumption | omega | ((with_reducible refine y_Vl ?_ ?_) <;> omega) | (rw [y_upd2 (by omega), y_upd1]))
    · skip
      have c1' := c1
      rw [Int32.le_iff_toInt_le] at c1'
      refine y_gd (y_gdI (by omega) (by omega)) ?_
      try have e4 := @y_add l1 l2 (by omega) (by omega)
      refine y_gd (y_gdI (by omega) (by omega)) ?_
      try have e5 := @y_addL l2 (1 : Int32) (1) rfl (by omega) (by omega)
      try have e6 := @y_cl (l1 + l2) (by omega)
      try have e7 := @y_cl l2 (by omega)
      try have e8 := k8.at (Int32.toNatClampNeg l2) (by omega)
      try have e9 := e8.b
      try have e10 : y_AV 60600 (upd g9_57 (Int32.toNatClampNeg (l1 + l2)) (g9_33 (Int32.toNatClampNeg l2))) := y_AV_upd k12 (by first | with_reducible assumption | omega | ((with_reducible refine y_Vl ?_ ?_) <;> omega) | (rw [y_upd2 (by omega), y_upd1]))
      try have e11 : y_Eq e0 F0 (upd g9_57 (Int32.toNatClampNeg (l1 + l2)) (g9_33 (Int32.toNatClampNeg l2))) := y_Eq_upd k13 (by omega)
      exact ih (l2 := (l2 + 1)) (g9_57 := (upd g9_57 (Int32.toNatClampNeg (l1 + l2)) (g9_33 (Int32.toNatClampNeg l2)))) (by first | with_reducible assumption | omega | ((with_reducible refine y_Vl ?_ ?_) <;> omega) | (rw [y_upd2 (by omega), y_upd1])) (by first | with_reducible assumption | omega | ((with_reducible refine y_Vl ?_ ?_) <;> omega) | (rw [y_upd2 (by omega), y_upd1])) (by omega) (by omega) (by omega)
theorem y_X9_keep_L_0 {v9_16 : Int32} {v9_17 : Int32} {v9_35 : Int32} {v9_36 : Int32} {g9_33 : Nat → Int32} {g9_34 : Nat → Int32} {l1 : Int32} {e0 : Nat} {F0 : Nat → Int32} {l2 : Int32} {g9_57 : Nat → Int32} (k0 : 0 ≤ v9_16.toInt) (k1 : v9_16.toInt ≤ 200) (k2 : 0 ≤ v9_17.toInt) (k3 : v9_17.toInt ≤ 200) (k4 : 0 ≤ v9_35.toInt) (k5 : v9_35.toInt ≤ v9_17.toInt) (k6 : 0 ≤ v9_36.toInt) (k7 : v9_36.toInt ≤ 1) (k8 : y_AV 202 g9_33) (k9 : y_AV 202 g9_34) (k10 : 0 ≤ l1.toInt) (k11 : l1.toInt + v9_16.toInt + v9_17.toInt + 2 ≤ 60600) (k12 : y_AV 60600 g9_57) (k13 : y_Eq e0 F0 g9_57) (k14 : (e0 : Int) ≤ l1.toInt) (k15 : 0 ≤ l2.toInt) (k16 : l2.toInt ≤ v9_16.toInt) : y_Ok (f_X9_keep_L v9_16 v9_17 v9_35 v9_36 g9_33 g9_34 l1 (0, l2, g9_57)) (fun r => (y_AV 60600 r) ∧ (y_Eq e0 F0 r) ∧ ((r (Int32.toNatClampNeg ((l1 + v9_16) + v9_17))).toInt = v9_35.toInt)) := y_X9_keep_L_0_i (e0 := e0) (F0 := F0) k0 k1 k2 k3 k4 k5 k6 k7 k8 k9 k10 k11 k14 (v9_16.toInt - l2.toInt + 1).toNat k12 k13 k15 k16 (by omega)
set_option maxHeartbeats 4000000 in
theorem y_X9_keep {v9_16 : Int32} {v9_17 : Int32} {v9_35 : Int32} {v9_36 : Int32} {g9_33 : Nat → Int32} {g9_34 : Nat → Int32} {g9_57 : Nat → Int32} {p1 : Int32} {e0 : Nat} {F0 : Nat → Int32} (k0 : 0 ≤ v9_16.toInt) (k1 : v9_16.toInt ≤ 200) (k2 : 0 ≤ v9_17.toInt) (k3 : v9_17.toInt ≤ 200) (k4 : 0 ≤ v9_35.toInt) (k5 : v9_35.toInt ≤ v9_17.toInt) (k6 : 0 ≤ v9_36.toInt) (k7 : v9_36.toInt ≤ 1) (k8 : y_AV 202 g9_33) (k9 : y_AV 202 g9_34) (k10 : 0 ≤ p1.toInt) (k11 : p1.toInt + v9_16.toInt + v9_17.toInt + 2 ≤ 60600) (k12 : y_AV 60600 g9_57) (k13 : y_Eq e0 F0 g9_57) (k14 : (e0 : Int) ≤ p1.toInt) : y_Ok (f_X9_keep v9_16 v9_17 v9_35 v9_36 g9_33 g9_34 g9_57 p1) (fun r => (y_AV 60600 r) ∧ (y_Eq e0 F0 r) ∧ ((r (Int32.toNatClampNeg ((p1 + v9_16) + v9_17))).toInt = v9_35.toInt)) := by
  unfold f_X9_keep
  have e1 : (0 : Int32).toInt = 0 := rfl
  refine y_Ok.mono (y_X9_keep_L_0 (e0 := e0) (F0 := F0) (l2 := 0) (g9_57 := g9_57) (by omega) (by omega) (by omega) (by omega) (by omega) (by omega) (by omega) (by omega) (by first | with_reducible assumption | omega | ((with_reducible refine y_Vl ?_ ?_) <;> omega) | (rw [y_upd2 (by omega), y_upd1])) (by first | with_reducible assumption | omega | ((with_reducible refine y_Vl ?_ ?_) <;> omega) | (rw [y_upd2 (by omega), y_upd1])) (by omega) (by omega) (by first | with_reducible assumption | omega | ((with_reducible refine y_Vl ?_ ?_) <;> omega) | (rw [y_upd2 (by omega), y_upd1])) (by first | with_reducible assumption | omega | ((with_reducible refine y_Vl ?_ ?_) <;> omega) | (rw [y_upd2 (by omega), y_upd1])) (by omega) (by omega) (by omega)) (fun r_t1 h_r_t1 => ?_)
  obtain ⟨h0_r_t1, h1_r_t1, h2_r_t1⟩ := h_r_t1
  refine ⟨?_, ?_, ?_⟩ <;> (first | with_reducible assumption | omega | ((with_reducible refine y_Vl ?_ ?_) <;> omega) | (rw [y_upd2 (by omega), y_upd1]))
set_option maxHeartbeats 4000000 in
theorem y_X9_take_L_1_i {v9_16 : Int32} {v9_17 : Int32} {g9_57 : Nat → Int32} {l1 : Int32} {v9_36 : Int32} (k0 : 0 ≤ v9_16.toInt) (k1 : v9_16.toInt ≤ 200) (k2 : 0 ≤ v9_17.toInt) (k3 : v9_17.toInt ≤ 200) (k6 : 0 ≤ l1.toInt) (k7 : l1.toInt + v9_16.toInt + v9_17.toInt + 2 ≤ 60600) (k8 : y_AV 60600 g9_57) : ∀ (m : Nat) {l2 : Int32} {v9_35 : Int32} {g9_33 : Nat → Int32} {g9_34 : Nat → Int32}, (y_AV 202 g9_33) → (y_AV 202 g9_34) → (0 ≤ l2.toInt) → (0 ≤ v9_35.toInt) → (v9_35.toInt ≤ v9_17.toInt) → (l2.toInt ≤ v9_35.toInt) → v9_35.toInt - l2.toInt < m → y_Ok (f_X9_take_L v9_16 v9_17 g9_57 l1 v9_36 (1, l2, v9_35, g9_33, g9_34)) (fun r => (0 ≤ r.1.toInt) ∧ (r.1.toInt ≤ v9_17.toInt) ∧ (0 ≤ r.2.1.toInt) ∧ (r.2.1.toInt ≤ 1) ∧ (y_AV 202 r.2.2.1) ∧ (y_AV 202 r.2.2.2)) := by
  intro m
  induction m with
  | zero => intro l2 v9_35 g9_33 g9_34 k4 k5 k9 k10 k11 k12 hm; exfalso; omega
  | succ m ih =>
    intro l2 v9_35 g9_33 g9_34 k4 k5 k9 k10 k11 k12 hm
    rw [f_X9_take_L]
    refine y_in (by decide) ?_
    refine y_ip rfl ?_
    refine y_if (fun c1 => ?_) (fun c1 => ?_)
    · skip
      have c1' := c1
      rw [Int32.le_iff_toInt_le] at c1'
      try have e2 := @y_add l1 v9_16 (by omega) (by omega)
      try have e3 := @y_add (l1 + v9_16) v9_17 (by omega) (by omega)
      try have e4 := @y_addL ((l1 + v9_16) + v9_17) (1 : Int32) (1) rfl (by omega) (by omega)
      refine y_gd (y_gdI (by omega) (by omega)) ?_
      refine y_if (fun c5 => ?_) (fun c5 => ?_)
      · skip
        try have e6 := @y_cl (((l1 + v9_16) + v9_17) + (1 : Int32)) (by omega)
        try have e7 := k8.at (Int32.toNatClampNeg (((l1 + v9_16) + v9_17) + (1 : Int32))) (by omega)
        try have e8 := e7.b
        have e9 : (1 : Int32).toInt = 1 := rfl
        have c5' := c5
        rw [← Int32.toInt_inj] at c5'
        refine y_some ?_
        try dsimp only
        refine ⟨?_, ?_, ?_, ?_, ?_, ?_⟩ <;> (first | with_reducible assumption | omega | ((with_reducible refine y_Vl ?_ ?_) <;> omega))
      · skip
        try have e10 := @y_cl (((l1 + v9_16) + v9_17) + (1 : Int32)) (by omega)
        try have e11 := k8.at (Int32.toNatClampNeg (((l1 + v9_16) + v9_17) + (1 : Int32))) (by omega)
        try have e12 := e11.b
        have e13 : (1 : Int32).toInt = 1 := rfl
        have c5' := c5
        rw [← Int32.toInt_inj] at c5'
        have e14 : (0 : Int32).toInt = 0 := rfl
        refine y_some ?_
        try dsimp only
        refine ⟨?_, ?_, ?_, ?_, ?_, ?_⟩ <;> (first | with_reducible assumption | omega | ((with_reducible refine y_Vl ?_ ?_) <;> omega))
    · skip
      have c1' := c1
      rw [Int32.le_iff_toInt_le] at c1'
      try have e15 := @y_add l1 v9_16 (by omega) (by omega)
      try have e16 := @y_add (l1 + v9_16) l2 (by omega) (by omega)
      refine y_gd (y_gdI (by omega) (by omega)) ?_
      refine y_gd (y_gdI (by omega) (by omega)) ?_
      try have e17 := @y_addL l2 (1 : Int32) (1) rfl (by omega) (by omega)
      try have e18 := @y_cl l2 (by omega)
      try have e19 := @y_cl ((l1 + v9_16) + l2) (by omega)
      try have e20 := k8.at (Int32.toNatClampNeg ((l1 + v9_16) + l2)) (by omega)
      try have e21 := e20.b
      try have e22 : y_AV 202 (upd g9_34 (Int32.toNatClampNeg l2) (g9_57 (Int32.toNatClampNeg ((l1 + v9_16) + l2)))) := y_AV_upd k5 (by first | with_reducible assumption | omega | ((with_reducible refine y_Vl ?_ ?_) <;> omega))
      exact ih (l2 := (l2 + 1)) (v9_35 := v9_35) (g9_33 := g9_33) (g9_34 := (upd g9_34 (Int32.toNatClampNeg l2) (g9_57 (Int32.toNatClampNeg ((l1 + v9_16) + l2))))) (by first | with_reducible assumption | omega | ((with_reducible refine y_Vl ?_ ?_) <;> omega)) (by first | with_reducible assumption | omega | ((with_reducible refine y_Vl ?_ ?_) <;> omega)) (by omega) (by omega) (by omega) (by omega) (by omega)
theorem y_X9_take_L_1 {v9_16 : Int32} {v9_17 : Int32} {g9_57 : Nat → Int32} {l1 : Int32} {v9_36 : Int32} {l2 : Int32} {v9_35 : Int32} {g9_33 : Nat → Int32} {g9_34 : Nat → Int32} (k0 : 0 ≤ v9_16.toInt) (k1 : v9_16.toInt ≤ 200) (k2 : 0 ≤ v9_17.toInt) (k3 : v9_17.toInt ≤ 200) (k4 : y_AV 202 g9_33) (k5 : y_AV 202 g9_34) (k6 : 0 ≤ l1.toInt) (k7 : l1.toInt + v9_16.toInt + v9_17.toInt + 2 ≤ 60600) (k8 : y_AV 60600 g9_57) (k9 : 0 ≤ l2.toInt) (k10 : 0 ≤ v9_35.toInt) (k11 : v9_35.toInt ≤ v9_17.toInt) (k12 : l2.toInt ≤ v9_35.toInt) : y_Ok (f_X9_take_L v9_16 v9_17 g9_57 l1 v9_36 (1, l2, v9_35, g9_33, g9_34)) (fun r => (0 ≤ r.1.toInt) ∧ (r.1.toInt ≤ v9_17.toInt) ∧ (0 ≤ r.2.1.toInt) ∧ (r.2.1.toInt ≤ 1) ∧ (y_AV 202 r.2.2.1) ∧ (y_AV 202 r.2.2.2)) := y_X9_take_L_1_i k0 k1 k2 k3 k6 k7 k8 (v9_35.toInt - l2.toInt + 1).toNat k4 k5 k9 k10 k11 k12 (by omega)
set_option maxHeartbeats 4000000 in
theorem y_X9_take_L_0_i {v9_16 : Int32} {v9_17 : Int32} {g9_57 : Nat → Int32} {l1 : Int32} {v9_36 : Int32} (k0 : 0 ≤ v9_16.toInt) (k1 : v9_16.toInt ≤ 200) (k2 : 0 ≤ v9_17.toInt) (k3 : v9_17.toInt ≤ 200) (k6 : 0 ≤ l1.toInt) (k7 : l1.toInt + v9_16.toInt + v9_17.toInt + 2 ≤ 60600) (k8 : y_AV 60600 g9_57) (k10 : 0 ≤ (g9_57 (Int32.toNatClampNeg ((l1 + v9_16) + v9_17))).toInt) (k11 : (g9_57 (Int32.toNatClampNeg ((l1 + v9_16) + v9_17))).toInt ≤ v9_17.toInt) : ∀ (m : Nat) {l2 : Int32} {v9_35 : Int32} {g9_33 : Nat → Int32} {g9_34 : Nat → Int32}, (y_AV 202 g9_33) → (y_AV 202 g9_34) → (0 ≤ l2.toInt) → (l2.toInt ≤ v9_16.toInt) → v9_16.toInt - l2.toInt < m → y_Ok (f_X9_take_L v9_16 v9_17 g9_57 l1 v9_36 (0, l2, v9_35, g9_33, g9_34)) (fun r => (0 ≤ r.1.toInt) ∧ (r.1.toInt ≤ v9_17.toInt) ∧ (0 ≤ r.2.1.toInt) ∧ (r.2.1.toInt ≤ 1) ∧ (y_AV 202 r.2.2.1) ∧ (y_AV 202 r.2.2.2)) := by
  intro m
  induction m with
  | zero => intro l2 v9_35 g9_33 g9_34 k4 k5 k9 k12 hm; exfalso; omega
  | succ m ih =>
    intro l2 v9_35 g9_33 g9_34 k4 k5 k9 k12 hm
    rw [f_X9_take_L]
    refine y_ip rfl ?_
    refine y_if (fun c1 => ?_) (fun c1 => ?_)
    · skip
      have c1' := c1
      rw [Int32.le_iff_toInt_le] at c1'
      try have e2 := @y_add l1 v9_16 (by omega) (by omega)
      try have e3 := @y_add (l1 + v9_16) v9_17 (by omega) (by omega)
      refine y_gd (y_gdI (by omega) (by omega)) ?_
      have e4 : (0 : Int32).toInt = 0 := rfl
      try have e5 := @y_cl ((l1 + v9_16) + v9_17) (by omega)
      try have e6 := k8.at (Int32.toNatClampNeg ((l1 + v9_16) + v9_17)) (by omega)
      try have e7 := e6.b
      refine y_Ok.mono (y_X9_take_L_1 (l2 := 0) (v9_35 := (g9_57 (Int32.toNatClampNeg ((l1 + v9_16) + v9_17)))) (g9_33 := g9_33) (g9_34 := g9_34) (by omega) (by omega) (by omega) (by omega) (by first | with_reducible assumption | omega | ((with_reducible refine y_Vl ?_ ?_) <;> omega)) (by first | with_reducible assumption | omega | ((with_reducible refine y_Vl ?_ ?_) <;> omega)) (by omega) (by omega) (by first | with_reducible assumption | omega | ((with_reducible refine y_Vl ?_ ?_) <;> omega)) (by omega) (by omega) (by omega) (by omega)) (fun r_t7 h_r_t7 => ?_)
      obtain ⟨h0_r_t7, h1_r_t7, h2_r_t7, h3_r_t7, h4_r_t7, h5_r_t7⟩ := h_r_t7
      refine ⟨?_, ?_, ?_, ?_, ?_, ?_⟩ <;> (first | with_reducible assumption | omega | ((with_reducible refine y_Vl ?_ ?_) <;> omega))
    · skip
      have c1' := c1
      rw [Int32.le_iff_toInt_le] at c1'
      try have e9 := @y_add l1 l2 (by omega) (by omega)
      refine y_gd (y_gdI (by omega) (by omega)) ?_
      refine y_gd (y_gdI (by omega) (by omega)) ?_
      try have e10 := @y_addL l2 (1 : Int32) (1) rfl (by omega) (by omega)
      try have e11 := @y_cl l2 (by omega)
      try have e12 := @y_cl (l1 + l2) (by omega)
      try have e13 := k8.at (Int32.toNatClampNeg (l1 + l2)) (by omega)
      try have e14 := e13.b
      try have e15 : y_AV 202 (upd g9_33 (Int32.toNatClampNeg l2) (g9_57 (Int32.toNatClampNeg (l1 + l2)))) := y_AV_upd k4 (by first | with_reducible assumption | omega | ((with_reducible refine y_Vl ?_ ?_) <;> omega))
      exact ih (l2 := (l2 + 1)) (v9_35 := v9_35) (g9_33 := (upd g9_33 (Int32.toNatClampNeg l2) (g9_57 (Int32.toNatClampNeg (l1 + l2))))) (g9_34 := g9_34) (by first | with_reducible assumption | omega | ((with_reducible refine y_Vl ?_ ?_) <;> omega)) (by first | with_reducible assumption | omega | ((with_reducible refine y_Vl ?_ ?_) <;> omega)) (by omega) (by omega) (by omega)
theorem y_X9_take_L_0 {v9_16 : Int32} {v9_17 : Int32} {g9_57 : Nat → Int32} {l1 : Int32} {v9_36 : Int32} {l2 : Int32} {v9_35 : Int32} {g9_33 : Nat → Int32} {g9_34 : Nat → Int32} (k0 : 0 ≤ v9_16.toInt) (k1 : v9_16.toInt ≤ 200) (k2 : 0 ≤ v9_17.toInt) (k3 : v9_17.toInt ≤ 200) (k4 : y_AV 202 g9_33) (k5 : y_AV 202 g9_34) (k6 : 0 ≤ l1.toInt) (k7 : l1.toInt + v9_16.toInt + v9_17.toInt + 2 ≤ 60600) (k8 : y_AV 60600 g9_57) (k9 : 0 ≤ l2.toInt) (k10 : 0 ≤ (g9_57 (Int32.toNatClampNeg ((l1 + v9_16) + v9_17))).toInt) (k11 : (g9_57 (Int32.toNatClampNeg ((l1 + v9_16) + v9_17))).toInt ≤ v9_17.toInt) (k12 : l2.toInt ≤ v9_16.toInt) : y_Ok (f_X9_take_L v9_16 v9_17 g9_57 l1 v9_36 (0, l2, v9_35, g9_33, g9_34)) (fun r => (0 ≤ r.1.toInt) ∧ (r.1.toInt ≤ v9_17.toInt) ∧ (0 ≤ r.2.1.toInt) ∧ (r.2.1.toInt ≤ 1) ∧ (y_AV 202 r.2.2.1) ∧ (y_AV 202 r.2.2.2)) := y_X9_take_L_0_i k0 k1 k2 k3 k6 k7 k8 k10 k11 (v9_16.toInt - l2.toInt + 1).toNat k4 k5 k9 k12 (by omega)
set_option maxHeartbeats 4000000 in
theorem y_X9_take {v9_16 : Int32} {v9_17 : Int32} {v9_35 : Int32} {v9_36 : Int32} {g9_33 : Nat → Int32} {g9_34 : Nat → Int32} {g9_57 : Nat → Int32} {p1 : Int32} (k0 : 0 ≤ v9_16.toInt) (k1 : v9_16.toInt ≤ 200) (k2 : 0 ≤ v9_17.toInt) (k3 : v9_17.toInt ≤ 200) (k4 : y_AV 202 g9_33) (k5 : y_AV 202 g9_34) (k6 : 0 ≤ p1.toInt) (k7 : p1.toInt + v9_16.toInt + v9_17.toInt + 2 ≤ 60600) (k8 : y_AV 60600 g9_57) (k9 : 0 ≤ (g9_57 (Int32.toNatClampNeg ((p1 + v9_16) + v9_17))).toInt) (k10 : (g9_57 (Int32.toNatClampNeg ((p1 + v9_16) + v9_17))).toInt ≤ v9_17.toInt) : y_Ok (f_X9_take v9_16 v9_17 v9_35 v9_36 g9_33 g9_34 g9_57 p1) (fun r => (0 ≤ r.1.toInt) ∧ (r.1.toInt ≤ v9_17.toInt) ∧ (0 ≤ r.2.1.toInt) ∧ (r.2.1.toInt ≤ 1) ∧ (y_AV 202 r.2.2.1) ∧ (y_AV 202 r.2.2.2)) := by
  unfold f_X9_take
  have e1 : (0 : Int32).toInt = 0 := rfl
  refine y_Ok.mono (y_X9_take_L_0 (l2 := 0) (v9_35 := v9_35) (g9_33 := g9_33) (g9_34 := g9_34) (by omega) (by omega) (by omega) (by omega) (by first | with_reducible assumption | omega | ((with_reducible refine y_Vl ?_ ?_) <;> omega)) (by first | with_reducible assumption | omega | ((with_reducible refine y_Vl ?_ ?_) <;> omega)) (by omega) (by omega) (by first | with_reducible assumption | omega | ((with_reducible refine y_Vl ?_ ?_) <;> omega)) (by omega) (by omega) (by omega) (by omega)) (fun r_t1 h_r_t1 => ?_)
  obtain ⟨h0_r_t1, h1_r_t1, h2_r_t1, h3_r_t1, h4_r_t1, h5_r_t1⟩ := h_r_t1
  refine ⟨?_, ?_, ?_, ?_, ?_, ?_⟩ <;> (first | with_reducible assumption | omega | ((with_reducible refine y_Vl ?_ ?_) <;> omega))
set_option maxHeartbeats 4000000 in
theorem y_X9_waits {v9_54 : Int32} {v9_55 : Int32} {g9_47 : Nat → Int32} {g9_53 : Nat → Int32} {p1 : Int32} {N : Nat} {n2 n3 : Int} (k0 : 0 ≤ v9_54.toInt) (k1 : v9_54.toInt < 20010) (k2 : 0 ≤ v9_55.toInt) (k3 : v9_55.toInt ≤ y_Ct N g9_47) (k4 : y_Q v9_54.toInt v9_55.toInt n2 g9_53) (k5 : N ≤ 20000) (k6 : 0 ≤ p1.toInt) (k7 : p1.toInt < N) (k8 : n2 ≤ n3) (k9 : p1.toInt < n3) : y_Ok (f_X9_waits v9_54 v9_55 g9_47 g9_53 p1) (fun r => (0 ≤ r.1.toInt) ∧ (r.1.toInt ≤ y_Ct N r.2.1) ∧ (y_Q v9_54.toInt r.1.toInt n3 r.2.2)) := by
  have hct := y_Ct_le N g9_47
  unfold f_X9_waits
  refine y_gd (y_gdI (by omega) (by omega)) ?_
  refine y_if (fun c1 => ?_) (fun c1 => ?_)
  · skip
    try have e2 := @y_cl p1 (by omega)
    have e3 : (0 : Int32).toInt = 0 := rfl
    have c1' := c1
    rw [← Int32.toInt_inj] at c1'
    refine y_gd (y_gdI (by omega) (by omega)) ?_
    try have e4 := @y_add v9_54 v9_55 (by omega) (by omega)
    try have e5 := @y_rem (v9_54 + v9_55) (20010 : Int32) 20010 rfl (by decide) (by omega)
    refine y_gd (y_gdI (by omega) (by omega)) ?_
    try have e6 := @y_addL v9_55 (1 : Int32) (1) rfl (by omega) (by omega)
    have e7 : (vp_nar .boolean (1 : Int32)).toInt = 1 := rfl
    try have e8 := @y_cl ((v9_54 + v9_55) - (((v9_54 + v9_55) / (20010 : Int32)) * (20010 : Int32))) (by omega)
    refine y_some ?_
    try dsimp only
    refine ⟨?_, ?_, ?_⟩ <;> (first | with_reducible assumption | omega | ((with_reducible refine y_Vl ?_ ?_) <;> omega) | ((with_reducible refine y_Q.mono (by with_reducible assumption) ?_) <;> omega) | ((with_reducible refine y_Q_add (by with_reducible assumption) ?_ ?_ ?_ ?_ ?_ ?_ ?_) <;> omega) | (have z := @y_Ct_set g9_47 (Int32.toNatClampNeg p1) N (vp_nar .boolean 1) (by omega) (by omega) (by decide); omega))
  · skip
    try have e9 := @y_cl p1 (by omega)
    have e10 : (0 : Int32).toInt = 0 := rfl
    have c1' := c1
    rw [← Int32.toInt_inj] at c1'
    refine y_some ?_
    try dsimp only
    refine ⟨?_, ?_, ?_⟩ <;> (first | with_reducible assumption | omega | ((with_reducible refine y_Vl ?_ ?_) <;> omega) | ((with_reducible refine y_Q.mono (by with_reducible assumption) ?_) <;> omega) | ((with_reducible refine y_Q_add (by with_reducible assumption) ?_ ?_ ?_ ?_ ?_ ?_ ?_) <;> omega) | (have z := @y_Ct_set g9_47 (Int32.toNatClampNeg p1) N (vp_nar .boolean 1) (by omega) (by omega) (by decide); omega))
set_option maxHeartbeats 4000000 in
theorem y_X9_deeper_L_0_i {l1 : Int32} {l2 : Int32} {l3 : Int32} {v9_42 : Int32} {g9_37 : Nat → Int32} {g9_38 : Nat → Int32} {g9_39 : Nat → Int32} {g9_40 : Nat → Int32} {g9_41 : Nat → Int32} {mn : Int} (k0 : 1 ≤ v9_42.toInt) (k1 : v9_42.toInt ≤ 20001) (k2 : y_R1 v9_42.toInt 0 mn g9_37) (k3 : y_BI v9_42.toInt g9_38) (k4 : y_NI v9_42.toInt g9_39) (k5 : y_BI v9_42.toInt g9_40) (k6 : y_Rg 1024 0 (v9_42.toInt - 1) g9_41) (k7 : 0 ≤ l1.toInt) (k8 : l1.toInt < v9_42.toInt) (k9 : 0 ≤ l2.toInt) (k10 : l2.toInt ≤ mn) (k11 : 0 ≤ l3.toInt) (k12 : l3.toInt < 1024) (k13 : (g9_39 (Int32.toNatClampNeg l1)).toInt < 16) : ∀ (m : Nat) {l4 : Int32}, (0 ≤ l4.toInt) → (l4.toInt < v9_42.toInt) → l4.toInt < m → y_Ok (f_X9_deeper_L l1 l2 l3 v9_42 g9_37 g9_38 g9_39 g9_40 g9_41 (0, l4)) (fun r => (0 ≤ r.1.toInt) ∧ (r.1.toInt < r.2.1.toInt) ∧ (r.2.1.toInt = v9_42.toInt ∨ r.2.1.toInt = v9_42.toInt + 1 ∧ r.1.toInt = v9_42.toInt) ∧ (y_R1 r.2.1.toInt 0 mn r.2.2.1) ∧ (y_BI r.2.1.toInt r.2.2.2.1) ∧ (y_NI r.2.1.toInt r.2.2.2.2.1) ∧ (y_BI r.2.1.toInt r.2.2.2.2.2.1) ∧ (y_Rg 1024 0 (r.2.1.toInt - 1) r.2.2.2.2.2.2)) := by
  intro m
  induction m with
  | zero => intro l4 k14 k15 hm; exfalso; omega
  | succ m ih =>
    intro l4 k14 k15 hm
    rw [f_X9_deeper_L]
    refine y_ip rfl ?_
    refine y_if (fun c1 => ?_) (fun c1 => ?_)
    · skip
      have e2 : (0 : Int32).toInt = 0 := rfl
      have c1' := c1
      rw [Int32.le_iff_toInt_le] at c1'
      refine y_gd (y_gdI (by omega) (by omega)) ?_
      refine y_gd (y_gdI (by omega) (by omega)) ?_
      refine y_gd (y_gdI (by omega) (by omega)) ?_
      refine y_gd (y_gdI (by omega) (by omega)) ?_
      refine y_gd (y_gdI (by omega) (by omega)) ?_
      refine y_gd (y_gdI (by omega) (by omega)) ?_
      refine y_gd (y_gdI (by omega) (by omega)) ?_
      try have e3 := @y_addL v9_42 (1 : Int32) (1) rfl (by omega) (by omega)
      try have e4 := @y_cl v9_42 (by omega)
      try have e7 := @y_cl l1 (by omega)
      try have e8 := k4.at (Int32.toNatClampNeg l1) (by omega)
      try have e9 := @y_addL (g9_39 (Int32.toNatClampNeg l1)) (1 : Int32) (1) rfl (by omega) (by omega)
      try have e11 := @y_cl l3 (by omega)
      try have e12 := k6.at (Int32.toNatClampNeg l3) (by omega)
      try have e14 : y_Rg 1024 0 (v9_42.toInt - 1) (upd g9_41 (Int32.toNatClampNeg l3) v9_42) := y_Rg_upd k6 (by omega) (by omega)
      refine y_some ?_
      try dsimp only
      refine ⟨?_, ?_, ?_, ?_, ?_, ?_, ?_, ?_⟩ <;> (first | with_reducible assumption | omega | ((with_reducible refine y_Vl ?_ ?_) <;> omega) | ((with_reducible refine y_R1u (by with_reducible assumption) ?_ ?_ ?_) <;> omega) | ((with_reducible refine y_BIu (by with_reducible assumption) ?_ ?_ ?_) <;> omega) | ((with_reducible refine y_NIu (by with_reducible assumption) ?_ ?_ ?_ ?_) <;> omega) | ((with_reducible refine y_Rg_upd (y_Rg.mono (by with_reducible assumption) (Nat.le_refl _) ?_ ?_) ?_ ?_) <;> omega))
    · skip
      have e15 : (0 : Int32).toInt = 0 := rfl
      have c1' := c1
      rw [Int32.le_iff_toInt_le] at c1'
      refine y_gd (y_gdI (by omega) (by omega)) ?_
      refine y_if (fun c16 => ?_) (fun c16 => ?_)
      · skip
        try have e17 := @y_cl l4 (by omega)
        try have e18 := k3.at (Int32.toNatClampNeg l4) (by omega)
        have c16' := c16
        rw [← Int32.toInt_inj] at c16'
        refine y_gd (y_gdI (by omega) (by omega)) ?_
        refine y_if (fun c19 => ?_) (fun c19 => ?_)
        · skip
          try have e20 := k2.at (Int32.toNatClampNeg l4) (by omega)
          have c19' := c19
          rw [← Int32.toInt_inj] at c19'
          refine y_some ?_
          try dsimp only
          refine ⟨?_, ?_, ?_, ?_, ?_, ?_, ?_, ?_⟩ <;> (first | with_reducible assumption | omega | ((with_reducible refine y_Vl ?_ ?_) <;> omega) | ((with_reducible refine y_R1u (by with_reducible assumption) ?_ ?_ ?_) <;> omega) | ((with_reducible refine y_BIu (by with_reducible assumption) ?_ ?_ ?_) <;> omega) | ((with_reducible refine y_NIu (by with_reducible assumption) ?_ ?_ ?_ ?_) <;> omega) | ((with_reducible refine y_Rg_upd (y_Rg.mono (by with_reducible assumption) (Nat.le_refl _) ?_ ?_) ?_ ?_) <;> omega))
        · skip
          try have e21 := k2.at (Int32.toNatClampNeg l4) (by omega)
          have c19' := c19
          rw [← Int32.toInt_inj] at c19'
          refine y_gd (y_gdI (by omega) (by omega)) ?_
          try have e22 := k5.at (Int32.toNatClampNeg l4) (by omega)
          exact ih (l4 := (g9_40 (Int32.toNatClampNeg l4))) (by omega) (by omega) (by omega)
      · skip
        try have e23 := @y_cl l4 (by omega)
        try have e24 := k3.at (Int32.toNatClampNeg l4) (by omega)
        have c16' := c16
        rw [← Int32.toInt_inj] at c16'
        refine y_gd (y_gdI (by omega) (by omega)) ?_
        try have e25 := k5.at (Int32.toNatClampNeg l4) (by omega)
        exact ih (l4 := (g9_40 (Int32.toNatClampNeg l4))) (by omega) (by omega) (by omega)
theorem y_X9_deeper_L_0 {l1 : Int32} {l2 : Int32} {l3 : Int32} {v9_42 : Int32} {g9_37 : Nat → Int32} {g9_38 : Nat → Int32} {g9_39 : Nat → Int32} {g9_40 : Nat → Int32} {g9_41 : Nat → Int32} {mn : Int} {l4 : Int32} (k0 : 1 ≤ v9_42.toInt) (k1 : v9_42.toInt ≤ 20001) (k2 : y_R1 v9_42.toInt 0 mn g9_37) (k3 : y_BI v9_42.toInt g9_38) (k4 : y_NI v9_42.toInt g9_39) (k5 : y_BI v9_42.toInt g9_40) (k6 : y_Rg 1024 0 (v9_42.toInt - 1) g9_41) (k7 : 0 ≤ l1.toInt) (k8 : l1.toInt < v9_42.toInt) (k9 : 0 ≤ l2.toInt) (k10 : l2.toInt ≤ mn) (k11 : 0 ≤ l3.toInt) (k12 : l3.toInt < 1024) (k13 : (g9_39 (Int32.toNatClampNeg l1)).toInt < 16) (k14 : 0 ≤ l4.toInt) (k15 : l4.toInt < v9_42.toInt) : y_Ok (f_X9_deeper_L l1 l2 l3 v9_42 g9_37 g9_38 g9_39 g9_40 g9_41 (0, l4)) (fun r => (0 ≤ r.1.toInt) ∧ (r.1.toInt < r.2.1.toInt) ∧ (r.2.1.toInt = v9_42.toInt ∨ r.2.1.toInt = v9_42.toInt + 1 ∧ r.1.toInt = v9_42.toInt) ∧ (y_R1 r.2.1.toInt 0 mn r.2.2.1) ∧ (y_BI r.2.1.toInt r.2.2.2.1) ∧ (y_NI r.2.1.toInt r.2.2.2.2.1) ∧ (y_BI r.2.1.toInt r.2.2.2.2.2.1) ∧ (y_Rg 1024 0 (r.2.1.toInt - 1) r.2.2.2.2.2.2)) := y_X9_deeper_L_0_i (mn := mn) k0 k1 k2 k3 k4 k5 k6 k7 k8 k9 k10 k11 k12 k13 (l4.toInt + 1).toNat k14 k15 (by omega)
set_option maxHeartbeats 4000000 in
theorem y_X9_deeper {v9_42 : Int32} {g9_37 : Nat → Int32} {g9_38 : Nat → Int32} {g9_39 : Nat → Int32} {g9_40 : Nat → Int32} {g9_41 : Nat → Int32} {p1 : Int32} {p2 : Int32} {mn : Int} (k0 : 1 ≤ v9_42.toInt) (k1 : v9_42.toInt ≤ 20001) (k2 : y_R1 v9_42.toInt 0 mn g9_37) (k3 : y_BI v9_42.toInt g9_38) (k4 : y_NI v9_42.toInt g9_39) (k5 : y_BI v9_42.toInt g9_40) (k6 : y_Rg 1024 0 (v9_42.toInt - 1) g9_41) (k7 : 0 ≤ p1.toInt) (k8 : p1.toInt < v9_42.toInt) (k9 : 0 ≤ p2.toInt) (k10 : p2.toInt ≤ mn) (k11 : mn ≤ 1000) (k12 : (g9_39 (Int32.toNatClampNeg p1)).toInt < 16) : y_Ok (f_X9_deeper v9_42 g9_37 g9_38 g9_39 g9_40 g9_41 p1 p2) (fun r => (0 ≤ r.1.toInt) ∧ (r.1.toInt < r.2.1.toInt) ∧ (r.2.1.toInt = v9_42.toInt ∨ r.2.1.toInt = v9_42.toInt + 1 ∧ r.1.toInt = v9_42.toInt) ∧ (y_R1 r.2.1.toInt 0 mn r.2.2.1) ∧ (y_BI r.2.1.toInt r.2.2.2.1) ∧ (y_NI r.2.1.toInt r.2.2.2.2.1) ∧ (y_BI r.2.1.toInt r.2.2.2.2.2.1) ∧ (y_Rg 1024 0 (r.2.1.toInt - 1) r.2.2.2.2.2.2)) := by
  unfold f_X9_deeper
  have e1 : (31 : Int32).toInt = 31 := rfl
  try have e2 := @y_mulR p1 (31 : Int32) 31 rfl (by omega) (by omega)
  try have e3 := @y_add (p1 * (31 : Int32)) p2 (by omega) (by omega)
  have e4 := y_and10 ((p1 * (31 : Int32)) + p2)
  refine y_gd (y_gdI (by omega) (by omega)) ?_
  try have e5 := @y_cl (((p1 * (31 : Int32)) + p2) &&& (1023 : Int32)) (by omega)
  try have e6 := k6.at (Int32.toNatClampNeg (((p1 * (31 : Int32)) + p2) &&& (1023 : Int32))) (by omega)
  refine y_Ok.mono (y_X9_deeper_L_0 (mn := mn) (l4 := (g9_41 (Int32.toNatClampNeg (((p1 * (31 : Int32)) + p2) &&& 1023)))) (by omega) (by omega) (by first | with_reducible assumption | omega | ((with_reducible refine y_Vl ?_ ?_) <;> omega) | ((with_reducible refine y_R1u (by with_reducible assumption) ?_ ?_ ?_) <;> omega) | ((with_reducible refine y_BIu (by with_reducible assumption) ?_ ?_ ?_) <;> omega) | ((with_reducible refine y_NIu (by with_reducible assumption) ?_ ?_ ?_ ?_) <;> omega) | ((with_reducible refine y_Rg_upd (y_Rg.mono (by with_reducible assumption) (Nat.le_refl _) ?_ ?_) ?_ ?_) <;> omega)) (by first | with_reducible assumption | omega | ((with_reducible refine y_Vl ?_ ?_) <;> omega) | ((with_reducible refine y_R1u (by with_reducible assumption) ?_ ?_ ?_) <;> omega) | ((with_reducible refine y_BIu (by with_reducible assumption) ?_ ?_ ?_) <;> omega) | ((with_reducible refine y_NIu (by with_reducible assumption) ?_ ?_ ?_ ?_) <;> omega) | ((with_reducible refine y_Rg_upd (y_Rg.mono (by with_reducible assumption) (Nat.le_refl _) ?_ ?_) ?_ ?_) <;> omega)) (by first | with_reducible assumption | omega | ((with_reducible refine y_Vl ?_ ?_) <;> omega) | ((with_reducible refine y_R1u (by with_reducible assumption) ?_ ?_ ?_) <;> omega) | ((with_reducible refine y_BIu (by with_reducible assumption) ?_ ?_ ?_) <;> omega) | ((with_reducible refine y_NIu (by with_reducible assumption) ?_ ?_ ?_ ?_) <;> omega) | ((with_reducible refine y_Rg_upd (y_Rg.mono (by with_reducible assumption) (Nat.le_refl _) ?_ ?_) ?_ ?_) <;> omega)) (by first | with_reducible assumption | omega | ((with_reducible refine y_Vl ?_ ?_) <;> omega) | ((with_reducible refine y_R1u (by with_reducible assumption) ?_ ?_ ?_) <;> omega) | ((with_reducible refine y_BIu (by with_reducible assumption) ?_ ?_ ?_) <;> omega) | ((with_reducible refine y_NIu (by with_reducible assumption) ?_ ?_ ?_ ?_) <;> omega) | ((with_reducible refine y_Rg_upd (y_Rg.mono (by with_reducible assumption) (Nat.le_refl _) ?_ ?_) ?_ ?_) <;> omega)) (by first | with_reducible assumption | omega | ((with_reducible refine y_Vl ?_ ?_) <;> omega) | ((with_reducible refine y_R1u (by with_reducible assumption) ?_ ?_ ?_) <;> omega) | ((with_reducible refine y_BIu (by with_reducible assumption) ?_ ?_ ?_) <;> omega) | ((with_reducible refine y_NIu (by with_reducible assumption) ?_ ?_ ?_ ?_) <;> omega) | ((with_reducible refine y_Rg_upd (y_Rg.mono (by with_reducible assumption) (Nat.le_refl _) ?_ ?_) ?_ ?_) <;> omega)) (by omega) (by omega) (by omega) (by omega) (by omega) (by omega) (by omega) (by omega) (by omega)) (fun r_t6 h_r_t6 => ?_)
  obtain ⟨h0_r_t6, h1_r_t6, h2_r_t6, h3_r_t6, h4_r_t6, h5_r_t6, h6_r_t6, h7_r_t6⟩ := h_r_t6
  refine ⟨?_, ?_, ?_, ?_, ?_, ?_, ?_, ?_⟩ <;> (first | with_reducible assumption | omega | ((with_reducible refine y_Vl ?_ ?_) <;> omega) | ((with_reducible refine y_R1u (by with_reducible assumption) ?_ ?_ ?_) <;> omega) | ((with_reducible refine y_BIu (by with_reducible assumption) ?_ ?_ ?_) <;> omega) | ((with_reducible refine y_NIu (by with_reducible assumption) ?_ ?_ ?_ ?_) <;> omega) | ((with_reducible refine y_Rg_upd (y_Rg.mono (by with_reducible assumption) (Nat.le_refl _) ?_ ?_) ?_ ?_) <;> omega))
