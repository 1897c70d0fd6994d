set_option maxHeartbeats 4000000 in
theorem y_X1_clear {v1_5 : Int32} {g1_3 : Nat → Int32} {n1_3 : Nat} (k0 : 16 ≤ n1_3) : y_Ok (f_X1_clear v1_5 g1_3 n1_3) (fun r => (r.1.toInt = 1) ∧ (y_RI 1 (-1) 0 r.2)) := by
  unfold f_X1_clear
  have e1 : (0 : Int32).toInt = 0 := rfl
  refine y_gd (y_gdI (by omega) (by omega)) ?_
  have e2 : (1 : Int32).toInt = 1 := rfl
  try have e3 := @y_cl (0 : Int32) (by omega)
  refine y_some ?_
  try dsimp only
  refine ⟨?_, ?_⟩ <;> (first | with_reducible assumption | omega | ((with_reducible refine y_Vl ?_ ?_) <;> omega) | ((with_reducible refine y_Eq_cpy ?_) <;> omega) | ((with_reducible refine y_RIm (by with_reducible assumption) ?_ ?_ ?_) <;> omega) | ((with_reducible refine y_RIu (by with_reducible assumption) ?_ ?_ ?_ ?_ ?_) <;> omega) | ((with_reducible refine y_R1v (by with_reducible assumption) ?_ ?_ ?_ ?_ ?_) <;> omega) | ((with_reducible refine y_R1m (by with_reducible assumption) ?_ ?_ ?_) <;> omega) | ((with_reducible refine y_P_put (by with_reducible assumption) ?_ ?_ ?_ ?_ ?_) <;> omega) | ((with_reducible refine y_PN_put (by with_reducible assumption) ?_ ?_ ?_ ?_ ?_) <;> omega) | ((with_reducible refine y_P1 (by with_reducible assumption) ?_) <;> omega) | (with_reducible exact y_Eq.rf _ _) | (intro zk hzk; have : zk = 0 := (by omega); subst this; rw [y_tn0, y_upd1]; decide))
set_option maxHeartbeats 4000000 in
theorem y_X1_before_L_0_i {g1_0 : Nat → Int32} {n1_0 : Nat} {g1_1 : Nat → Int32} {n1_1 : Nat} {g1_2 : Nat → Int32} {n1_2 : Nat} {l2 : Int32} {v1_5 : Int32} {n1_3 n1_4 : Nat} {mn : Int} (k0 : n1_1 = n1_0) (k1 : n1_2 = n1_0) (k2 : n1_3 = n1_0) (k3 : n1_4 = n1_0) (k4 : 16 ≤ n1_0) (k5 : n1_0 ≤ 40004) (k6 : 1 ≤ v1_5.toInt) (k7 : v1_5.toInt ≤ n1_0) (k8 : v1_5.toInt ≤ 20002) (hpar : y_P v1_5.toInt g1_0) (had : y_R1 v1_5.toInt 0 mn g1_1) (hl0 : (g1_2 0).toInt = 0) : ∀ (m : Nat) {l3 : Int32} {l4 : Int32}, (0 ≤ l3.toInt) → (l3.toInt < v1_5.toInt) → (0 ≤ l4.toInt) → (l4.toInt ≤ 16) → 16 - l4.toInt < m → y_Ok (f_X1_before_L g1_0 n1_0 g1_1 n1_1 g1_2 n1_2 l2 (0, l3, l4)) (fun r => (-1 ≤ r.toInt) ∧ (r.toInt < v1_5.toInt) ∧ (r.toInt = -1 ∨ 0 ≤ l2.toInt ∧ l2.toInt ≤ mn)) := by
  intro m
  induction m with
  | zero => intro l3 l4 k12 k13 k14 k15 hm; exfalso; omega
  | succ m ih =>
    intro l3 l4 k12 k13 k14 k15 hm
    rw [f_X1_before_L]
    refine y_ip rfl ?_
    refine y_if (fun c1 => ?_) (fun c1 => ?_)
    · skip
      have e2 : (16 : Int32).toInt = 16 := rfl
      have c1' := c1
      rw [Int32.le_iff_toInt_le] at c1'
      have e3 : (-1 : Int32).toInt = -1 := rfl
      refine y_some ?_
      try dsimp only
      refine ⟨?_, ?_, ?_⟩ <;> (first | with_reducible assumption | omega | ((with_reducible refine y_Vl ?_ ?_) <;> omega))
    · skip
      have e4 : (16 : Int32).toInt = 16 := rfl
      have c1' := c1
      rw [Int32.le_iff_toInt_le] at c1'
      refine y_gd (y_gdI (by omega) (by omega)) ?_
      refine y_if (fun c5 => ?_) (fun c5 => ?_)
      · skip
        try have e6 := @y_cl l3 (by omega)
        have e7 : (0 : Int32).toInt = 0 := rfl
        have c5' := c5
        rw [Int32.le_iff_toInt_le] at c5'
        have e8 : (-1 : Int32).toInt = -1 := rfl
        refine y_some ?_
        try dsimp only
        refine ⟨?_, ?_, ?_⟩ <;> (first | with_reducible assumption | omega | ((with_reducible refine y_Vl ?_ ?_) <;> omega))
      · skip
        try have e9 := @y_cl l3 (by omega)
        have e10 : (0 : Int32).toInt = 0 := rfl
        have c5' := c5
        rw [Int32.le_iff_toInt_le] at c5'
        have hl3c := @y_cl l3 (by omega)
        have hl3n : ¬ Int32.toNatClampNeg l3 = 0 := y_nz (g := g1_2) hl0 (by omega)
        have hada := had.at (Int32.toNatClampNeg l3) (by omega)
        refine y_gd (y_gdI (by omega) (by omega)) ?_
        refine y_if (fun c11 => ?_) (fun c11 => ?_)
        · skip
          try have e12 := had.at (Int32.toNatClampNeg l3) (by omega)
          have c11' := c11
          rw [← Int32.toInt_inj] at c11'
          refine y_gd (y_gdI (by omega) (by omega)) ?_
          try have e13 := hpar.at (Int32.toNatClampNeg l3) (by omega)
          refine y_some ?_
          try dsimp only
          refine ⟨?_, ?_, ?_⟩ <;> (first | with_reducible assumption | omega | ((with_reducible refine y_Vl ?_ ?_) <;> omega))
        · skip
          try have e14 := had.at (Int32.toNatClampNeg l3) (by omega)
          have c11' := c11
          rw [← Int32.toInt_inj] at c11'
          refine y_gd (y_gdI (by omega) (by omega)) ?_
          try have e15 := hpar.at (Int32.toNatClampNeg l3) (by omega)
          try have e16 := @y_addL l4 (1 : Int32) (1) rfl (by omega) (by omega)
          exact ih (l3 := (g1_0 (Int32.toNatClampNeg l3))) (l4 := (l4 + 1)) (by omega) (by omega) (by omega) (by omega) (by omega)
theorem y_X1_before_L_0 {g1_0 : Nat → Int32} {n1_0 : Nat} {g1_1 : Nat → Int32} {n1_1 : Nat} {g1_2 : Nat → Int32} {n1_2 : Nat} {l2 : Int32} {v1_5 : Int32} {n1_3 n1_4 : Nat} {mn : Int} {l3 : Int32} {l4 : Int32} (k0 : n1_1 = n1_0) (k1 : n1_2 = n1_0) (k2 : n1_3 = n1_0) (k3 : n1_4 = n1_0) (k4 : 16 ≤ n1_0) (k5 : n1_0 ≤ 40004) (k6 : 1 ≤ v1_5.toInt) (k7 : v1_5.toInt ≤ n1_0) (k8 : v1_5.toInt ≤ 20002) (hpar : y_P v1_5.toInt g1_0) (had : y_R1 v1_5.toInt 0 mn g1_1) (hl0 : (g1_2 0).toInt = 0) (k12 : 0 ≤ l3.toInt) (k13 : l3.toInt < v1_5.toInt) (k14 : 0 ≤ l4.toInt) (k15 : l4.toInt ≤ 16) : y_Ok (f_X1_before_L g1_0 n1_0 g1_1 n1_1 g1_2 n1_2 l2 (0, l3, l4)) (fun r => (-1 ≤ r.toInt) ∧ (r.toInt < v1_5.toInt) ∧ (r.toInt = -1 ∨ 0 ≤ l2.toInt ∧ l2.toInt ≤ mn)) := y_X1_before_L_0_i (v1_5 := v1_5) (n1_3 := n1_3) (n1_4 := n1_4) (mn := mn) k0 k1 k2 k3 k4 k5 k6 k7 k8 hpar had hl0 (16 - l4.toInt + 1).toNat k12 k13 k14 k15 (by omega)
set_option maxHeartbeats 4000000 in
theorem y_X1_before {g1_0 : Nat → Int32} {n1_0 : Nat} {g1_1 : Nat → Int32} {n1_1 : Nat} {g1_2 : Nat → Int32} {n1_2 : Nat} {p1 : Int32} {p2 : Int32} {v1_5 : Int32} {n1_3 n1_4 : Nat} {mn : Int} (k0 : n1_1 = n1_0) (k1 : n1_2 = n1_0) (k2 : n1_3 = n1_0) (k3 : n1_4 = n1_0) (k4 : 16 ≤ n1_0) (k5 : n1_0 ≤ 40004) (k6 : 1 ≤ v1_5.toInt) (k7 : v1_5.toInt ≤ n1_0) (k8 : v1_5.toInt ≤ 20002) (hpar : y_P v1_5.toInt g1_0) (had : y_R1 v1_5.toInt 0 mn g1_1) (hl0 : (g1_2 0).toInt = 0) (k12 : 0 ≤ p1.toInt) (k13 : p1.toInt < v1_5.toInt) : y_Ok (f_X1_before g1_0 n1_0 g1_1 n1_1 g1_2 n1_2 p1 p2) (fun r => (-1 ≤ r.toInt) ∧ (r.toInt < v1_5.toInt) ∧ (r.toInt = -1 ∨ 0 ≤ p2.toInt ∧ p2.toInt ≤ mn)) := by
  unfold f_X1_before
  have e1 : (0 : Int32).toInt = 0 := rfl
  refine y_Ok.mono (y_X1_before_L_0 (v1_5 := v1_5) (n1_3 := n1_3) (n1_4 := n1_4) (mn := mn) (l3 := p1) (l4 := 0) (by first | with_reducible assumption | omega | ((with_reducible refine y_Vl ?_ ?_) <;> omega)) (by first | with_reducible assumption | omega | ((with_reducible refine y_Vl ?_ ?_) <;> omega)) (by first | with_reducible assumption | omega | ((with_reducible refine y_Vl ?_ ?_) <;> omega)) (by first | with_reducible assumption | omega | ((with_reducible refine y_Vl ?_ ?_) <;> omega)) (by omega) (by omega) (by omega) (by omega) (by omega) (by first | with_reducible assumption | omega | ((with_reducible refine y_Vl ?_ ?_) <;> omega)) (by first | with_reducible assumption | omega | ((with_reducible refine y_Vl ?_ ?_) <;> omega)) (by omega) (by omega) (by omega) (by omega) (by omega)) (fun r_t1 h_r_t1 => ?_)
  obtain ⟨h0_r_t1, h1_r_t1, h2_r_t1⟩ := h_r_t1
  refine ⟨?_, ?_, ?_⟩ <;> (first | with_reducible assumption | omega | ((with_reducible refine y_Vl ?_ ?_) <;> omega))
set_option maxHeartbeats 4000000 in
theorem y_X1_makeRoom {v1_5 : Int32} {g1_0 : Nat → Int32} {n1_0 : Nat} {g1_1 : Nat → Int32} {n1_1 : Nat} {g1_2 : Nat → Int32} {n1_2 : Nat} {g1_3 : Nat → Int32} {n1_3 : Nat} {g1_4 : Nat → Int32} {n1_4 : Nat} {N : Nat} (k0 : n1_1 = n1_0) (k1 : n1_2 = n1_0) (k2 : n1_3 = n1_0) (k3 : n1_4 = n1_0) (k4 : 16 ≤ n1_0) (k5 : n1_0 ≤ 40004) (k6 : 1 ≤ v1_5.toInt) (k7 : v1_5.toInt ≤ n1_0) (k8 : v1_5.toInt ≤ 20002) (hN : (N : Int) = v1_5.toInt) : y_Ok (f_X1_makeRoom v1_5 g1_0 n1_0 g1_1 n1_1 g1_2 n1_2 g1_3 n1_3 g1_4 n1_4) (fun r => (v1_5.toInt < r.2.1) ∧ (n1_0 ≤ r.2.1) ∧ (r.2.1 ≤ 40004) ∧ (r.2.2.2.1 = r.2.1) ∧ (r.2.2.2.2.2.1 = r.2.1) ∧ (r.2.2.2.2.2.2.2.1 = r.2.1) ∧ (r.2.2.2.2.2.2.2.2.2.1 = r.2.1) ∧ (y_Eq N g1_0 r.1) ∧ (y_Eq N g1_1 r.2.2.1) ∧ (y_Eq N g1_2 r.2.2.2.2.1) ∧ (y_Eq N g1_3 r.2.2.2.2.2.2.1) ∧ (y_Eq N g1_4 r.2.2.2.2.2.2.2.2.1) ∧ (16 * r.2.2.2.2.2.2.2.2.2.2.1 ≤ r.2.2.2.2.2.2.2.2.2.2.2) ∧ (r.2.2.2.2.2.2.2.2.2.2.2 + 10 * n1_0 ≤ 10 * r.2.1)) := by
  unfold f_X1_makeRoom
  refine y_if (fun c1 => ?_) (fun c1 => ?_)
  · skip
    try have e2 := @y_ofNat n1_0 (by omega)
    have c1' := c1
    rw [Int32.le_iff_toInt_le] at c1'
    have e3 : (2 : Int32).toInt = 2 := rfl
    try have e4 := @y_mulL (2 : Int32) v1_5 2 rfl (by omega) (by omega)
    refine y_gd (y_ngI (by omega) (by omega) (by omega)) ?_
    refine y_bt ?_
    refine y_gd (y_ngI (by omega) (by omega) (by omega)) ?_
    refine y_bt ?_
    refine y_gd (y_ngI (by omega) (by omega) (by omega)) ?_
    refine y_bt ?_
    refine y_gd (y_ngI (by omega) (by omega) (by omega)) ?_
    refine y_bt ?_
    refine y_gd (y_ngI (by omega) (by omega) (by omega)) ?_
    refine y_bt ?_
    refine y_some ?_
    try dsimp only
    refine y_some ?_
    try dsimp only
    refine y_some ?_
    try dsimp only
    refine y_some ?_
    try dsimp only
    refine y_some ?_
    try dsimp only
    have e5 : (0 : Int32).toInt = 0 := rfl
    try have e6 := @y_cl (0 : Int32) (by omega)
    try have e7 := @y_cl (Int32.ofNat n1_0) (by omega)
    try have e8 := @y_cl ((2 : Int32) * v1_5) (by omega)
    try have e9 := @y_ofNat n1_1 (by omega)
    try have e10 := @y_cl (Int32.ofNat n1_1) (by omega)
    try have e11 := @y_ofNat n1_2 (by omega)
    try have e12 := @y_cl (Int32.ofNat n1_2) (by omega)
    try have e13 := @y_ofNat n1_3 (by omega)
    try have e14 := @y_cl (Int32.ofNat n1_3) (by omega)
    try have e15 := @y_ofNat n1_4 (by omega)
    try have e16 := @y_cl (Int32.ofNat n1_4) (by omega)
    try have e17 := @y_addL (0 : Int32) (1 : Int32) (1) rfl (by omega) (by omega)
    try have e18 := @y_addL ((0 : Int32) + (1 : Int32)) (1 : Int32) (1) rfl (by omega) (by omega)
    try have e19 := @y_addL (((0 : Int32) + (1 : Int32)) + (1 : Int32)) (1 : Int32) (1) rfl (by omega) (by omega)
    try have e20 := @y_addL ((((0 : Int32) + (1 : Int32)) + (1 : Int32)) + (1 : Int32)) (1 : Int32) (1) rfl (by omega) (by omega)
    try have e21 := @y_addL (((((0 : Int32) + (1 : Int32)) + (1 : Int32)) + (1 : Int32)) + (1 : Int32)) (1 : Int32) (1) rfl (by omega) (by omega)
    try have e22 := @y_add (0 : Int32) (Int32.toNatClampNeg ((2 : Int32) * v1_5)) (by omega) (by omega)
    try have e23 := @y_add ((0 : Int32) + (Int32.toNatClampNeg ((2 : Int32) * v1_5))) (Int32.toNatClampNeg ((2 : Int32) * v1_5)) (by omega) (by omega)
    try have e24 := @y_add (((0 : Int32) + (Int32.toNatClampNeg ((2 : Int32) * v1_5))) + (Int32.toNatClampNeg ((2 : Int32) * v1_5))) (Int32.toNatClampNeg ((2 : Int32) * v1_5)) (by omega) (by omega)
    try have e25 := @y_add ((((0 : Int32) + (Int32.toNatClampNeg ((2 : Int32) * v1_5))) + (Int32.toNatClampNeg ((2 : Int32) * v1_5))) + (Int32.toNatClampNeg ((2 : Int32) * v1_5))) (Int32.toNatClampNeg ((2 : Int32) * v1_5)) (by omega) (by omega)
    try have e26 := @y_add (((((0 : Int32) + (Int32.toNatClampNeg ((2 : Int32) * v1_5))) + (Int32.toNatClampNeg ((2 : Int32) * v1_5))) + (Int32.toNatClampNeg ((2 : Int32) * v1_5))) + (Int32.toNatClampNeg ((2 : Int32) * v1_5))) (Int32.toNatClampNeg ((2 : Int32) * v1_5)) (by omega) (by omega)
    refine y_some ?_
    try dsimp only
    refine ⟨?_, ?_, ?_, ?_, ?_, ?_, ?_, ?_, ?_, ?_, ?_, ?_, ?_, ?_⟩ <;> (first | with_reducible assumption | omega | ((with_reducible refine y_Vl ?_ ?_) <;> omega) | ((with_reducible refine y_Eq_cpy ?_) <;> omega) | ((with_reducible refine y_RIm (by with_reducible assumption) ?_ ?_ ?_) <;> omega) | ((with_reducible refine y_RIu (by with_reducible assumption) ?_ ?_ ?_ ?_ ?_) <;> omega) | ((with_reducible refine y_R1v (by with_reducible assumption) ?_ ?_ ?_ ?_ ?_) <;> omega) | ((with_reducible refine y_R1m (by with_reducible assumption) ?_ ?_ ?_) <;> omega) | ((with_reducible refine y_P_put (by with_reducible assumption) ?_ ?_ ?_ ?_ ?_) <;> omega) | ((with_reducible refine y_PN_put (by with_reducible assumption) ?_ ?_ ?_ ?_ ?_) <;> omega) | ((with_reducible refine y_P1 (by with_reducible assumption) ?_) <;> omega) | (with_reducible exact y_Eq.rf _ _))
  · skip
    try have e27 := @y_ofNat n1_0 (by omega)
    have c1' := c1
    rw [Int32.le_iff_toInt_le] at c1'
    have e28 : (0 : Int32).toInt = 0 := rfl
    refine y_some ?_
    try dsimp only
    refine ⟨?_, ?_, ?_, ?_, ?_, ?_, ?_, ?_, ?_, ?_, ?_, ?_, ?_, ?_⟩ <;> (first | with_reducible assumption | omega | ((with_reducible refine y_Vl ?_ ?_) <;> omega) | ((with_reducible refine y_Eq_cpy ?_) <;> omega) | ((with_reducible refine y_RIm (by with_reducible assumption) ?_ ?_ ?_) <;> omega) | ((with_reducible refine y_RIu (by with_reducible assumption) ?_ ?_ ?_ ?_ ?_) <;> omega) | ((with_reducible refine y_R1v (by with_reducible assumption) ?_ ?_ ?_ ?_ ?_) <;> omega) | ((with_reducible refine y_R1m (by with_reducible assumption) ?_ ?_ ?_) <;> omega) | ((with_reducible refine y_P_put (by with_reducible assumption) ?_ ?_ ?_ ?_ ?_) <;> omega) | ((with_reducible refine y_PN_put (by with_reducible assumption) ?_ ?_ ?_ ?_ ?_) <;> omega) | ((with_reducible refine y_P1 (by with_reducible assumption) ?_) <;> omega) | (with_reducible exact y_Eq.rf _ _))
set_option maxHeartbeats 4000000 in
theorem y_X1_with_L_0_i {l1 : Int32} {l2 : Int32} {v1_5 : Int32} {g1_0 : Nat → Int32} {n1_0 : Nat} {g1_1 : Nat → Int32} {n1_1 : Nat} {g1_2 : Nat → Int32} {n1_2 : Nat} {g1_3 : Nat → Int32} {n1_3 : Nat} {g1_4 : Nat → Int32} {n1_4 : Nat} {mn : Int} (k0 : n1_1 = n1_0) (k1 : n1_2 = n1_0) (k2 : n1_3 = n1_0) (k3 : n1_4 = n1_0) (k4 : 16 ≤ n1_0) (k5 : n1_0 ≤ 40004) (k6 : 1 ≤ v1_5.toInt) (k7 : v1_5.toInt ≤ n1_0) (k8 : v1_5.toInt ≤ 20002) (k9 : v1_5.toInt ≤ 20001) (hpar : y_P v1_5.toInt g1_0) (hfb : y_RI v1_5.toInt (-1) (v1_5.toInt - 1) g1_3) (hnb : y_PN v1_5.toInt g1_4) (had : y_R1 v1_5.toInt 0 mn g1_1) (hl0 : (g1_2 0).toInt = 0) (k15 : 0 ≤ l2.toInt) (k16 : l2.toInt ≤ mn) (k17 : 0 ≤ l1.toInt) (k18 : l1.toInt < v1_5.toInt) : ∀ (m : Nat) {l3 : Int32} {l4 : Int32}, (-1 ≤ l3.toInt) → (l3.toInt < v1_5.toInt) → (0 ≤ l4.toInt) → (l4.toInt ≤ 20002) → 20002 - l4.toInt < m → y_Ok (f_X1_with_L l1 l2 v1_5 g1_0 n1_0 g1_1 n1_1 g1_2 n1_2 g1_3 n1_3 g1_4 n1_4 (0, l3, l4)) (fun r => (0 ≤ r.1.toInt) ∧ (r.1.toInt < r.2.1.toInt) ∧ (v1_5.toInt ≤ r.2.1.toInt) ∧ (r.2.1.toInt ≤ v1_5.toInt + 1) ∧ (r.2.1.toInt = v1_5.toInt ∨ r.1.toInt = v1_5.toInt) ∧ (r.2.1.toInt ≤ r.2.2.2.1) ∧ (n1_0 ≤ r.2.2.2.1) ∧ (r.2.2.2.1 ≤ 40004) ∧ (r.2.2.2.2.2.1 = r.2.2.2.1) ∧ (r.2.2.2.2.2.2.2.1 = r.2.2.2.1) ∧ (r.2.2.2.2.2.2.2.2.2.1 = r.2.2.2.1) ∧ (r.2.2.2.2.2.2.2.2.2.2.2.1 = r.2.2.2.1) ∧ (y_P r.2.1.toInt r.2.2.1) ∧ (y_RI r.2.1.toInt (-1) (r.2.1.toInt - 1) r.2.2.2.2.2.2.2.2.1) ∧ (y_PN r.2.1.toInt r.2.2.2.2.2.2.2.2.2.2.1) ∧ (y_R1 r.2.1.toInt 0 mn r.2.2.2.2.1) ∧ ((r.2.2.2.2.2.2.1 0).toInt = 0) ∧ (16 * r.2.2.2.2.2.2.2.2.2.2.2.2.1 ≤ r.2.2.2.2.2.2.2.2.2.2.2.2.2) ∧ (r.2.2.2.2.2.2.2.2.2.2.2.2.2 + 10 * n1_0 ≤ 10 * r.2.2.2.1)) := by
  intro m
  induction m with
  | zero => intro l3 l4 k19 k20 k21 k22 hm; exfalso; omega
  | succ m ih =>
    intro l3 l4 k19 k20 k21 k22 hm
    have hv15 := @y_cl v1_5 (by omega)
    rw [f_X1_with_L]
    refine y_ip rfl ?_
    refine y_if (fun c1 => ?_) (fun c1 => ?_)
    · skip
      have c1' := c1
      rw [Int32.le_iff_toInt_le] at c1'
      refine y_bi (y_X1_makeRoom (N := v1_5.toNatClampNeg) (by first | with_reducible assumption | omega | ((with_reducible refine y_Vl ?_ ?_) <;> omega) | (rw [y_upd2 (by omega)]; with_reducible assumption) | ((with_reducible refine y_RIu hf3 ?_ ?_ ?_ ?_ ?_) <;> omega) | ((with_reducible refine y_Eq_cpy ?_) <;> omega) | ((with_reducible refine y_RIm (by with_reducible assumption) ?_ ?_ ?_) <;> omega) | ((with_reducible refine y_RIu (by with_reducible assumption) ?_ ?_ ?_ ?_ ?_) <;> omega) | ((with_reducible refine y_R1v (by with_reducible assumption) ?_ ?_ ?_ ?_ ?_) <;> omega) | ((with_reducible refine y_R1m (by with_reducible assumption) ?_ ?_ ?_) <;> omega) | ((with_reducible refine y_P_put (by with_reducible assumption) ?_ ?_ ?_ ?_ ?_) <;> omega) | ((with_reducible refine y_PN_put (by with_reducible assumption) ?_ ?_ ?_ ?_ ?_) <;> omega) | ((with_reducible refine y_P1 (by with_reducible assumption) ?_) <;> omega) | (with_reducible exact y_Eq.rf _ _)) (by first | with_reducible assumption | omega | ((with_reducible refine y_Vl ?_ ?_) <;> omega) | (rw [y_upd2 (by omega)]; with_reducible assumption) | ((with_reducible refine y_RIu hf3 ?_ ?_ ?_ ?_ ?_) <;> omega) | ((with_reducible refine y_Eq_cpy ?_) <;> omega) | ((with_reducible refine y_RIm (by with_reducible assumption) ?_ ?_ ?_) <;> omega) | ((with_reducible refine y_RIu (by with_reducible assumption) ?_ ?_ ?_ ?_ ?_) <;> omega) | ((with_reducible refine y_R1v (by with_reducible assumption) ?_ ?_ ?_ ?_ ?_) <;> omega) | ((with_reducible refine y_R1m (by with_reducible assumption) ?_ ?_ ?_) <;> omega) | ((with_reducible refine y_P_put (by with_reducible assumption) ?_ ?_ ?_ ?_ ?_) <;> omega) | ((with_reducible refine y_PN_put (by with_reducible assumption) ?_ ?_ ?_ ?_ ?_) <;> omega) | ((with_reducible refine y_P1 (by with_reducible assumption) ?_) <;> omega) | (with_reducible exact y_Eq.rf _ _)) (by first | with_reducible assumption | omega | ((with_reducible refine y_Vl ?_ ?_) <;> omega) | (rw [y_upd2 (by omega)]; with_reducible assumption) | ((with_reducible refine y_RIu hf3 ?_ ?_ ?_ ?_ ?_) <;> omega) | ((with_reducible refine y_Eq_cpy ?_) <;> omega) | ((with_reducible refine y_RIm (by with_reducible assumption) ?_ ?_ ?_) <;> omega) | ((with_reducible refine y_RIu (by with_reducible assumption) ?_ ?_ ?_ ?_ ?_) <;> omega) | ((with_reducible refine y_R1v (by with_reducible assumption) ?_ ?_ ?_ ?_ ?_) <;> omega) | ((with_reducible refine y_R1m (by with_reducible assumption) ?_ ?_ ?_) <;> omega) | ((with_reducible refine y_P_put (by with_reducible assumption) ?_ ?_ ?_ ?_ ?_) <;> omega) | ((with_reducible refine y_PN_put (by with_reducible assumption) ?_ ?_ ?_ ?_ ?_) <;> omega) | ((with_reducible refine y_P1 (by with_reducible assumption) ?_) <;> omega) | (with_reducible exact y_Eq.rf _ _)) (by first | with_reducible assumption | omega | ((with_reducible refine y_Vl ?_ ?_) <;> omega) | (rw [y_upd2 (by omega)]; with_reducible assumption) | ((with_reducible refine y_RIu hf3 ?_ ?_ ?_ ?_ ?_) <;> omega) | ((with_reducible refine y_Eq_cpy ?_) <;> omega) | ((with_reducible refine y_RIm (by with_reducible assumption) ?_ ?_ ?_) <;> omega) | ((with_reducible refine y_RIu (by with_reducible assumption) ?_ ?_ ?_ ?_ ?_) <;> omega) | ((with_reducible refine y_R1v (by with_reducible assumption) ?_ ?_ ?_ ?_ ?_) <;> omega) | ((with_reducible refine y_R1m (by with_reducible assumption) ?_ ?_ ?_) <;> omega) | ((with_reducible refine y_P_put (by with_reducible assumption) ?_ ?_ ?_ ?_ ?_) <;> omega) | ((with_reducible refine y_PN_put (by with_reducible assumption) ?_ ?_ ?_ ?_ ?_) <;> omega) | ((with_reducible refine y_P1 (by with_reducible assumption) ?_) <;> omega) | (with_reducible exact y_Eq.rf _ _)) (by omega) (by omega) (by omega) (by omega) (by omega) (by omega)) (fun r_2 h_r_2 => ?_)
      obtain ⟨h0_r_2, h1_r_2, h2_r_2, h3_r_2, h4_r_2, h5_r_2, h6_r_2, h7_r_2, h8_r_2, h9_r_2, h10_r_2, h11_r_2, h12_r_2, h13_r_2⟩ := h_r_2
      have hp2 := y_P_eq hpar h7_r_2 (by omega)
      have hf2 := y_RI_eq hfb h10_r_2 (by omega)
      have hn2 := y_PN_eq hnb h11_r_2 (by omega)
      have ha2 := y_R1_eq had h8_r_2 (by omega)
      have hl2z : (r_2.2.2.2.2.1 0).toInt = 0 := by rw [h9_r_2 0 (by omega)]; exact hl0
      have hv1 := @y_addL v1_5 1 1 rfl (by omega) (by omega)
      have hf3 : y_RI (v1_5 + (1 : Int32)).toInt (-1) v1_5.toInt (upd r_2.2.2.2.2.2.2.1 (Int32.toNatClampNeg v1_5) (-1)) := y_RIn1 hf2 (by omega) (by omega) (by omega) (by omega) (Or.inr ⟨by omega, by omega⟩)
      refine y_bt ?_
      refine y_gd (y_gdI (by omega) (by omega)) ?_
      refine y_gd (y_gdI (by omega) (by omega)) ?_
      refine y_gd (y_gdI (by omega) (by omega)) ?_
      refine y_gd (y_gdI (by omega) (by omega)) ?_
      refine y_gd (y_gdI (by omega) (by omega)) ?_
      refine y_gd (y_gdI (by omega) (by omega)) ?_
      refine y_gd (y_gdI (by omega) (by omega)) ?_
      refine y_gd (y_gdI (by omega) (by omega)) ?_
      refine y_some ?_
      try dsimp only
      try have e2 := @y_addL v1_5 (1 : Int32) (1) rfl (by omega) (by omega)
      try have e3 := @y_cl v1_5 (by omega)
      try have e4 : y_Eq v1_5.toNatClampNeg g1_0 (upd r_2.1 (Int32.toNatClampNeg v1_5) l1) := y_Eq_upd h7_r_2 (by omega)
      try have e6 : y_Eq v1_5.toNatClampNeg g1_1 (upd r_2.2.2.1 (Int32.toNatClampNeg v1_5) l2) := y_Eq_upd h8_r_2 (by omega)
      try have e8 := @y_cl l1 (by omega)
      try have e9 := @y_addL (r_2.2.2.2.2.1 (Int32.toNatClampNeg l1)) (1 : Int32) (1) rfl (by omega) (by omega)
      try have e10 : y_Eq v1_5.toNatClampNeg g1_2 (upd r_2.2.2.2.2.1 (Int32.toNatClampNeg v1_5) ((r_2.2.2.2.2.1 (Int32.toNatClampNeg l1)) + (1 : Int32))) := y_Eq_upd h9_r_2 (by omega)
      try have e11 : y_Eq v1_5.toNatClampNeg g1_3 (upd r_2.2.2.2.2.2.2.1 (Int32.toNatClampNeg v1_5) (-1 : Int32)) := y_Eq_upd h10_r_2 (by omega)
      try have e12 : y_RI v1_5.toInt (-1) (v1_5.toInt - 1) (upd r_2.2.2.2.2.2.2.1 (Int32.toNatClampNeg v1_5) (-1 : Int32)) := y_RIn1 hf2 (by omega) (by omega) (by omega) (by omega) (Or.inl (by omega))
      try have e13 : y_Eq v1_5.toNatClampNeg g1_3 (upd (upd r_2.2.2.2.2.2.2.1 (Int32.toNatClampNeg v1_5) (-1 : Int32)) (Int32.toNatClampNeg l1) v1_5) := y_Eq_upd e11 (by omega)
      try have e14 : y_RI v1_5.toInt (-1) (v1_5.toInt - 1) (upd (upd r_2.2.2.2.2.2.2.1 (Int32.toNatClampNeg v1_5) (-1 : Int32)) (Int32.toNatClampNeg l1) v1_5) := y_RIu e12 (by omega) (by omega) (by omega) (by omega) (Or.inl (by omega))
      try have e15 := e12.at (Int32.toNatClampNeg l1) (by omega)
      try have e16 : y_Eq v1_5.toNatClampNeg g1_4 (upd r_2.2.2.2.2.2.2.2.2.1 (Int32.toNatClampNeg v1_5) ((upd r_2.2.2.2.2.2.2.1 (Int32.toNatClampNeg v1_5) (-1 : Int32)) (Int32.toNatClampNeg l1))) := y_Eq_upd h11_r_2 (by omega)
      have e18 : (0 : Int32).toInt = 0 := rfl
      try have e19 := @y_add (0 : Int32) r_2.2.2.2.2.2.2.2.2.2.2.1 (by omega) (by omega)
      try have e20 := @y_add (0 : Int32) r_2.2.2.2.2.2.2.2.2.2.2.2 (by omega) (by omega)
      refine y_some ?_
      try dsimp only
      refine ⟨?_, ?_, ?_, ?_, ?_, ?_, ?_, ?_, ?_, ?_, ?_, ?_, ?_, ?_, ?_, ?_, ?_, ?_, ?_⟩ <;> (first | with_reducible assumption | omega | ((with_reducible refine y_Vl ?_ ?_) <;> omega) | (rw [y_upd2 (by omega)]; with_reducible assumption) | ((with_reducible refine y_RIu hf3 ?_ ?_ ?_ ?_ ?_) <;> omega) | ((with_reducible refine y_Eq_cpy ?_) <;> omega) | ((with_reducible refine y_RIm (by with_reducible assumption) ?_ ?_ ?_) <;> omega) | ((with_reducible refine y_RIu (by with_reducible assumption) ?_ ?_ ?_ ?_ ?_) <;> omega) | ((with_reducible refine y_R1v (by with_reducible assumption) ?_ ?_ ?_ ?_ ?_) <;> omega) | ((with_reducible refine y_R1m (by with_reducible assumption) ?_ ?_ ?_) <;> omega) | ((with_reducible refine y_P_put (by with_reducible assumption) ?_ ?_ ?_ ?_ ?_) <;> omega) | ((with_reducible refine y_PN_put (by with_reducible assumption) ?_ ?_ ?_ ?_ ?_) <;> omega) | ((with_reducible refine y_P1 (by with_reducible assumption) ?_) <;> omega) | (with_reducible exact y_Eq.rf _ _))
    · skip
      have c1' := c1
      rw [Int32.le_iff_toInt_le] at c1'
      refine y_if (fun c21 => ?_) (fun c21 => ?_)
      · skip
        have c21' : l3.toInt = -1 := (y_eqN rfl).mp c21
        refine y_bi (y_X1_makeRoom (N := v1_5.toNatClampNeg) (by first | with_reducible assumption | omega | ((with_reducible refine y_Vl ?_ ?_) <;> omega) | (rw [y_upd2 (by omega)]; with_reducible assumption) | ((with_reducible refine y_RIu hf3 ?_ ?_ ?_ ?_ ?_) <;> omega) | ((with_reducible refine y_Eq_cpy ?_) <;> omega) | ((with_reducible refine y_RIm (by with_reducible assumption) ?_ ?_ ?_) <;> omega) | ((with_reducible refine y_RIu (by with_reducible assumption) ?_ ?_ ?_ ?_ ?_) <;> omega) | ((with_reducible refine y_R1v (by with_reducible assumption) ?_ ?_ ?_ ?_ ?_) <;> omega) | ((with_reducible refine y_R1m (by with_reducible assumption) ?_ ?_ ?_) <;> omega) | ((with_reducible refine y_P_put (by with_reducible assumption) ?_ ?_ ?_ ?_ ?_) <;> omega) | ((with_reducible refine y_PN_put (by with_reducible assumption) ?_ ?_ ?_ ?_ ?_) <;> omega) | ((with_reducible refine y_P1 (by with_reducible assumption) ?_) <;> omega) | (with_reducible exact y_Eq.rf _ _)) (by first | with_reducible assumption | omega | ((with_reducible refine y_Vl ?_ ?_) <;> omega) | (rw [y_upd2 (by omega)]; with_reducible assumption) | ((with_reducible refine y_RIu hf3 ?_ ?_ ?_ ?_ ?_) <;> omega) | ((with_reducible refine y_Eq_cpy ?_) <;> omega) | ((with_reducible refine y_RIm (by with_reducible assumption) ?_ ?_ ?_) <;> omega) | ((with_reducible refine y_RIu (by with_reducible assumption) ?_ ?_ ?_ ?_ ?_) <;> omega) | ((with_reducible refine y_R1v (by with_reducible assumption) ?_ ?_ ?_ ?_ ?_) <;> omega) | ((with_reducible refine y_R1m (by with_reducible assumption) ?_ ?_ ?_) <;> omega) | ((with_reducible refine y_P_put (by with_reducible assumption) ?_ ?_ ?_ ?_ ?_) <;> omega) | ((with_reducible refine y_PN_put (by with_reducible assumption) ?_ ?_ ?_ ?_ ?_) <;> omega) | ((with_reducible refine y_P1 (by with_reducible assumption) ?_) <;> omega) | (with_reducible exact y_Eq.rf _ _)) (by first | with_reducible assumption | omega | ((with_reducible refine y_Vl ?_ ?_) <;> omega) | (rw [y_upd2 (by omega)]; with_reducible assumption) | ((with_reducible refine y_RIu hf3 ?_ ?_ ?_ ?_ ?_) <;> omega) | ((with_reducible refine y_Eq_cpy ?_) <;> omega) | ((with_reducible refine y_RIm (by with_reducible assumption) ?_ ?_ ?_) <;> omega) | ((with_reducible refine y_RIu (by with_reducible assumption) ?_ ?_ ?_ ?_ ?_) <;> omega) | ((with_reducible refine y_R1v (by with_reducible assumption) ?_ ?_ ?_ ?_ ?_) <;> omega) | ((with_reducible refine y_R1m (by with_reducible assumption) ?_ ?_ ?_) <;> omega) | ((with_reducible refine y_P_put (by with_reducible assumption) ?_ ?_ ?_ ?_ ?_) <;> omega) | ((with_reducible refine y_PN_put (by with_reducible assumption) ?_ ?_ ?_ ?_ ?_) <;> omega) | ((with_reducible refine y_P1 (by with_reducible assumption) ?_) <;> omega) | (with_reducible exact y_Eq.rf _ _)) (by first | with_reducible assumption | omega | ((with_reducible refine y_Vl ?_ ?_) <;> omega) | (rw [y_upd2 (by omega)]; with_reducible assumption) | ((with_reducible refine y_RIu hf3 ?_ ?_ ?_ ?_ ?_) <;> omega) | ((with_reducible refine y_Eq_cpy ?_) <;> omega) | ((with_reducible refine y_RIm (by with_reducible assumption) ?_ ?_ ?_) <;> omega) | ((with_reducible refine y_RIu (by with_reducible assumption) ?_ ?_ ?_ ?_ ?_) <;> omega) | ((with_reducible refine y_R1v (by with_reducible assumption) ?_ ?_ ?_ ?_ ?_) <;> omega) | ((with_reducible refine y_R1m (by with_reducible assumption) ?_ ?_ ?_) <;> omega) | ((with_reducible refine y_P_put (by with_reducible assumption) ?_ ?_ ?_ ?_ ?_) <;> omega) | ((with_reducible refine y_PN_put (by with_reducible assumption) ?_ ?_ ?_ ?_ ?_) <;> omega) | ((with_reducible refine y_P1 (by with_reducible assumption) ?_) <;> omega) | (with_reducible exact y_Eq.rf _ _)) (by omega) (by omega) (by omega) (by omega) (by omega) (by omega)) (fun r_13 h_r_13 => ?_)
        obtain ⟨h0_r_13, h1_r_13, h2_r_13, h3_r_13, h4_r_13, h5_r_13, h6_r_13, h7_r_13, h8_r_13, h9_r_13, h10_r_13, h11_r_13, h12_r_13, h13_r_13⟩ := h_r_13
        have hp2 := y_P_eq hpar h7_r_13 (by omega)
        have hf2 := y_RI_eq hfb h10_r_13 (by omega)
        have hn2 := y_PN_eq hnb h11_r_13 (by omega)
        have ha2 := y_R1_eq had h8_r_13 (by omega)
        have hl2z : (r_13.2.2.2.2.1 0).toInt = 0 := by rw [h9_r_13 0 (by omega)]; exact hl0
        have hv1 := @y_addL v1_5 1 1 rfl (by omega) (by omega)
        have hf3 : y_RI (v1_5 + (1 : Int32)).toInt (-1) v1_5.toInt (upd r_13.2.2.2.2.2.2.1 (Int32.toNatClampNeg v1_5) (-1)) := y_RIn1 hf2 (by omega) (by omega) (by omega) (by omega) (Or.inr ⟨by omega, by omega⟩)
        refine y_bt ?_
        refine y_gd (y_gdI (by omega) (by omega)) ?_
        refine y_gd (y_gdI (by omega) (by omega)) ?_
        refine y_gd (y_gdI (by omega) (by omega)) ?_
        refine y_gd (y_gdI (by omega) (by omega)) ?_
        refine y_gd (y_gdI (by omega) (by omega)) ?_
        refine y_gd (y_gdI (by omega) (by omega)) ?_
        refine y_gd (y_gdI (by omega) (by omega)) ?_
        refine y_gd (y_gdI (by omega) (by omega)) ?_
        refine y_some ?_
        try dsimp only
        try have e22 := @y_addL v1_5 (1 : Int32) (1) rfl (by omega) (by omega)
        try have e23 := @y_cl v1_5 (by omega)
        try have e24 : y_Eq v1_5.toNatClampNeg g1_0 (upd r_13.1 (Int32.toNatClampNeg v1_5) l1) := y_Eq_upd h7_r_13 (by omega)
        try have e26 : y_Eq v1_5.toNatClampNeg g1_1 (upd r_13.2.2.1 (Int32.toNatClampNeg v1_5) l2) := y_Eq_upd h8_r_13 (by omega)
        try have e28 := @y_cl l1 (by omega)
        try have e29 := @y_addL (r_13.2.2.2.2.1 (Int32.toNatClampNeg l1)) (1 : Int32) (1) rfl (by omega) (by omega)
        try have e30 : y_Eq v1_5.toNatClampNeg g1_2 (upd r_13.2.2.2.2.1 (Int32.toNatClampNeg v1_5) ((r_13.2.2.2.2.1 (Int32.toNatClampNeg l1)) + (1 : Int32))) := y_Eq_upd h9_r_13 (by omega)
        try have e31 : y_Eq v1_5.toNatClampNeg g1_3 (upd r_13.2.2.2.2.2.2.1 (Int32.toNatClampNeg v1_5) (-1 : Int32)) := y_Eq_upd h10_r_13 (by omega)
        try have e32 : y_RI v1_5.toInt (-1) (v1_5.toInt - 1) (upd r_13.2.2.2.2.2.2.1 (Int32.toNatClampNeg v1_5) (-1 : Int32)) := y_RIn1 hf2 (by omega) (by omega) (by omega) (by omega) (Or.inl (by omega))
        try have e33 : y_Eq v1_5.toNatClampNeg g1_3 (upd (upd r_13.2.2.2.2.2.2.1 (Int32.toNatClampNeg v1_5) (-1 : Int32)) (Int32.toNatClampNeg l1) v1_5) := y_Eq_upd e31 (by omega)
        try have e34 : y_RI v1_5.toInt (-1) (v1_5.toInt - 1) (upd (upd r_13.2.2.2.2.2.2.1 (Int32.toNatClampNeg v1_5) (-1 : Int32)) (Int32.toNatClampNeg l1) v1_5) := y_RIu e32 (by omega) (by omega) (by omega) (by omega) (Or.inl (by omega))
        try have e35 := e32.at (Int32.toNatClampNeg l1) (by omega)
        try have e36 : y_Eq v1_5.toNatClampNeg g1_4 (upd r_13.2.2.2.2.2.2.2.2.1 (Int32.toNatClampNeg v1_5) ((upd r_13.2.2.2.2.2.2.1 (Int32.toNatClampNeg v1_5) (-1 : Int32)) (Int32.toNatClampNeg l1))) := y_Eq_upd h11_r_13 (by omega)
        have e38 : (0 : Int32).toInt = 0 := rfl
        try have e39 := @y_add (0 : Int32) r_13.2.2.2.2.2.2.2.2.2.2.1 (by omega) (by omega)
        try have e40 := @y_add (0 : Int32) r_13.2.2.2.2.2.2.2.2.2.2.2 (by omega) (by omega)
        refine y_some ?_
        try dsimp only
        refine ⟨?_, ?_, ?_, ?_, ?_, ?_, ?_, ?_, ?_, ?_, ?_, ?_, ?_, ?_, ?_, ?_, ?_, ?_, ?_⟩ <;> (first | with_reducible assumption | omega | ((with_reducible refine y_Vl ?_ ?_) <;> omega) | (rw [y_upd2 (by omega)]; with_reducible assumption) | ((with_reducible refine y_RIu hf3 ?_ ?_ ?_ ?_ ?_) <;> omega) | ((with_reducible refine y_Eq_cpy ?_) <;> omega) | ((with_reducible refine y_RIm (by with_reducible assumption) ?_ ?_ ?_) <;> omega) | ((with_reducible refine y_RIu (by with_reducible assumption) ?_ ?_ ?_ ?_ ?_) <;> omega) | ((with_reducible refine y_R1v (by with_reducible assumption) ?_ ?_ ?_ ?_ ?_) <;> omega) | ((with_reducible refine y_R1m (by with_reducible assumption) ?_ ?_ ?_) <;> omega) | ((with_reducible refine y_P_put (by with_reducible assumption) ?_ ?_ ?_ ?_ ?_) <;> omega) | ((with_reducible refine y_PN_put (by with_reducible assumption) ?_ ?_ ?_ ?_ ?_) <;> omega) | ((with_reducible refine y_P1 (by with_reducible assumption) ?_) <;> omega) | (with_reducible exact y_Eq.rf _ _))
      · skip
        have c21' : ¬ l3.toInt = -1 := fun hz => c21 ((y_eqN rfl).mpr hz)
        refine y_gd (y_gdI (by omega) (by omega)) ?_
        refine y_if (fun c41 => ?_) (fun c41 => ?_)
        · skip
          try have e42 := @y_cl l3 (by omega)
          try have e43 := had.at (Int32.toNatClampNeg l3) (by omega)
          have c41' := c41
          rw [← Int32.toInt_inj] at c41'
          have e44 : (0 : Int32).toInt = 0 := rfl
          refine y_some ?_
          try dsimp only
          refine ⟨?_, ?_, ?_, ?_, ?_, ?_, ?_, ?_, ?_, ?_, ?_, ?_, ?_, ?_, ?_, ?_, ?_, ?_, ?_⟩ <;> (first | with_reducible assumption | omega | ((with_reducible refine y_Vl ?_ ?_) <;> omega) | (rw [y_upd2 (by omega)]; with_reducible assumption) | ((with_reducible refine y_RIu hf3 ?_ ?_ ?_ ?_ ?_) <;> omega) | ((with_reducible refine y_Eq_cpy ?_) <;> omega) | ((with_reducible refine y_RIm (by with_reducible assumption) ?_ ?_ ?_) <;> omega) | ((with_reducible refine y_RIu (by with_reducible assumption) ?_ ?_ ?_ ?_ ?_) <;> omega) | ((with_reducible refine y_R1v (by with_reducible assumption) ?_ ?_ ?_ ?_ ?_) <;> omega) | ((with_reducible refine y_R1m (by with_reducible assumption) ?_ ?_ ?_) <;> omega) | ((with_reducible refine y_P_put (by with_reducible assumption) ?_ ?_ ?_ ?_ ?_) <;> omega) | ((with_reducible refine y_PN_put (by with_reducible assumption) ?_ ?_ ?_ ?_ ?_) <;> omega) | ((with_reducible refine y_P1 (by with_reducible assumption) ?_) <;> omega) | (with_reducible exact y_Eq.rf _ _))
        · skip
          try have e45 := @y_cl l3 (by omega)
          try have e46 := had.at (Int32.toNatClampNeg l3) (by omega)
          have c41' := c41
          rw [← Int32.toInt_inj] at c41'
          refine y_gd (y_gdI (by omega) (by omega)) ?_
          try have e47 := hnb.at (Int32.toNatClampNeg l3) (by omega)
          try have e48 := @y_addL l4 (1 : Int32) (1) rfl (by omega) (by omega)
          exact ih (l3 := (g1_4 (Int32.toNatClampNeg l3))) (l4 := (l4 + 1)) (by omega) (by omega) (by omega) (by omega) (by omega)
theorem y_X1_with_L_0 {l1 : Int32} {l2 : Int32} {v1_5 : Int32} {g1_0 : Nat → Int32} {n1_0 : Nat} {g1_1 : Nat → Int32} {n1_1 : Nat} {g1_2 : Nat → Int32} {n1_2 : Nat} {g1_3 : Nat → Int32} {n1_3 : Nat} {g1_4 : Nat → Int32} {n1_4 : Nat} {mn : Int} {l3 : Int32} {l4 : Int32} (k0 : n1_1 = n1_0) (k1 : n1_2 = n1_0) (k2 : n1_3 = n1_0) (k3 : n1_4 = n1_0) (k4 : 16 ≤ n1_0) (k5 : n1_0 ≤ 40004) (k6 : 1 ≤ v1_5.toInt) (k7 : v1_5.toInt ≤ n1_0) (k8 : v1_5.toInt ≤ 20002) (k9 : v1_5.toInt ≤ 20001) (hpar : y_P v1_5.toInt g1_0) (hfb : y_RI v1_5.toInt (-1) (v1_5.toInt - 1) g1_3) (hnb : y_PN v1_5.toInt g1_4) (had : y_R1 v1_5.toInt 0 mn g1_1) (hl0 : (g1_2 0).toInt = 0) (k15 : 0 ≤ l2.toInt) (k16 : l2.toInt ≤ mn) (k17 : 0 ≤ l1.toInt) (k18 : l1.toInt < v1_5.toInt) (k19 : -1 ≤ l3.toInt) (k20 : l3.toInt < v1_5.toInt) (k21 : 0 ≤ l4.toInt) (k22 : l4.toInt ≤ 20002) : y_Ok (f_X1_with_L l1 l2 v1_5 g1_0 n1_0 g1_1 n1_1 g1_2 n1_2 g1_3 n1_3 g1_4 n1_4 (0, l3, l4)) (fun r => (0 ≤ r.1.toInt) ∧ (r.1.toInt < r.2.1.toInt) ∧ (v1_5.toInt ≤ r.2.1.toInt) ∧ (r.2.1.toInt ≤ v1_5.toInt + 1) ∧ (r.2.1.toInt = v1_5.toInt ∨ r.1.toInt = v1_5.toInt) ∧ (r.2.1.toInt ≤ r.2.2.2.1) ∧ (n1_0 ≤ r.2.2.2.1) ∧ (r.2.2.2.1 ≤ 40004) ∧ (r.2.2.2.2.2.1 = r.2.2.2.1) ∧ (r.2.2.2.2.2.2.2.1 = r.2.2.2.1) ∧ (r.2.2.2.2.2.2.2.2.2.1 = r.2.2.2.1) ∧ (r.2.2.2.2.2.2.2.2.2.2.2.1 = r.2.2.2.1) ∧ (y_P r.2.1.toInt r.2.2.1) ∧ (y_RI r.2.1.toInt (-1) (r.2.1.toInt - 1) r.2.2.2.2.2.2.2.2.1) ∧ (y_PN r.2.1.toInt r.2.2.2.2.2.2.2.2.2.2.1) ∧ (y_R1 r.2.1.toInt 0 mn r.2.2.2.2.1) ∧ ((r.2.2.2.2.2.2.1 0).toInt = 0) ∧ (16 * r.2.2.2.2.2.2.2.2.2.2.2.2.1 ≤ r.2.2.2.2.2.2.2.2.2.2.2.2.2) ∧ (r.2.2.2.2.2.2.2.2.2.2.2.2.2 + 10 * n1_0 ≤ 10 * r.2.2.2.1)) := y_X1_with_L_0_i (mn := mn) k0 k1 k2 k3 k4 k5 k6 k7 k8 k9 hpar hfb hnb had hl0 k15 k16 k17 k18 (20002 - l4.toInt + 1).toNat k19 k20 k21 k22 (by omega)
set_option maxHeartbeats 4000000 in
theorem y_X1_with {v1_5 : Int32} {g1_0 : Nat → Int32} {n1_0 : Nat} {g1_1 : Nat → Int32} {n1_1 : Nat} {g1_2 : Nat → Int32} {n1_2 : Nat} {g1_3 : Nat → Int32} {n1_3 : Nat} {g1_4 : Nat → Int32} {n1_4 : Nat} {p1 : Int32} {p2 : Int32} {mn : Int} (k0 : n1_1 = n1_0) (k1 : n1_2 = n1_0) (k2 : n1_3 = n1_0) (k3 : n1_4 = n1_0) (k4 : 16 ≤ n1_0) (k5 : n1_0 ≤ 40004) (k6 : 1 ≤ v1_5.toInt) (k7 : v1_5.toInt ≤ n1_0) (k8 : v1_5.toInt ≤ 20002) (k9 : v1_5.toInt ≤ 20001) (hpar : y_P v1_5.toInt g1_0) (hfb : y_RI v1_5.toInt (-1) (v1_5.toInt - 1) g1_3) (hnb : y_PN v1_5.toInt g1_4) (had : y_R1 v1_5.toInt 0 mn g1_1) (hl0 : (g1_2 0).toInt = 0) (k15 : 0 ≤ p2.toInt) (k16 : p2.toInt ≤ mn) (k17 : 0 ≤ p1.toInt) (k18 : p1.toInt < v1_5.toInt) : y_Ok (f_X1_with v1_5 g1_0 n1_0 g1_1 n1_1 g1_2 n1_2 g1_3 n1_3 g1_4 n1_4 p1 p2) (fun r => (0 ≤ r.1.toInt) ∧ (r.1.toInt < r.2.1.toInt) ∧ (v1_5.toInt ≤ r.2.1.toInt) ∧ (r.2.1.toInt ≤ v1_5.toInt + 1) ∧ (r.2.1.toInt = v1_5.toInt ∨ r.1.toInt = v1_5.toInt) ∧ (r.2.1.toInt ≤ r.2.2.2.1) ∧ (n1_0 ≤ r.2.2.2.1) ∧ (r.2.2.2.1 ≤ 40004) ∧ (r.2.2.2.2.2.1 = r.2.2.2.1) ∧ (r.2.2.2.2.2.2.2.1 = r.2.2.2.1) ∧ (r.2.2.2.2.2.2.2.2.2.1 = r.2.2.2.1) ∧ (r.2.2.2.2.2.2.2.2.2.2.2.1 = r.2.2.2.1) ∧ (y_P r.2.1.toInt r.2.2.1) ∧ (y_RI r.2.1.toInt (-1) (r.2.1.toInt - 1) r.2.2.2.2.2.2.2.2.1) ∧ (y_PN r.2.1.toInt r.2.2.2.2.2.2.2.2.2.2.1) ∧ (y_R1 r.2.1.toInt 0 mn r.2.2.2.2.1) ∧ ((r.2.2.2.2.2.2.1 0).toInt = 0) ∧ (16 * r.2.2.2.2.2.2.2.2.2.2.2.2.1 ≤ r.2.2.2.2.2.2.2.2.2.2.2.2.2) ∧ (r.2.2.2.2.2.2.2.2.2.2.2.2.2 + 10 * n1_0 ≤ 10 * r.2.2.2.1)) := by
  unfold f_X1_with
  refine y_gd (y_gdI (by omega) (by omega)) ?_
  try have e1 := @y_cl p1 (by omega)
  try have e2 := hfb.at (Int32.toNatClampNeg p1) (by omega)
  have e3 : (0 : Int32).toInt = 0 := rfl
  refine y_Ok.mono (y_X1_with_L_0 (mn := mn) (l3 := (g1_3 (Int32.toNatClampNeg p1))) (l4 := 0) (by first | with_reducible assumption | omega | ((with_reducible refine y_Vl ?_ ?_) <;> omega) | ((with_reducible refine y_Eq_cpy ?_) <;> omega) | ((with_reducible refine y_RIm (by with_reducible assumption) ?_ ?_ ?_) <;> omega) | ((with_reducible refine y_RIu (by with_reducible assumption) ?_ ?_ ?_ ?_ ?_) <;> omega) | ((with_reducible refine y_R1v (by with_reducible assumption) ?_ ?_ ?_ ?_ ?_) <;> omega) | ((with_reducible refine y_R1m (by with_reducible assumption) ?_ ?_ ?_) <;> omega) | ((with_reducible refine y_P_put (by with_reducible assumption) ?_ ?_ ?_ ?_ ?_) <;> omega) | ((with_reducible refine y_PN_put (by with_reducible assumption) ?_ ?_ ?_ ?_ ?_) <;> omega) | ((with_reducible refine y_P1 (by with_reducible assumption) ?_) <;> omega) | (with_reducible exact y_Eq.rf _ _)) (by first | with_reducible assumption | omega | ((with_reducible refine y_Vl ?_ ?_) <;> omega) | ((with_reducible refine y_Eq_cpy ?_) <;> omega) | ((with_reducible refine y_RIm (by with_reducible assumption) ?_ ?_ ?_) <;> omega) | ((with_reducible refine y_RIu (by with_reducible assumption) ?_ ?_ ?_ ?_ ?_) <;> omega) | ((with_reducible refine y_R1v (by with_reducible assumption) ?_ ?_ ?_ ?_ ?_) <;> omega) | ((with_reducible refine y_R1m (by with_reducible assumption) ?_ ?_ ?_) <;> omega) | ((with_reducible refine y_P_put (by with_reducible assumption) ?_ ?_ ?_ ?_ ?_) <;> omega) | ((with_reducible refine y_PN_put (by with_reducible assumption) ?_ ?_ ?_ ?_ ?_) <;> omega) | ((with_reducible refine y_P1 (by with_reducible assumption) ?_) <;> omega) | (with_reducible exact y_Eq.rf _ _)) (by first | with_reducible assumption | omega | ((with_reducible refine y_Vl ?_ ?_) <;> omega) | ((with_reducible refine y_Eq_cpy ?_) <;> omega) | ((with_reducible refine y_RIm (by with_reducible assumption) ?_ ?_ ?_) <;> omega) | ((with_reducible refine y_RIu (by with_reducible assumption) ?_ ?_ ?_ ?_ ?_) <;> omega) | ((with_reducible refine y_R1v (by with_reducible assumption) ?_ ?_ ?_ ?_ ?_) <;> omega) | ((with_reducible refine y_R1m (by with_reducible assumption) ?_ ?_ ?_) <;> omega) | ((with_reducible refine y_P_put (by with_reducible assumption) ?_ ?_ ?_ ?_ ?_) <;> omega) | ((with_reducible refine y_PN_put (by with_reducible assumption) ?_ ?_ ?_ ?_ ?_) <;> omega) | ((with_reducible refine y_P1 (by with_reducible assumption) ?_) <;> omega) | (with_reducible exact y_Eq.rf _ _)) (by first | with_reducible assumption | omega | ((with_reducible refine y_Vl ?_ ?_) <;> omega) | ((with_reducible refine y_Eq_cpy ?_) <;> omega) | ((with_reducible refine y_RIm (by with_reducible assumption) ?_ ?_ ?_) <;> omega) | ((with_reducible refine y_RIu (by with_reducible assumption) ?_ ?_ ?_ ?_ ?_) <;> omega) | ((with_reducible refine y_R1v (by with_reducible assumption) ?_ ?_ ?_ ?_ ?_) <;> omega) | ((with_reducible refine y_R1m (by with_reducible assumption) ?_ ?_ ?_) <;> omega) | ((with_reducible refine y_P_put (by with_reducible assumption) ?_ ?_ ?_ ?_ ?_) <;> omega) | ((with_reducible refine y_PN_put (by with_reducible assumption) ?_ ?_ ?_ ?_ ?_) <;> omega) | ((with_reducible refine y_P1 (by with_reducible assumption) ?_) <;> omega) | (with_reducible exact y_Eq.rf _ _)) (by omega) (by omega) (by omega) (by omega) (by omega) (by omega) (by first | with_reducible assumption | omega | ((with_reducible refine y_Vl ?_ ?_) <;> omega) | ((with_reducible refine y_Eq_cpy ?_) <;> omega) | ((with_reducible refine y_RIm (by with_reducible assumption) ?_ ?_ ?_) <;> omega) | ((with_reducible refine y_RIu (by with_reducible assumption) ?_ ?_ ?_ ?_ ?_) <;> omega) | ((with_reducible refine y_R1v (by with_reducible assumption) ?_ ?_ ?_ ?_ ?_) <;> omega) | ((with_reducible refine y_R1m (by with_reducible assumption) ?_ ?_ ?_) <;> omega) | ((with_reducible refine y_P_put (by with_reducible assumption) ?_ ?_ ?_ ?_ ?_) <;> omega) | ((with_reducible refine y_PN_put (by with_reducible assumption) ?_ ?_ ?_ ?_ ?_) <;> omega) | ((with_reducible refine y_P1 (by with_reducible assumption) ?_) <;> omega) | (with_reducible exact y_Eq.rf _ _)) (by first | with_reducible assumption | omega | ((with_reducible refine y_Vl ?_ ?_) <;> omega) | ((with_reducible refine y_Eq_cpy ?_) <;> omega) | ((with_reducible refine y_RIm (by with_reducible assumption) ?_ ?_ ?_) <;> omega) | ((with_reducible refine y_RIu (by with_reducible assumption) ?_ ?_ ?_ ?_ ?_) <;> omega) | ((with_reducible refine y_R1v (by with_reducible assumption) ?_ ?_ ?_ ?_ ?_) <;> omega) | ((with_reducible refine y_R1m (by with_reducible assumption) ?_ ?_ ?_) <;> omega) | ((with_reducible refine y_P_put (by with_reducible assumption) ?_ ?_ ?_ ?_ ?_) <;> omega) | ((with_reducible refine y_PN_put (by with_reducible assumption) ?_ ?_ ?_ ?_ ?_) <;> omega) | ((with_reducible refine y_P1 (by with_reducible assumption) ?_) <;> omega) | (with_reducible exact y_Eq.rf _ _)) (by first | with_reducible assumption | omega | ((with_reducible refine y_Vl ?_ ?_) <;> omega) | ((with_reducible refine y_Eq_cpy ?_) <;> omega) | ((with_reducible refine y_RIm (by with_reducible assumption) ?_ ?_ ?_) <;> omega) | ((with_reducible refine y_RIu (by with_reducible assumption) ?_ ?_ ?_ ?_ ?_) <;> omega) | ((with_reducible refine y_R1v (by with_reducible assumption) ?_ ?_ ?_ ?_ ?_) <;> omega) | ((with_reducible refine y_R1m (by with_reducible assumption) ?_ ?_ ?_) <;> omega) | ((with_reducible refine y_P_put (by with_reducible assumption) ?_ ?_ ?_ ?_ ?_) <;> omega) | ((with_reducible refine y_PN_put (by with_reducible assumption) ?_ ?_ ?_ ?_ ?_) <;> omega) | ((with_reducible refine y_P1 (by with_reducible assumption) ?_) <;> omega) | (with_reducible exact y_Eq.rf _ _)) (by first | with_reducible assumption | omega | ((with_reducible refine y_Vl ?_ ?_) <;> omega) | ((with_reducible refine y_Eq_cpy ?_) <;> omega) | ((with_reducible refine y_RIm (by with_reducible assumption) ?_ ?_ ?_) <;> omega) | ((with_reducible refine y_RIu (by with_reducible assumption) ?_ ?_ ?_ ?_ ?_) <;> omega) | ((with_reducible refine y_R1v (by with_reducible assumption) ?_ ?_ ?_ ?_ ?_) <;> omega) | ((with_reducible refine y_R1m (by with_reducible assumption) ?_ ?_ ?_) <;> omega) | ((with_reducible refine y_P_put (by with_reducible assumption) ?_ ?_ ?_ ?_ ?_) <;> omega) | ((with_reducible refine y_PN_put (by with_reducible assumption) ?_ ?_ ?_ ?_ ?_) <;> omega) | ((with_reducible refine y_P1 (by with_reducible assumption) ?_) <;> omega) | (with_reducible exact y_Eq.rf _ _)) (by omega) (by omega) (by omega) (by omega) (by omega) (by omega) (by omega) (by omega) (by omega)) (fun r_t3 h_r_t3 => ?_)
  obtain ⟨h0_r_t3, h1_r_t3, h2_r_t3, h3_r_t3, h4_r_t3, h5_r_t3, h6_r_t3, h7_r_t3, h8_r_t3, h9_r_t3, h10_r_t3, h11_r_t3, h12_r_t3, h13_r_t3, h14_r_t3, h15_r_t3, h16_r_t3, h17_r_t3, h18_r_t3⟩ := h_r_t3
  refine ⟨?_, ?_, ?_, ?_, ?_, ?_, ?_, ?_, ?_, ?_, ?_, ?_, ?_, ?_, ?_, ?_, ?_, ?_, ?_⟩ <;> (first | with_reducible assumption | omega | ((with_reducible refine y_Vl ?_ ?_) <;> omega) | ((with_reducible refine y_Eq_cpy ?_) <;> omega) | ((with_reducible refine y_RIm (by with_reducible assumption) ?_ ?_ ?_) <;> omega) | ((with_reducible refine y_RIu (by with_reducible assumption) ?_ ?_ ?_ ?_ ?_) <;> omega) | ((with_reducible refine y_R1v (by with_reducible assumption) ?_ ?_ ?_ ?_ ?_) <;> omega) | ((with_reducible refine y_R1m (by with_reducible assumption) ?_ ?_ ?_) <;> omega) | ((with_reducible refine y_P_put (by with_reducible assumption) ?_ ?_ ?_ ?_ ?_) <;> omega) | ((with_reducible refine y_PN_put (by with_reducible assumption) ?_ ?_ ?_ ?_ ?_) <;> omega) | ((with_reducible refine y_P1 (by with_reducible assumption) ?_) <;> omega) | (with_reducible exact y_Eq.rf _ _))
set_option maxHeartbeats 4000000 in
theorem y_X1_addressAt_L_0_i {g1_0 : Nat → Int32} {n1_0 : Nat} {g1_1 : Nat → Int32} {n1_1 : Nat} {g1_2 : Nat → Int32} {n1_2 : Nat} {l2 : Int32} {v1_5 : Int32} {n1_3 n1_4 : Nat} (k0 : n1_1 = n1_0) (k1 : n1_2 = n1_0) (k2 : n1_3 = n1_0) (k3 : n1_4 = n1_0) (k4 : 16 ≤ n1_0) (k5 : n1_0 ≤ 40004) (k6 : 1 ≤ v1_5.toInt) (k7 : v1_5.toInt ≤ n1_0) (k8 : v1_5.toInt ≤ 20002) (hpar : y_P v1_5.toInt g1_0) : ∀ (m : Nat) {l3 : Int32} {l4 : Int32}, (0 ≤ l3.toInt) → (l3.toInt < v1_5.toInt) → (0 ≤ l4.toInt) → (l4.toInt ≤ 16) → 16 - l4.toInt < m → y_Ok (f_X1_addressAt_L g1_0 n1_0 g1_1 n1_1 g1_2 n1_2 l2 (0, l3, l4)) (fun r => (True)) := by
  intro m
  induction m with
  | zero => intro l3 l4 k10 k11 k12 k13 hm; exfalso; omega
  | succ m ih =>
    intro l3 l4 k10 k11 k12 k13 hm
    rw [f_X1_addressAt_L]
    refine y_ip rfl ?_
    refine y_if (fun c1 => ?_) (fun c1 => ?_)
    · skip
      have e2 : (16 : Int32).toInt = 16 := rfl
      have c1' := c1
      rw [Int32.le_iff_toInt_le] at c1'
      refine y_gd (y_gdI (by omega) (by omega)) ?_
      try have e3 := @y_cl l3 (by omega)
      exact y_some trivial
    · skip
      have e4 : (16 : Int32).toInt = 16 := rfl
      have c1' := c1
      rw [Int32.le_iff_toInt_le] at c1'
      refine y_gd (y_gdI (by omega) (by omega)) ?_
      refine y_if (fun c5 => ?_) (fun c5 => ?_)
      · skip
        try have e6 := @y_cl l3 (by omega)
        try have e7 := @y_addL l2 (1 : Int32) (1) rfl (by omega) (by omega)
        have c5' := c5
        rw [Int32.le_iff_toInt_le] at c5'
        refine y_gd (y_gdI (by omega) (by omega)) ?_
        exact y_some trivial
      · skip
        try have e8 := @y_cl l3 (by omega)
        try have e9 := @y_addL l2 (1 : Int32) (1) rfl (by omega) (by omega)
        have c5' := c5
        rw [Int32.le_iff_toInt_le] at c5'
        refine y_gd (y_gdI (by omega) (by omega)) ?_
        try have e10 := hpar.at (Int32.toNatClampNeg l3) (by omega)
        try have e11 := @y_addL l4 (1 : Int32) (1) rfl (by omega) (by omega)
        exact y_Ok.mono (ih (l3 := (g1_0 (Int32.toNatClampNeg l3))) (l4 := (l4 + 1)) (by omega) (by omega) (by omega) (by omega) (by omega)) (fun _ _ => trivial)
theorem y_X1_addressAt_L_0 {g1_0 : Nat → Int32} {n1_0 : Nat} {g1_1 : Nat → Int32} {n1_1 : Nat} {g1_2 : Nat → Int32} {n1_2 : Nat} {l2 : Int32} {v1_5 : Int32} {n1_3 n1_4 : Nat} {l3 : Int32} {l4 : Int32} (k0 : n1_1 = n1_0) (k1 : n1_2 = n1_0) (k2 : n1_3 = n1_0) (k3 : n1_4 = n1_0) (k4 : 16 ≤ n1_0) (k5 : n1_0 ≤ 40004) (k6 : 1 ≤ v1_5.toInt) (k7 : v1_5.toInt ≤ n1_0) (k8 : v1_5.toInt ≤ 20002) (hpar : y_P v1_5.toInt g1_0) (k10 : 0 ≤ l3.toInt) (k11 : l3.toInt < v1_5.toInt) (k12 : 0 ≤ l4.toInt) (k13 : l4.toInt ≤ 16) : y_Ok (f_X1_addressAt_L g1_0 n1_0 g1_1 n1_1 g1_2 n1_2 l2 (0, l3, l4)) (fun r => (True)) := y_X1_addressAt_L_0_i (v1_5 := v1_5) (n1_3 := n1_3) (n1_4 := n1_4) k0 k1 k2 k3 k4 k5 k6 k7 k8 hpar (16 - l4.toInt + 1).toNat k10 k11 k12 k13 (by omega)
set_option maxHeartbeats 4000000 in
theorem y_X1_addressAt {g1_0 : Nat → Int32} {n1_0 : Nat} {g1_1 : Nat → Int32} {n1_1 : Nat} {g1_2 : Nat → Int32} {n1_2 : Nat} {p1 : Int32} {p2 : Int32} {v1_5 : Int32} {n1_3 n1_4 : Nat} (k0 : n1_1 = n1_0) (k1 : n1_2 = n1_0) (k2 : n1_3 = n1_0) (k3 : n1_4 = n1_0) (k4 : 16 ≤ n1_0) (k5 : n1_0 ≤ 40004) (k6 : 1 ≤ v1_5.toInt) (k7 : v1_5.toInt ≤ n1_0) (k8 : v1_5.toInt ≤ 20002) (hpar : y_P v1_5.toInt g1_0) (k10 : 0 ≤ p1.toInt) (k11 : p1.toInt < v1_5.toInt) : y_Ok (f_X1_addressAt g1_0 n1_0 g1_1 n1_1 g1_2 n1_2 p1 p2) (fun r => (True)) := by
  unfold f_X1_addressAt
  have e1 : (0 : Int32).toInt = 0 := rfl
  exact y_Ok.mono (y_X1_addressAt_L_0 (v1_5 := v1_5) (n1_3 := n1_3) (n1_4 := n1_4) (l3 := p1) (l4 := 0) (by first | with_reducible assumption | omega | ((with_reducible refine y_Vl ?_ ?_) <;> omega)) (by first | with_reducible assumption | omega | ((with_reducible refine y_Vl ?_ ?_) <;> omega)) (by first | with_reducible assumption | omega | ((with_reducible refine y_Vl ?_ ?_) <;> omega)) (by first | with_reducible assumption | omega | ((with_reducible refine y_Vl ?_ ?_) <;> omega)) (by omega) (by omega) (by omega) (by omega) (by omega) (by first | with_reducible assumption | omega | ((with_reducible refine y_Vl ?_ ?_) <;> omega)) (by omega) (by omega) (by omega) (by omega)) (fun _ _ => trivial)
set_option maxHeartbeats 4000000 in
theorem y_X1_isBefore_L_2_i {g1_0 : Nat → Int32} {n1_0 : Nat} {g1_1 : Nat → Int32} {n1_1 : Nat} {g1_2 : Nat → Int32} {n1_2 : Nat} {v1_5 : Int32} {n1_3 n1_4 : Nat} (k0 : n1_1 = n1_0) (k1 : n1_2 = n1_0) (k2 : n1_3 = n1_0) (k3 : n1_4 = n1_0) (k4 : 16 ≤ n1_0) (k5 : n1_0 ≤ 40004) (k6 : 1 ≤ v1_5.toInt) (k7 : v1_5.toInt ≤ n1_0) (k8 : v1_5.toInt ≤ 20002) (hpar : y_P v1_5.toInt g1_0) : ∀ (m : Nat) {l1 : Int32} {l2 : Int32} {l3 : Int32} {l4 : Int32} {l5 : Int32}, (0 ≤ l3.toInt) → (l3.toInt < v1_5.toInt) → (0 ≤ l4.toInt) → (l4.toInt < v1_5.toInt) → (0 ≤ l5.toInt) → (l5.toInt ≤ 16) → 16 - l5.toInt < m → y_Ok (f_X1_isBefore_L g1_0 n1_0 g1_1 n1_1 g1_2 n1_2 (2, l1, l2, l3, l4, l5)) (fun r => (True)) := by
  intro m
  induction m with
  | zero => intro l1 l2 l3 l4 l5 k10 k11 k12 k13 k14 k15 hm; exfalso; omega
  | succ m ih =>
    intro l1 l2 l3 l4 l5 k10 k11 k12 k13 k14 k15 hm
    rw [f_X1_isBefore_L]
    refine y_in (by decide) ?_
    refine y_in (by decide) ?_
    refine y_ip rfl ?_
    refine y_if (fun c1 => ?_) (fun c1 => ?_)
    · skip
      have e2 : (16 : Int32).toInt = 16 := rfl
      have c1' := c1
      rw [Int32.le_iff_toInt_le] at c1'
      refine y_gd (y_gdI (by omega) (by omega)) ?_
      refine y_gd (y_gdI (by omega) (by omega)) ?_
      refine y_if (fun c3 => ?_) (fun c3 => ?_)
      · skip
        try have e4 := @y_cl l4 (by omega)
        try have e5 := @y_cl l3 (by omega)
        have c3' := c3
        rw [Int32.le_iff_toInt_le] at c3'
        have e6 : (0 : Int32).toInt = 0 := rfl
        exact y_some trivial
      · skip
        try have e7 := @y_cl l4 (by omega)
        try have e8 := @y_cl l3 (by omega)
        have c3' := c3
        rw [Int32.le_iff_toInt_le] at c3'
        have e9 : (1 : Int32).toInt = 1 := rfl
        exact y_some trivial
    · skip
      have e10 : (16 : Int32).toInt = 16 := rfl
      have c1' := c1
      rw [Int32.le_iff_toInt_le] at c1'
      refine y_gd (y_gdI (by omega) (by omega)) ?_
      refine y_gd (y_gdI (by omega) (by omega)) ?_
      refine y_if (fun c11 => ?_) (fun c11 => ?_)
      · skip
        try have e12 := @y_cl l3 (by omega)
        try have e13 := hpar.at (Int32.toNatClampNeg l3) (by omega)
        try have e14 := @y_cl l4 (by omega)
        try have e15 := hpar.at (Int32.toNatClampNeg l4) (by omega)
        have c11' := c11
        rw [← Int32.toInt_inj] at c11'
        refine y_gd (y_gdI (by omega) (by omega)) ?_
        refine y_gd (y_gdI (by omega) (by omega)) ?_
        refine y_if (fun c16 => ?_) (fun c16 => ?_)
        · skip
          have c16' := c16
          rw [Int32.le_iff_toInt_le] at c16'
          have e17 : (0 : Int32).toInt = 0 := rfl
          exact y_some trivial
        · skip
          have c16' := c16
          rw [Int32.le_iff_toInt_le] at c16'
          have e18 : (1 : Int32).toInt = 1 := rfl
          exact y_some trivial
      · skip
        try have e19 := @y_cl l3 (by omega)
        try have e20 := hpar.at (Int32.toNatClampNeg l3) (by omega)
        try have e21 := @y_cl l4 (by omega)
        try have e22 := hpar.at (Int32.toNatClampNeg l4) (by omega)
        have c11' := c11
        rw [← Int32.toInt_inj] at c11'
        refine y_gd (y_gdI (by omega) (by omega)) ?_
        refine y_gd (y_gdI (by omega) (by omega)) ?_
        have e23 : (0 : Int32).toInt = 0 := rfl
        try have e24 := @y_addL l5 (1 : Int32) (1) rfl (by omega) (by omega)
        exact y_Ok.mono (ih (l1 := 0) (l2 := 0) (l3 := (g1_0 (Int32.toNatClampNeg l3))) (l4 := (g1_0 (Int32.toNatClampNeg l4))) (l5 := (l5 + 1)) (by omega) (by omega) (by omega) (by omega) (by omega) (by omega) (by omega)) (fun _ _ => trivial)
theorem y_X1_isBefore_L_2 {g1_0 : Nat → Int32} {n1_0 : Nat} {g1_1 : Nat → Int32} {n1_1 : Nat} {g1_2 : Nat → Int32} {n1_2 : Nat} {v1_5 : Int32} {n1_3 n1_4 : Nat} {l1 : Int32} {l2 : Int32} {l3 : Int32} {l4 : Int32} {l5 : Int32} (k0 : n1_1 = n1_0) (k1 : n1_2 = n1_0) (k2 : n1_3 = n1_0) (k3 : n1_4 = n1_0) (k4 : 16 ≤ n1_0) (k5 : n1_0 ≤ 40004) (k6 : 1 ≤ v1_5.toInt) (k7 : v1_5.toInt ≤ n1_0) (k8 : v1_5.toInt ≤ 20002) (hpar : y_P v1_5.toInt g1_0) (k10 : 0 ≤ l3.toInt) (k11 : l3.toInt < v1_5.toInt) (k12 : 0 ≤ l4.toInt) (k13 : l4.toInt < v1_5.toInt) (k14 : 0 ≤ l5.toInt) (k15 : l5.toInt ≤ 16) : y_Ok (f_X1_isBefore_L g1_0 n1_0 g1_1 n1_1 g1_2 n1_2 (2, l1, l2, l3, l4, l5)) (fun r => (True)) := y_X1_isBefore_L_2_i (v1_5 := v1_5) (n1_3 := n1_3) (n1_4 := n1_4) k0 k1 k2 k3 k4 k5 k6 k7 k8 hpar (16 - l5.toInt + 1).toNat k10 k11 k12 k13 k14 k15 (by omega)
set_option maxHeartbeats 4000000 in
theorem y_X1_isBefore_L_1_i {g1_0 : Nat → Int32} {n1_0 : Nat} {g1_1 : Nat → Int32} {n1_1 : Nat} {g1_2 : Nat → Int32} {n1_2 : Nat} {v1_5 : Int32} {n1_3 n1_4 : Nat} (k0 : n1_1 = n1_0) (k1 : n1_2 = n1_0) (k2 : n1_3 = n1_0) (k3 : n1_4 = n1_0) (k4 : 16 ≤ n1_0) (k5 : n1_0 ≤ 40004) (k6 : 1 ≤ v1_5.toInt) (k7 : v1_5.toInt ≤ n1_0) (k8 : v1_5.toInt ≤ 20002) (hpar : y_P v1_5.toInt g1_0) : ∀ (m : Nat) {l1 : Int32} {l2 : Int32} {l3 : Int32} {l4 : Int32} {l5 : Int32}, (0 ≤ l3.toInt) → (l3.toInt < v1_5.toInt) → (0 ≤ l4.toInt) → (l4.toInt < v1_5.toInt) → (0 ≤ l5.toInt) → (l5.toInt ≤ 16) → (0 ≤ l1.toInt) → (l1.toInt < v1_5.toInt) → (0 ≤ l2.toInt) → (l2.toInt < v1_5.toInt) → 16 - l5.toInt < m → y_Ok (f_X1_isBefore_L g1_0 n1_0 g1_1 n1_1 g1_2 n1_2 (1, l1, l2, l3, l4, l5)) (fun r => (True)) := by
  intro m
  induction m with
  | zero => intro l1 l2 l3 l4 l5 k10 k11 k12 k13 k14 k15 k16 k17 k18 k19 hm; exfalso; omega
  | succ m ih =>
    intro l1 l2 l3 l4 l5 k10 k11 k12 k13 k14 k15 k16 k17 k18 k19 hm
    rw [f_X1_isBefore_L]
    refine y_in (by decide) ?_
    refine y_ip rfl ?_
    refine y_if (fun c1 => ?_) (fun c1 => ?_)
    · skip
      have e2 : (16 : Int32).toInt = 16 := rfl
      have c1' := c1
      rw [Int32.le_iff_toInt_le] at c1'
      refine y_if (fun c3 => ?_) (fun c3 => ?_)
      · skip
        have c3' := c3
        rw [← Int32.toInt_inj] at c3'
        refine y_gd (y_gdI (by omega) (by omega)) ?_
        refine y_gd (y_gdI (by omega) (by omega)) ?_
        refine y_if (fun c4 => ?_) (fun c4 => ?_)
        · skip
          try have e5 := @y_cl l2 (by omega)
          try have e6 := @y_cl l1 (by omega)
          have c4' := c4
          rw [Int32.le_iff_toInt_le] at c4'
          have e7 : (0 : Int32).toInt = 0 := rfl
          exact y_some trivial
        · skip
          try have e8 := @y_cl l2 (by omega)
          try have e9 := @y_cl l1 (by omega)
          have c4' := c4
          rw [Int32.le_iff_toInt_le] at c4'
          have e10 : (1 : Int32).toInt = 1 := rfl
          exact y_some trivial
      · skip
        have c3' := c3
        rw [← Int32.toInt_inj] at c3'
        have e11 : (0 : Int32).toInt = 0 := rfl
        exact y_Ok.mono (y_X1_isBefore_L_2 (v1_5 := v1_5) (n1_3 := n1_3) (n1_4 := n1_4) (l1 := 0) (l2 := 0) (l3 := l3) (l4 := l4) (l5 := 0) (by first | with_reducible assumption | omega | ((with_reducible refine y_Vl ?_ ?_) <;> omega)) (by first | with_reducible assumption | omega | ((with_reducible refine y_Vl ?_ ?_) <;> omega)) (by first | with_reducible assumption | omega | ((with_reducible refine y_Vl ?_ ?_) <;> omega)) (by first | with_reducible assumption | omega | ((with_reducible refine y_Vl ?_ ?_) <;> omega)) (by omega) (by omega) (by omega) (by omega) (by omega) (by first | with_reducible assumption | omega | ((with_reducible refine y_Vl ?_ ?_) <;> omega)) (by omega) (by omega) (by omega) (by omega) (by omega) (by omega)) (fun _ _ => trivial)
    · skip
      have e12 : (16 : Int32).toInt = 16 := rfl
      have c1' := c1
      rw [Int32.le_iff_toInt_le] at c1'
      refine y_gd (y_gdI (by omega) (by omega)) ?_
      refine y_gd (y_gdI (by omega) (by omega)) ?_
      refine y_if (fun c13 => ?_) (fun c13 => ?_)
      · skip
        try have e14 := @y_cl l4 (by omega)
        try have e15 := @y_cl l3 (by omega)
        have c13' := c13
        rw [Int32.le_iff_toInt_le] at c13'
        refine y_if (fun c16 => ?_) (fun c16 => ?_)
        · skip
          have c16' := c16
          rw [← Int32.toInt_inj] at c16'
          refine y_gd (y_gdI (by omega) (by omega)) ?_
          refine y_gd (y_gdI (by omega) (by omega)) ?_
          refine y_if (fun c17 => ?_) (fun c17 => ?_)
          · skip
            try have e18 := @y_cl l2 (by omega)
            try have e19 := @y_cl l1 (by omega)
            have c17' := c17
            rw [Int32.le_iff_toInt_le] at c17'
            have e20 : (0 : Int32).toInt = 0 := rfl
            exact y_some trivial
          · skip
            try have e21 := @y_cl l2 (by omega)
            try have e22 := @y_cl l1 (by omega)
            have c17' := c17
            rw [Int32.le_iff_toInt_le] at c17'
            have e23 : (1 : Int32).toInt = 1 := rfl
            exact y_some trivial
        · skip
          have c16' := c16
          rw [← Int32.toInt_inj] at c16'
          have e24 : (0 : Int32).toInt = 0 := rfl
          exact y_Ok.mono (y_X1_isBefore_L_2 (v1_5 := v1_5) (n1_3 := n1_3) (n1_4 := n1_4) (l1 := 0) (l2 := 0) (l3 := l3) (l4 := l4) (l5 := 0) (by first | with_reducible assumption | omega | ((with_reducible refine y_Vl ?_ ?_) <;> omega)) (by first | with_reducible assumption | omega | ((with_reducible refine y_Vl ?_ ?_) <;> omega)) (by first | with_reducible assumption | omega | ((with_reducible refine y_Vl ?_ ?_) <;> omega)) (by first | with_reducible assumption | omega | ((with_reducible refine y_Vl ?_ ?_) <;> omega)) (by omega) (by omega) (by omega) (by omega) (by omega) (by first | with_reducible assumption | omega | ((with_reducible refine y_Vl ?_ ?_) <;> omega)) (by omega) (by omega) (by omega) (by omega) (by omega) (by omega)) (fun _ _ => trivial)
      · skip
        try have e25 := @y_cl l4 (by omega)
        try have e26 := @y_cl l3 (by omega)
        have c13' := c13
        rw [Int32.le_iff_toInt_le] at c13'
        refine y_gd (y_gdI (by omega) (by omega)) ?_
        try have e27 := hpar.at (Int32.toNatClampNeg l4) (by omega)
        try have e28 := @y_addL l5 (1 : Int32) (1) rfl (by omega) (by omega)
        exact y_Ok.mono (ih (l1 := l1) (l2 := l2) (l3 := l3) (l4 := (g1_0 (Int32.toNatClampNeg l4))) (l5 := (l5 + 1)) (by omega) (by omega) (by omega) (by omega) (by omega) (by omega) (by omega) (by omega) (by omega) (by omega) (by omega)) (fun _ _ => trivial)
theorem y_X1_isBefore_L_1 {g1_0 : Nat → Int32} {n1_0 : Nat} {g1_1 : Nat → Int32} {n1_1 : Nat} {g1_2 : Nat → Int32} {n1_2 : Nat} {v1_5 : Int32} {n1_3 n1_4 : Nat} {l1 : Int32} {l2 : Int32} {l3 : Int32} {l4 : Int32} {l5 : Int32} (k0 : n1_1 = n1_0) (k1 : n1_2 = n1_0) (k2 : n1_3 = n1_0) (k3 : n1_4 = n1_0) (k4 : 16 ≤ n1_0) (k5 : n1_0 ≤ 40004) (k6 : 1 ≤ v1_5.toInt) (k7 : v1_5.toInt ≤ n1_0) (k8 : v1_5.toInt ≤ 20002) (hpar : y_P v1_5.toInt g1_0) (k10 : 0 ≤ l3.toInt) (k11 : l3.toInt < v1_5.toInt) (k12 : 0 ≤ l4.toInt) (k13 : l4.toInt < v1_5.toInt) (k14 : 0 ≤ l5.toInt) (k15 : l5.toInt ≤ 16) (k16 : 0 ≤ l1.toInt) (k17 : l1.toInt < v1_5.toInt) (k18 : 0 ≤ l2.toInt) (k19 : l2.toInt < v1_5.toInt) : y_Ok (f_X1_isBefore_L g1_0 n1_0 g1_1 n1_1 g1_2 n1_2 (1, l1, l2, l3, l4, l5)) (fun r => (True)) := y_X1_isBefore_L_1_i (v1_5 := v1_5) (n1_3 := n1_3) (n1_4 := n1_4) k0 k1 k2 k3 k4 k5 k6 k7 k8 hpar (16 - l5.toInt + 1).toNat k10 k11 k12 k13 k14 k15 k16 k17 k18 k19 (by omega)
set_option maxHeartbeats 4000000 in
theorem y_X1_isBefore_L_0_i {g1_0 : Nat → Int32} {n1_0 : Nat} {g1_1 : Nat → Int32} {n1_1 : Nat} {g1_2 : Nat → Int32} {n1_2 : Nat} {v1_5 : Int32} {n1_3 n1_4 : Nat} (k0 : n1_1 = n1_0) (k1 : n1_2 = n1_0) (k2 : n1_3 = n1_0) (k3 : n1_4 = n1_0) (k4 : 16 ≤ n1_0) (k5 : n1_0 ≤ 40004) (k6 : 1 ≤ v1_5.toInt) (k7 : v1_5.toInt ≤ n1_0) (k8 : v1_5.toInt ≤ 20002) (hpar : y_P v1_5.toInt g1_0) : ∀ (m : Nat) {l1 : Int32} {l2 : Int32} {l3 : Int32} {l4 : Int32} {l5 : Int32}, (0 ≤ l3.toInt) → (l3.toInt < v1_5.toInt) → (0 ≤ l4.toInt) → (l4.toInt < v1_5.toInt) → (0 ≤ l5.toInt) → (l5.toInt ≤ 16) → (0 ≤ l1.toInt) → (l1.toInt < v1_5.toInt) → (0 ≤ l2.toInt) → (l2.toInt < v1_5.toInt) → 16 - l5.toInt < m → y_Ok (f_X1_isBefore_L g1_0 n1_0 g1_1 n1_1 g1_2 n1_2 (0, l1, l2, l3, l4, l5)) (fun r => (True)) := by
  intro m
  induction m with
  | zero => intro l1 l2 l3 l4 l5 k10 k11 k12 k13 k14 k15 k16 k17 k18 k19 hm; exfalso; omega
  | succ m ih =>
    intro l1 l2 l3 l4 l5 k10 k11 k12 k13 k14 k15 k16 k17 k18 k19 hm
    rw [f_X1_isBefore_L]
    refine y_ip rfl ?_
    refine y_if (fun c1 => ?_) (fun c1 => ?_)
    · skip
      have e2 : (16 : Int32).toInt = 16 := rfl
      have c1' := c1
      rw [Int32.le_iff_toInt_le] at c1'
      have e3 : (0 : Int32).toInt = 0 := rfl
      exact y_Ok.mono (y_X1_isBefore_L_1 (v1_5 := v1_5) (n1_3 := n1_3) (n1_4 := n1_4) (l1 := l1) (l2 := l2) (l3 := l3) (l4 := l4) (l5 := 0) (by first | with_reducible assumption | omega | ((with_reducible refine y_Vl ?_ ?_) <;> omega)) (by first | with_reducible assumption | omega | ((with_reducible refine y_Vl ?_ ?_) <;> omega)) (by first | with_reducible assumption | omega | ((with_reducible refine y_Vl ?_ ?_) <;> omega)) (by first | with_reducible assumption | omega | ((with_reducible refine y_Vl ?_ ?_) <;> omega)) (by omega) (by omega) (by omega) (by omega) (by omega) (by first | with_reducible assumption | omega | ((with_reducible refine y_Vl ?_ ?_) <;> omega)) (by omega) (by omega) (by omega) (by omega) (by omega) (by omega) (by omega) (by omega) (by omega) (by omega)) (fun _ _ => trivial)
    · skip
      have e4 : (16 : Int32).toInt = 16 := rfl
      have c1' := c1
      rw [Int32.le_iff_toInt_le] at c1'
      refine y_gd (y_gdI (by omega) (by omega)) ?_
      refine y_gd (y_gdI (by omega) (by omega)) ?_
      refine y_if (fun c5 => ?_) (fun c5 => ?_)
      · skip
        try have e6 := @y_cl l3 (by omega)
        try have e7 := @y_cl l4 (by omega)
        have c5' := c5
        rw [Int32.le_iff_toInt_le] at c5'
        have e8 : (0 : Int32).toInt = 0 := rfl
        exact y_Ok.mono (y_X1_isBefore_L_1 (v1_5 := v1_5) (n1_3 := n1_3) (n1_4 := n1_4) (l1 := l1) (l2 := l2) (l3 := l3) (l4 := l4) (l5 := 0) (by first | with_reducible assumption | omega | ((with_reducible refine y_Vl ?_ ?_) <;> omega)) (by first | with_reducible assumption | omega | ((with_reducible refine y_Vl ?_ ?_) <;> omega)) (by first | with_reducible assumption | omega | ((with_reducible refine y_Vl ?_ ?_) <;> omega)) (by first | with_reducible assumption | omega | ((with_reducible refine y_Vl ?_ ?_) <;> omega)) (by omega) (by omega) (by omega) (by omega) (by omega) (by first | with_reducible assumption | omega | ((with_reducible refine y_Vl ?_ ?_) <;> omega)) (by omega) (by omega) (by omega) (by omega) (by omega) (by omega) (by omega) (by omega) (by omega) (by omega)) (fun _ _ => trivial)
      · skip
        try have e9 := @y_cl l3 (by omega)
        try have e10 := @y_cl l4 (by omega)
        have c5' := c5
        rw [Int32.le_iff_toInt_le] at c5'
        refine y_gd (y_gdI (by omega) (by omega)) ?_
        try have e11 := hpar.at (Int32.toNatClampNeg l3) (by omega)
        try have e12 := @y_addL l5 (1 : Int32) (1) rfl (by omega) (by omega)
        exact y_Ok.mono (ih (l1 := l1) (l2 := l2) (l3 := (g1_0 (Int32.toNatClampNeg l3))) (l4 := l4) (l5 := (l5 + 1)) (by omega) (by omega) (by omega) (by omega) (by omega) (by omega) (by omega) (by omega) (by omega) (by omega) (by omega)) (fun _ _ => trivial)
theorem y_X1_isBefore_L_0 {g1_0 : Nat → Int32} {n1_0 : Nat} {g1_1 : Nat → Int32} {n1_1 : Nat} {g1_2 : Nat → Int32} {n1_2 : Nat} {v1_5 : Int32} {n1_3 n1_4 : Nat} {l1 : Int32} {l2 : Int32} {l3 : Int32} {l4 : Int32} {l5 : Int32} (k0 : n1_1 = n1_0) (k1 : n1_2 = n1_0) (k2 : n1_3 = n1_0) (k3 : n1_4 = n1_0) (k4 : 16 ≤ n1_0) (k5 : n1_0 ≤ 40004) (k6 : 1 ≤ v1_5.toInt) (k7 : v1_5.toInt ≤ n1_0) (k8 : v1_5.toInt ≤ 20002) (hpar : y_P v1_5.toInt g1_0) (k10 : 0 ≤ l3.toInt) (k11 : l3.toInt < v1_5.toInt) (k12 : 0 ≤ l4.toInt) (k13 : l4.toInt < v1_5.toInt) (k14 : 0 ≤ l5.toInt) (k15 : l5.toInt ≤ 16) (k16 : 0 ≤ l1.toInt) (k17 : l1.toInt < v1_5.toInt) (k18 : 0 ≤ l2.toInt) (k19 : l2.toInt < v1_5.toInt) : y_Ok (f_X1_isBefore_L g1_0 n1_0 g1_1 n1_1 g1_2 n1_2 (0, l1, l2, l3, l4, l5)) (fun r => (True)) := y_X1_isBefore_L_0_i (v1_5 := v1_5) (n1_3 := n1_3) (n1_4 := n1_4) k0 k1 k2 k3 k4 k5 k6 k7 k8 hpar (16 - l5.toInt + 1).toNat k10 k11 k12 k13 k14 k15 k16 k17 k18 k19 (by omega)
set_option maxHeartbeats 4000000 in
theorem y_X1_isBefore {g1_0 : Nat → Int32} {n1_0 : Nat} {g1_1 : Nat → Int32} {n1_1 : Nat} {g1_2 : Nat → Int32} {n1_2 : Nat} {p1 : Int32} {p2 : Int32} {v1_5 : Int32} {n1_3 n1_4 : Nat} (k0 : n1_1 = n1_0) (k1 : n1_2 = n1_0) (k2 : n1_3 = n1_0) (k3 : n1_4 = n1_0) (k4 : 16 ≤ n1_0) (k5 : n1_0 ≤ 40004) (k6 : 1 ≤ v1_5.toInt) (k7 : v1_5.toInt ≤ n1_0) (k8 : v1_5.toInt ≤ 20002) (hpar : y_P v1_5.toInt g1_0) (k10 : 0 ≤ p1.toInt) (k11 : p1.toInt < v1_5.toInt) (k12 : 0 ≤ p2.toInt) (k13 : p2.toInt < v1_5.toInt) : y_Ok (f_X1_isBefore g1_0 n1_0 g1_1 n1_1 g1_2 n1_2 p1 p2) (fun r => (True)) := by
  unfold f_X1_isBefore
  have e1 : (0 : Int32).toInt = 0 := rfl
  exact y_Ok.mono (y_X1_isBefore_L_0 (v1_5 := v1_5) (n1_3 := n1_3) (n1_4 := n1_4) (l1 := p1) (l2 := p2) (l3 := p1) (l4 := p2) (l5 := 0) (by first | with_reducible assumption | omega | ((with_reducible refine y_Vl ?_ ?_) <;> omega)) (by first | with_reducible assumption | omega | ((with_reducible refine y_Vl ?_ ?_) <;> omega)) (by first | with_reducible assumption | omega | ((with_reducible refine y_Vl ?_ ?_) <;> omega)) (by first | with_reducible assumption | omega | ((with_reducible refine y_Vl ?_ ?_) <;> omega)) (by omega) (by omega) (by omega) (by omega) (by omega) (by first | with_reducible assumption | omega | ((with_reducible refine y_Vl ?_ ?_) <;> omega)) (by omega) (by omega) (by omega) (by omega) (by omega) (by omega) (by omega) (by omega) (by omega) (by omega)) (fun _ _ => trivial)
set_option maxHeartbeats 4000000 in
theorem y_J7_fill_53178_a3_10_L_0_i {l1 : Int32} {l3 : Int32} (k0 : l3.toInt = 256) : ∀ (m : Nat) {l2 : Int32} {g3_10 : Nat → Int32}, (0 ≤ l2.toInt) → (l2.toInt ≤ 256) → (y_RI l2.toInt l1.toInt l1.toInt g3_10) → 256 - l2.toInt < m → y_Ok (f_J7_fill_53178_a3_10_L l1 l3 (0, l2, g3_10)) (fun r => (y_RI 256 l1.toInt l1.toInt r)) := by
  intro m
  induction m with
  | zero => intro l2 g3_10 k1 k2 hh hm; exfalso; omega
  | succ m ih =>
    intro l2 g3_10 k1 k2 hh hm
    rw [f_J7_fill_53178_a3_10_L]
    refine y_ip rfl ?_
    refine y_if (fun c1 => ?_) (fun c1 => ?_)
    · skip
      have c1' := c1
      rw [Int32.le_iff_toInt_le] at c1'
      refine y_some ?_
      try dsimp only
      (first | with_reducible assumption | omega | ((with_reducible refine y_Vl ?_ ?_) <;> omega) | ((with_reducible refine y_Eq_cpy ?_) <;> omega) | ((with_reducible refine y_RIm (by with_reducible assumption) ?_ ?_ ?_) <;> omega) | ((with_reducible refine y_RIu (by with_reducible assumption) ?_ ?_ ?_ ?_ ?_) <;> omega) | ((with_reducible refine y_R1v (by with_reducible assumption) ?_ ?_ ?_ ?_ ?_) <;> omega) | ((with_reducible refine y_R1m (by with_reducible assumption) ?_ ?_ ?_) <;> omega) | ((with_reducible refine y_P_put (by with_reducible assumption) ?_ ?_ ?_ ?_ ?_) <;> omega) | ((with_reducible refine y_PN_put (by with_reducible assumption) ?_ ?_ ?_ ?_ ?_) <;> omega) | ((with_reducible refine y_P1 (by with_reducible assumption) ?_) <;> omega) | (with_reducible exact y_Eq.rf _ _))
    · skip
      have c1' := c1
      rw [Int32.le_iff_toInt_le] at c1'
      refine y_gd (y_gdI (by omega) (by omega)) ?_
      try have e2 := @y_addL l2 (1 : Int32) (1) rfl (by omega) (by omega)
      try have e3 := @y_cl l2 (by omega)
      try have e4 : y_RI l2.toInt l1.toInt l1.toInt (upd g3_10 (Int32.toNatClampNeg l2) l1) := y_RIu hh (by omega) (by omega) (by omega) (by omega) (Or.inl (by omega))
      exact ih (l2 := (l2 + 1)) (g3_10 := (upd g3_10 (Int32.toNatClampNeg l2) l1)) (by omega) (by omega) (by first | with_reducible assumption | omega | ((with_reducible refine y_Vl ?_ ?_) <;> omega) | ((with_reducible refine y_Eq_cpy ?_) <;> omega) | ((with_reducible refine y_RIm (by with_reducible assumption) ?_ ?_ ?_) <;> omega) | ((with_reducible refine y_RIu (by with_reducible assumption) ?_ ?_ ?_ ?_ ?_) <;> omega) | ((with_reducible refine y_R1v (by with_reducible assumption) ?_ ?_ ?_ ?_ ?_) <;> omega) | ((with_reducible refine y_R1m (by with_reducible assumption) ?_ ?_ ?_) <;> omega) | ((with_reducible refine y_P_put (by with_reducible assumption) ?_ ?_ ?_ ?_ ?_) <;> omega) | ((with_reducible refine y_PN_put (by with_reducible assumption) ?_ ?_ ?_ ?_ ?_) <;> omega) | ((with_reducible refine y_P1 (by with_reducible assumption) ?_) <;> omega) | (with_reducible exact y_Eq.rf _ _)) (by omega)
theorem y_J7_fill_53178_a3_10_L_0 {l1 : Int32} {l3 : Int32} {l2 : Int32} {g3_10 : Nat → Int32} (k0 : l3.toInt = 256) (k1 : 0 ≤ l2.toInt) (k2 : l2.toInt ≤ 256) (hh : y_RI l2.toInt l1.toInt l1.toInt g3_10) : y_Ok (f_J7_fill_53178_a3_10_L l1 l3 (0, l2, g3_10)) (fun r => (y_RI 256 l1.toInt l1.toInt r)) := y_J7_fill_53178_a3_10_L_0_i k0 (256 - l2.toInt + 1).toNat k1 k2 hh (by omega)
set_option maxHeartbeats 4000000 in
theorem y_J7_fill_53178_a3_10 {g3_10 : Nat → Int32} {p1 : Int32}  : y_Ok (f_J7_fill_53178_a3_10 g3_10 p1) (fun r => (y_RI 256 p1.toInt p1.toInt r)) := by
  unfold f_J7_fill_53178_a3_10
  have e1 : (256 : Int32).toInt = 256 := rfl
  have e2 : (0 : Int32).toInt = 0 := rfl
  refine y_Ok.mono (y_J7_fill_53178_a3_10_L_0 (l2 := 0) (g3_10 := g3_10) (by omega) (by omega) (by omega) (by first | with_reducible assumption | omega | ((with_reducible refine y_Vl ?_ ?_) <;> omega) | ((with_reducible refine y_Eq_cpy ?_) <;> omega) | ((with_reducible refine y_RIm (by with_reducible assumption) ?_ ?_ ?_) <;> omega) | ((with_reducible refine y_RIu (by with_reducible assumption) ?_ ?_ ?_ ?_ ?_) <;> omega) | ((with_reducible refine y_R1v (by with_reducible assumption) ?_ ?_ ?_ ?_ ?_) <;> omega) | ((with_reducible refine y_R1m (by with_reducible assumption) ?_ ?_ ?_) <;> omega) | ((with_reducible refine y_P_put (by with_reducible assumption) ?_ ?_ ?_ ?_ ?_) <;> omega) | ((with_reducible refine y_PN_put (by with_reducible assumption) ?_ ?_ ?_ ?_ ?_) <;> omega) | ((with_reducible refine y_P1 (by with_reducible assumption) ?_) <;> omega) | (with_reducible exact y_Eq.rf _ _) | ((with_reducible refine y_RI0 ?_) <;> omega))) (fun r_t2 h_r_t2 => ?_)
  (first | with_reducible assumption | omega | ((with_reducible refine y_Vl ?_ ?_) <;> omega) | ((with_reducible refine y_Eq_cpy ?_) <;> omega) | ((with_reducible refine y_RIm (by with_reducible assumption) ?_ ?_ ?_) <;> omega) | ((with_reducible refine y_RIu (by with_reducible assumption) ?_ ?_ ?_ ?_ ?_) <;> omega) | ((with_reducible refine y_R1v (by with_reducible assumption) ?_ ?_ ?_ ?_ ?_) <;> omega) | ((with_reducible refine y_R1m (by with_reducible assumption) ?_ ?_ ?_) <;> omega) | ((with_reducible refine y_P_put (by with_reducible assumption) ?_ ?_ ?_ ?_ ?_) <;> omega) | ((with_reducible refine y_PN_put (by with_reducible assumption) ?_ ?_ ?_ ?_ ?_) <;> omega) | ((with_reducible refine y_P1 (by with_reducible assumption) ?_) <;> omega) | (with_reducible exact y_Eq.rf _ _) | ((with_reducible refine y_RI0 ?_) <;> omega))
set_option maxHeartbeats 4000000 in
theorem y_X3_headOf {p0 : Int32} {p1 : Int32}  : y_Ok (f_X3_headOf p0 p1) (fun r => (0 ≤ r.toInt) ∧ (r.toInt < 256)) := by
  unfold f_X3_headOf
  have e1 : (31 : Int32).toInt = 31 := rfl
  try have e2 := @y_mulL (31 : Int32) p1 31 rfl (by omega) (by omega)
  try have e3 := @y_add ((31 : Int32) * p1) p0 (by omega) (by omega)
  have e4 := y_and8 (((31 : Int32) * p1) + p0)
  refine y_some ?_
  try dsimp only
  refine ⟨?_, ?_⟩ <;> (first | with_reducible assumption | omega | ((with_reducible refine y_Vl ?_ ?_) <;> omega))
set_option maxHeartbeats 4000000 in
theorem y_X3_clear {v3_2 : Int32} {v3_3 : Int32} {v3_4 : Int32} {v3_13 : Int32} {v3_14 : Int32} {g3_10 : Nat → Int32} {p1 : Int32} {p2 : Int32} (k0 : 0 ≤ p1.toInt) (k1 : p1.toInt ≤ 200) (k2 : 0 ≤ p2.toInt) (k3 : p2.toInt ≤ 200) : y_Ok (f_X3_clear v3_2 v3_3 v3_4 v3_13 v3_14 g3_10 p1 p2) (fun r => (r.1.toInt = p1.toInt) ∧ (r.2.1.toInt = p1.toInt + p2.toInt) ∧ (r.2.2.1.toInt = 0) ∧ (r.2.2.2.1.toInt = -1) ∧ (r.2.2.2.2.1.toInt = -1) ∧ (y_RI 256 (-1) (-1) r.2.2.2.2.2)) := by
  unfold f_X3_clear
  refine y_bi (y_J7_fill_53178_a3_10) (fun r_1 h_r_1 => ?_)
  have h0_r_1 : y_RI 256 (-1 : Int32).toInt (-1 : Int32).toInt r_1 := h_r_1
  try have e1 := @y_add p1 p2 (by omega) (by omega)
  have e2 : (0 : Int32).toInt = 0 := rfl
  have e3 : (-1 : Int32).toInt = -1 := rfl
  have e4 : (-1 : Int32).toInt = -1 := rfl
  refine y_some ?_
  try dsimp only
  refine ⟨?_, ?_, ?_, ?_, ?_, ?_⟩ <;> (first | with_reducible assumption | omega | ((with_reducible refine y_Vl ?_ ?_) <;> omega) | ((with_reducible refine y_Eq_cpy ?_) <;> omega) | ((with_reducible refine y_RIm (by with_reducible assumption) ?_ ?_ ?_) <;> omega) | ((with_reducible refine y_RIu (by with_reducible assumption) ?_ ?_ ?_ ?_ ?_) <;> omega) | ((with_reducible refine y_R1v (by with_reducible assumption) ?_ ?_ ?_ ?_ ?_) <;> omega) | ((with_reducible refine y_R1m (by with_reducible assumption) ?_ ?_ ?_) <;> omega) | ((with_reducible refine y_P_put (by with_reducible assumption) ?_ ?_ ?_ ?_ ?_) <;> omega) | ((with_reducible refine y_PN_put (by with_reducible assumption) ?_ ?_ ?_ ?_ ?_) <;> omega) | ((with_reducible refine y_P1 (by with_reducible assumption) ?_) <;> omega) | (with_reducible exact y_Eq.rf _ _) | rfl | (exact h0_r_1))
set_option maxHeartbeats 4000000 in
theorem y_X3_isFull {v3_3 : Int32} {v3_4 : Int32} {C : Nat} (k0 : 0 ≤ v3_3.toInt) (k1 : v3_3.toInt ≤ 400) (k2 : 0 ≤ v3_4.toInt) (k3 : v3_4.toInt ≤ 20000) (hC : (C : Int) = v3_3.toInt) : y_Ok (f_X3_isFull v3_3 v3_4) (fun r => (¬ r.toInt = 0 ∨ y_Fit (v3_4.toInt + 1) C)) := by
  unfold f_X3_isFull
  refine y_if (fun c1 => ?_) (fun c1 => ?_)
  · skip
    try have e2 := @y_addL v3_4 (1 : Int32) (1) rfl (by omega) (by omega)
    try have e3 := @y_addL v3_3 (1 : Int32) (1) rfl (by omega) (by omega)
    try have e4 := @y_mulB (v3_4 + (1 : Int32)) (v3_3 + (1 : Int32)) 20010 402 ⟨by omega, by omega⟩ ⟨by omega, by omega⟩ (by decide)
    have e5 : (20000 : Int32).toInt = 20000 := rfl
    have c1' := c1
    rw [Int32.le_iff_toInt_le] at c1'
    have e6 : (0 : Int32).toInt = 0 := rfl
    refine y_some ?_
    try dsimp only
    (first | with_reducible assumption | omega | ((with_reducible refine y_Vl ?_ ?_) <;> omega) | ((with_reducible refine y_Eq_cpy ?_) <;> omega) | ((with_reducible refine y_RIm (by with_reducible assumption) ?_ ?_ ?_) <;> omega) | ((with_reducible refine y_RIu (by with_reducible assumption) ?_ ?_ ?_ ?_ ?_) <;> omega) | ((with_reducible refine y_R1v (by with_reducible assumption) ?_ ?_ ?_ ?_ ?_) <;> omega) | ((with_reducible refine y_R1m (by with_reducible assumption) ?_ ?_ ?_) <;> omega) | ((with_reducible refine y_P_put (by with_reducible assumption) ?_ ?_ ?_ ?_ ?_) <;> omega) | ((with_reducible refine y_PN_put (by with_reducible assumption) ?_ ?_ ?_ ?_ ?_) <;> omega) | ((with_reducible refine y_P1 (by with_reducible assumption) ?_) <;> omega) | (with_reducible exact y_Eq.rf _ _) | (exact Or.inl (by omega)) | (refine Or.inr (y_FitI (a := v3_4 + (1 : Int32)) (b := v3_3 + (1 : Int32)) ?_ ?_ ?_ ?_) <;> omega))
  · skip
    try have e7 := @y_addL v3_4 (1 : Int32) (1) rfl (by omega) (by omega)
    try have e8 := @y_addL v3_3 (1 : Int32) (1) rfl (by omega) (by omega)
    try have e9 := @y_mulB (v3_4 + (1 : Int32)) (v3_3 + (1 : Int32)) 20010 402 ⟨by omega, by omega⟩ ⟨by omega, by omega⟩ (by decide)
    have e10 : (20000 : Int32).toInt = 20000 := rfl
    have c1' := c1
    rw [Int32.le_iff_toInt_le] at c1'
    have e11 : (1 : Int32).toInt = 1 := rfl
    refine y_some ?_
    try dsimp only
    (first | with_reducible assumption | omega | ((with_reducible refine y_Vl ?_ ?_) <;> omega) | ((with_reducible refine y_Eq_cpy ?_) <;> omega) | ((with_reducible refine y_RIm (by with_reducible assumption) ?_ ?_ ?_) <;> omega) | ((with_reducible refine y_RIu (by with_reducible assumption) ?_ ?_ ?_ ?_ ?_) <;> omega) | ((with_reducible refine y_R1v (by with_reducible assumption) ?_ ?_ ?_ ?_ ?_) <;> omega) | ((with_reducible refine y_R1m (by with_reducible assumption) ?_ ?_ ?_) <;> omega) | ((with_reducible refine y_P_put (by with_reducible assumption) ?_ ?_ ?_ ?_ ?_) <;> omega) | ((with_reducible refine y_PN_put (by with_reducible assumption) ?_ ?_ ?_ ?_ ?_) <;> omega) | ((with_reducible refine y_P1 (by with_reducible assumption) ?_) <;> omega) | (with_reducible exact y_Eq.rf _ _) | (exact Or.inl (by omega)) | (refine Or.inr (y_FitI (a := v3_4 + (1 : Int32)) (b := v3_3 + (1 : Int32)) ?_ ?_ ?_ ?_) <;> omega))
set_option maxHeartbeats 4000000 in
theorem y_X3_isWideAt {g3_5 : Nat → Int32} {n3_5 : Nat} {p1 : Int32} (k0 : p1.toInt < n3_5) : y_Ok (f_X3_isWideAt g3_5 n3_5 p1) (fun r => (r.toInt = 0 ∨ r.toInt = 1)) := by
  unfold f_X3_isWideAt
  refine y_if (fun c1 => ?_) (fun c1 => ?_)
  · skip
    have e2 : (0 : Int32).toInt = 0 := rfl
    have c1' := c1
    rw [Int32.lt_iff_toInt_lt] at c1'
    refine y_some ?_
    try dsimp only
    (first | with_reducible assumption | omega | ((with_reducible refine y_Vl ?_ ?_) <;> omega))
  · skip
    have e3 : (0 : Int32).toInt = 0 := rfl
    have c1' := c1
    rw [Int32.lt_iff_toInt_lt] at c1'
    refine y_gd (y_gdI (by omega) (by omega)) ?_
    refine y_if (fun c4 => ?_) (fun c4 => ?_)
    · skip
      try have e5 := @y_cl p1 (by omega)
      have e6 : (3 : Int32).toInt = 3 := rfl
      have c4' := c4
      rw [← Int32.toInt_inj] at c4'
      have e7 : (1 : Int32).toInt = 1 := rfl
      refine y_some ?_
      try dsimp only
      (first | with_reducible assumption | omega | ((with_reducible refine y_Vl ?_ ?_) <;> omega))
    · skip
      try have e8 := @y_cl p1 (by omega)
      have e9 : (3 : Int32).toInt = 3 := rfl
      have c4' := c4
      rw [← Int32.toInt_inj] at c4'
      refine y_gd (y_gdI (by omega) (by omega)) ?_
      refine y_if (fun c10 => ?_) (fun c10 => ?_)
      · skip
        have e11 : (4 : Int32).toInt = 4 := rfl
        have c10' := c10
        rw [← Int32.toInt_inj] at c10'
        have e12 : (1 : Int32).toInt = 1 := rfl
        refine y_some ?_
        try dsimp only
        (first | with_reducible assumption | omega | ((with_reducible refine y_Vl ?_ ?_) <;> omega))
      · skip
        have e13 : (4 : Int32).toInt = 4 := rfl
        have c10' := c10
        rw [← Int32.toInt_inj] at c10'
        refine y_some ?_
        try dsimp only
        (first | with_reducible assumption | omega | ((with_reducible refine y_Vl ?_ ?_) <;> omega))
set_option maxHeartbeats 4000000 in
theorem y_X3_await {v3_13 : Int32} {v3_14 : Int32} {g3_12 : Nat → Int32} {n3_12 : Nat} {p1 : Int32} {n3 : Int} (hAW : y_AW n3 v3_13.toInt v3_14.toInt g3_12) (k1 : n3 ≤ n3_12) (k2 : 0 ≤ p1.toInt) (k3 : p1.toInt < n3) : y_Ok (f_X3_await v3_13 v3_14 g3_12 n3_12 p1) (fun r => (y_AW n3 r.1.toInt r.2.1.toInt r.2.2)) := by
  have hb := hAW.b
  unfold f_X3_await
  refine y_gd (y_gdI (by omega) (by omega)) ?_
  refine y_if (fun c1 => ?_) (fun c1 => ?_)
  · skip
    try have e2 := @y_cl p1 (by omega)
    have c1' : (g3_12 (Int32.toNatClampNeg p1)).toInt = -2 := (y_eqN rfl).mp c1
    refine y_gd (y_gdI (by omega) (by omega)) ?_
    refine y_if (fun c3 => ?_) (fun c3 => ?_)
    · skip
      have c3' : v3_14.toInt = -1 := (y_eqN rfl).mp c3
      refine y_some ?_
      try dsimp only
      (first | with_reducible assumption | omega | ((with_reducible refine y_Vl ?_ ?_) <;> omega) | ((with_reducible refine y_Eq_cpy ?_) <;> omega) | ((with_reducible refine y_RIm (by with_reducible assumption) ?_ ?_ ?_) <;> omega) | ((with_reducible refine y_RIu (by with_reducible assumption) ?_ ?_ ?_ ?_ ?_) <;> omega) | ((with_reducible refine y_R1v (by with_reducible assumption) ?_ ?_ ?_ ?_ ?_) <;> omega) | ((with_reducible refine y_R1m (by with_reducible assumption) ?_ ?_ ?_) <;> omega) | ((with_reducible refine y_P_put (by with_reducible assumption) ?_ ?_ ?_ ?_ ?_) <;> omega) | ((with_reducible refine y_PN_put (by with_reducible assumption) ?_ ?_ ?_ ?_ ?_) <;> omega) | ((with_reducible refine y_P1 (by with_reducible assumption) ?_) <;> omega) | (with_reducible exact y_Eq.rf _ _) | ((with_reducible refine y_AW_first hAW ?_ ?_ ?_ ?_ ?_) <;> (first | omega | rfl)) | ((with_reducible refine y_AW_last hAW ?_ ?_ ?_ ?_ ?_ ?_ ?_) <;> (first | omega | rfl)))
    · skip
      have c3' : ¬ v3_14.toInt = -1 := fun hz => c3 ((y_eqN rfl).mpr hz)
      refine y_gd (y_gdI (by omega) (by omega)) ?_
      try have e4 := @y_cl v3_14 (by omega)
      refine y_some ?_
      try dsimp only
      (first | with_reducible assumption | omega | ((with_reducible refine y_Vl ?_ ?_) <;> omega) | ((with_reducible refine y_Eq_cpy ?_) <;> omega) | ((with_reducible refine y_RIm (by with_reducible assumption) ?_ ?_ ?_) <;> omega) | ((with_reducible refine y_RIu (by with_reducible assumption) ?_ ?_ ?_ ?_ ?_) <;> omega) | ((with_reducible refine y_R1v (by with_reducible assumption) ?_ ?_ ?_ ?_ ?_) <;> omega) | ((with_reducible refine y_R1m (by with_reducible assumption) ?_ ?_ ?_) <;> omega) | ((with_reducible refine y_P_put (by with_reducible assumption) ?_ ?_ ?_ ?_ ?_) <;> omega) | ((with_reducible refine y_PN_put (by with_reducible assumption) ?_ ?_ ?_ ?_ ?_) <;> omega) | ((with_reducible refine y_P1 (by with_reducible assumption) ?_) <;> omega) | (with_reducible exact y_Eq.rf _ _) | ((with_reducible refine y_AW_first hAW ?_ ?_ ?_ ?_ ?_) <;> (first | omega | rfl)) | ((with_reducible refine y_AW_last hAW ?_ ?_ ?_ ?_ ?_ ?_ ?_) <;> (first | omega | rfl)))
  · skip
    try have e5 := @y_cl p1 (by omega)
    have c1' : ¬ (g3_12 (Int32.toNatClampNeg p1)).toInt = -2 := fun hz => c1 ((y_eqN rfl).mpr hz)
    refine y_some ?_
    try dsimp only
    (first | with_reducible assumption | omega | ((with_reducible refine y_Vl ?_ ?_) <;> omega) | ((with_reducible refine y_Eq_cpy ?_) <;> omega) | ((with_reducible refine y_RIm (by with_reducible assumption) ?_ ?_ ?_) <;> omega) | ((with_reducible refine y_RIu (by with_reducible assumption) ?_ ?_ ?_ ?_ ?_) <;> omega) | ((with_reducible refine y_R1v (by with_reducible assumption) ?_ ?_ ?_ ?_ ?_) <;> omega) | ((with_reducible refine y_R1m (by with_reducible assumption) ?_ ?_ ?_) <;> omega) | ((with_reducible refine y_P_put (by with_reducible assumption) ?_ ?_ ?_ ?_ ?_) <;> omega) | ((with_reducible refine y_PN_put (by with_reducible assumption) ?_ ?_ ?_ ?_ ?_) <;> omega) | ((with_reducible refine y_P1 (by with_reducible assumption) ?_) <;> omega) | (with_reducible exact y_Eq.rf _ _) | ((with_reducible refine y_AW_first hAW ?_ ?_ ?_ ?_ ?_) <;> (first | omega | rfl)) | ((with_reducible refine y_AW_last hAW ?_ ?_ ?_ ?_ ?_ ?_ ?_) <;> (first | omega | rfl)))
set_option maxHeartbeats 4000000 in
theorem y_X3_isAnyAwaited {v3_13 : Int32}  : y_Ok (f_X3_isAnyAwaited v3_13) (fun r => ((r.toInt = 0 ∧ v3_13.toInt = -1) ∨ (r.toInt = 1 ∧ ¬ v3_13.toInt = -1))) := by
  unfold f_X3_isAnyAwaited
  refine y_if (fun c1 => ?_) (fun c1 => ?_)
  · skip
    have c1' : v3_13.toInt = -1 := (y_eqN rfl).mp c1
    have e2 : (0 : Int32).toInt = 0 := rfl
    refine y_some ?_
    try dsimp only
    (first | with_reducible assumption | omega | ((with_reducible refine y_Vl ?_ ?_) <;> omega))
  · skip
    have c1' : ¬ v3_13.toInt = -1 := fun hz => c1 ((y_eqN rfl).mpr hz)
    have e3 : (1 : Int32).toInt = 1 := rfl
    refine y_some ?_
    try dsimp only
    (first | with_reducible assumption | omega | ((with_reducible refine y_Vl ?_ ?_) <;> omega))
set_option maxHeartbeats 4000000 in
theorem y_X3_takeAwaited {v3_13 : Int32} {v3_14 : Int32} {g3_12 : Nat → Int32} {n3_12 : Nat} {n3 : Int} (hAW : y_AW n3 v3_13.toInt v3_14.toInt g3_12) (k1 : n3 ≤ n3_12) (k2 : 0 ≤ v3_13.toInt) : y_Ok (f_X3_takeAwaited v3_13 v3_14 g3_12 n3_12) (fun r => (r.1.toInt = v3_13.toInt) ∧ (y_AW n3 r.2.1.toInt r.2.2.1.toInt r.2.2.2)) := by
  have hb := hAW.b
  unfold f_X3_takeAwaited
  refine y_gd (y_gdI (by omega) (by omega)) ?_
  refine y_if (fun c1 => ?_) (fun c1 => ?_)
  · skip
    try have e2 := @y_cl v3_13 (by omega)
    have c1' : (g3_12 (Int32.toNatClampNeg v3_13)).toInt = -1 := (y_eqN rfl).mp c1
    refine y_gd (y_gdI (by omega) (by omega)) ?_
    have e3 : (-1 : Int32).toInt = -1 := rfl
    refine y_some ?_
    try dsimp only
    refine ⟨?_, ?_⟩ <;> (first | with_reducible assumption | omega | ((with_reducible refine y_Vl ?_ ?_) <;> omega) | ((with_reducible refine y_Eq_cpy ?_) <;> omega) | ((with_reducible refine y_RIm (by with_reducible assumption) ?_ ?_ ?_) <;> omega) | ((with_reducible refine y_RIu (by with_reducible assumption) ?_ ?_ ?_ ?_ ?_) <;> omega) | ((with_reducible refine y_R1v (by with_reducible assumption) ?_ ?_ ?_ ?_ ?_) <;> omega) | ((with_reducible refine y_R1m (by with_reducible assumption) ?_ ?_ ?_) <;> omega) | ((with_reducible refine y_P_put (by with_reducible assumption) ?_ ?_ ?_ ?_ ?_) <;> omega) | ((with_reducible refine y_PN_put (by with_reducible assumption) ?_ ?_ ?_ ?_ ?_) <;> omega) | ((with_reducible refine y_P1 (by with_reducible assumption) ?_) <;> omega) | (with_reducible exact y_Eq.rf _ _) | ((with_reducible refine y_AW_take hAW ?_ ?_ ?_ ?_ ?_) <;> (first | omega | rfl | (exact Or.inl ⟨by omega, rfl⟩))))
  · skip
    try have e4 := @y_cl v3_13 (by omega)
    have c1' : ¬ (g3_12 (Int32.toNatClampNeg v3_13)).toInt = -1 := fun hz => c1 ((y_eqN rfl).mpr hz)
    refine y_gd (y_gdI (by omega) (by omega)) ?_
    refine y_some ?_
    try dsimp only
    refine ⟨?_, ?_⟩ <;> (first | with_reducible assumption | omega | ((with_reducible refine y_Vl ?_ ?_) <;> omega) | ((with_reducible refine y_Eq_cpy ?_) <;> omega) | ((with_reducible refine y_RIm (by with_reducible assumption) ?_ ?_ ?_) <;> omega) | ((with_reducible refine y_RIu (by with_reducible assumption) ?_ ?_ ?_ ?_ ?_) <;> omega) | ((with_reducible refine y_R1v (by with_reducible assumption) ?_ ?_ ?_ ?_ ?_) <;> omega) | ((with_reducible refine y_R1m (by with_reducible assumption) ?_ ?_ ?_) <;> omega) | ((with_reducible refine y_P_put (by with_reducible assumption) ?_ ?_ ?_ ?_ ?_) <;> omega) | ((with_reducible refine y_PN_put (by with_reducible assumption) ?_ ?_ ?_ ?_ ?_) <;> omega) | ((with_reducible refine y_P1 (by with_reducible assumption) ?_) <;> omega) | (with_reducible exact y_Eq.rf _ _) | ((with_reducible refine y_AW_take hAW ?_ ?_ ?_ ?_ ?_) <;> (first | omega | rfl | (exact Or.inl ⟨by omega, rfl⟩))))
set_option maxHeartbeats 4000000 in
theorem y_X3_makeRoom {v3_3 : Int32} {v3_4 : Int32} {g3_5 : Nat → Int32} {n3_5 : Nat} {g3_6 : Nat → Int32} {n3_6 : Nat} {g3_7 : Nat → Int32} {n3_7 : Nat} {g3_8 : Nat → Int32} {n3_8 : Nat} {g3_9 : Nat → Int32} {n3_9 : Nat} {g3_11 : Nat → Int32} {n3_11 : Nat} {g3_12 : Nat → Int32} {n3_12 : Nat} {N C : Nat} (k0 : n3_7 = n3_6) (k1 : n3_8 = n3_6) (k2 : n3_9 = n3_6) (k3 : n3_11 = n3_6) (k4 : n3_12 = n3_6) (k5 : 32 ≤ n3_6) (k6 : n3_6 ≤ 40002) (k7 : 1024 ≤ n3_5) (k8 : n3_5 ≤ 40000) (k9 : 0 ≤ v3_4.toInt) (k10 : v3_4.toInt ≤ n3_6) (k11 : 0 ≤ v3_3.toInt) (k12 : v3_3.toInt ≤ 400) (hC : (C : Int) = v3_3.toInt) (hN : (N : Int) = v3_4.toInt) (hav : y_AV n3_5 g3_5) (hfit2 : y_Fit (v3_4.toInt + 1) C) (k17 : v3_4.toInt ≤ 20000) : y_Ok (f_X3_makeRoom v3_3 v3_4 g3_5 n3_5 g3_6 n3_6 g3_7 n3_7 g3_8 n3_8 g3_9 n3_9 g3_11 n3_11 g3_12 n3_12) (fun r => (v3_4.toInt < r.2.2.2.1) ∧ (n3_6 ≤ r.2.2.2.1) ∧ (r.2.2.2.1 ≤ 40002) ∧ (n3_5 ≤ r.2.1) ∧ (r.2.1 ≤ 40000) ∧ (r.2.2.2.2.2.1 = r.2.2.2.1) ∧ (r.2.2.2.2.2.2.2.1 = r.2.2.2.1) ∧ (r.2.2.2.2.2.2.2.2.2.1 = r.2.2.2.1) ∧ (r.2.2.2.2.2.2.2.2.2.2.2.1 = r.2.2.2.1) ∧ (r.2.2.2.2.2.2.2.2.2.2.2.2.2.1 = r.2.2.2.1) ∧ (y_Eq N g3_6 r.2.2.1) ∧ (y_Eq N g3_7 r.2.2.2.2.1) ∧ (y_Eq N g3_8 r.2.2.2.2.2.2.1) ∧ (y_Eq N g3_9 r.2.2.2.2.2.2.2.2.1) ∧ (y_Eq N g3_11 r.2.2.2.2.2.2.2.2.2.2.1) ∧ (y_Eq N g3_12 r.2.2.2.2.2.2.2.2.2.2.2.2.1) ∧ (y_Eq n3_5 g3_5 r.1) ∧ (y_AV r.2.1 r.1) ∧ (y_Wd (v3_4.toInt + 1) C r.2.1) ∧ (16 * r.2.2.2.2.2.2.2.2.2.2.2.2.2.2.1 ≤ r.2.2.2.2.2.2.2.2.2.2.2.2.2.2.2) ∧ (r.2.2.2.2.2.2.2.2.2.2.2.2.2.2.2 + 12 * n3_6 + 2 * n3_5 ≤ 12 * r.2.2.2.1 + 2 * r.2.1) ∧ (y_Db n3_6 r.2.2.2.1)) := by
  have hs1 := @y_addL v3_4 1 1 rfl (by omega) (by omega)
  have hmm := @y_mulB (v3_4 + (1 : Int32)) v3_3 20010 402 ⟨by omega, by omega⟩ ⟨by omega, by omega⟩ (by decide)
  have hw20 : ((v3_4 + (1 : Int32)) * v3_3).toInt ≤ 20000 := by rw [hmm.1, hs1, ← hC]; exact hfit2.wd (by omega)
  unfold f_X3_makeRoom
  refine y_if (fun c1 => ?_) (fun c1 => ?_)
  · skip
    try have e2 := @y_ofNat n3_6 (by omega)
    have c1' := c1
    rw [Int32.lt_iff_toInt_lt] at c1'
    refine y_if (fun c3 => ?_) (fun c3 => ?_)
    · skip
      try have e4 := @y_addL v3_4 (1 : Int32) (1) rfl (by omega) (by omega)
      try have e5 := @y_mulB (v3_4 + (1 : Int32)) v3_3 20010 402 ⟨by omega, by omega⟩ ⟨by omega, by omega⟩ (by decide)
      try have e6 := @y_ofNat n3_5 (by omega)
      have c3' := c3
      rw [Int32.le_iff_toInt_le] at c3'
      have e7 : (0 : Int32).toInt = 0 := rfl
      refine y_some ?_
      try dsimp only
      refine ⟨?_, ?_, ?_, ?_, ?_, ?_, ?_, ?_, ?_, ?_, ?_, ?_, ?_, ?_, ?_, ?_, ?_, ?_, ?_, ?_, ?_, ?_⟩ <;> (first | with_reducible assumption | omega | ((with_reducible refine y_Vl ?_ ?_) <;> omega) | ((with_reducible refine y_Eq_cpy ?_) <;> omega) | ((with_reducible refine y_RIm (by with_reducible assumption) ?_ ?_ ?_) <;> omega) | ((with_reducible refine y_RIu (by with_reducible assumption) ?_ ?_ ?_ ?_ ?_) <;> omega) | ((with_reducible refine y_R1v (by with_reducible assumption) ?_ ?_ ?_ ?_ ?_) <;> omega) | ((with_reducible refine y_R1m (by with_reducible assumption) ?_ ?_ ?_) <;> omega) | ((with_reducible refine y_P_put (by with_reducible assumption) ?_ ?_ ?_ ?_ ?_) <;> omega) | ((with_reducible refine y_PN_put (by with_reducible assumption) ?_ ?_ ?_ ?_ ?_) <;> omega) | ((with_reducible refine y_P1 (by with_reducible assumption) ?_) <;> omega) | (with_reducible exact y_Eq.rf _ _) | ((with_reducible refine y_AV_grow (by with_reducible assumption) ?_) <;> omega) | ((with_reducible refine y_WdI (a := v3_4 + (1 : Int32)) (b := v3_3) ?_ ?_ ?_ ?_) <;> omega) | (with_reducible exact y_Db.rf _) | (exact y_Db.tr (by with_reducible assumption) (by with_reducible assumption)) | (exact y_DbI (by omega)))
    · skip
      try have e8 := @y_addL v3_4 (1 : Int32) (1) rfl (by omega) (by omega)
      try have e9 := @y_mulB (v3_4 + (1 : Int32)) v3_3 20010 402 ⟨by omega, by omega⟩ ⟨by omega, by omega⟩ (by decide)
      try have e10 := @y_ofNat n3_5 (by omega)
      have c3' := c3
      rw [Int32.le_iff_toInt_le] at c3'
      have e11 : (2 : Int32).toInt = 2 := rfl
      try have e12 := @y_mulL (2 : Int32) ((v3_4 + (1 : Int32)) * v3_3) 2 rfl (by omega) (by omega)
      refine y_gd (y_ngI (by omega) (by omega) (by omega)) ?_
      refine y_bt ?_
      refine y_some ?_
      try dsimp only
      have e13 : (0 : Int32).toInt = 0 := rfl
      try have e14 := @y_cl (0 : Int32) (by omega)
      try have e15 := @y_cl (Int32.ofNat n3_5) (by omega)
      try have e16 := @y_cl ((2 : Int32) * ((v3_4 + (1 : Int32)) * v3_3)) (by omega)
      try have e17 := @y_addL (0 : Int32) (1 : Int32) (1) rfl (by omega) (by omega)
      try have e18 := @y_add (0 : Int32) (Int32.toNatClampNeg ((2 : Int32) * ((v3_4 + (1 : Int32)) * v3_3))) (by omega) (by omega)
      refine y_some ?_
      try dsimp only
      refine ⟨?_, ?_, ?_, ?_, ?_, ?_, ?_, ?_, ?_, ?_, ?_, ?_, ?_, ?_, ?_, ?_, ?_, ?_, ?_, ?_, ?_, ?_⟩ <;> (first | with_reducible assumption | omega | ((with_reducible refine y_Vl ?_ ?_) <;> omega) | ((with_reducible refine y_Eq_cpy ?_) <;> omega) | ((with_reducible refine y_RIm (by with_reducible assumption) ?_ ?_ ?_) <;> omega) | ((with_reducible refine y_RIu (by with_reducible assumption) ?_ ?_ ?_ ?_ ?_) <;> omega) | ((with_reducible refine y_R1v (by with_reducible assumption) ?_ ?_ ?_ ?_ ?_) <;> omega) | ((with_reducible refine y_R1m (by with_reducible assumption) ?_ ?_ ?_) <;> omega) | ((with_reducible refine y_P_put (by with_reducible assumption) ?_ ?_ ?_ ?_ ?_) <;> omega) | ((with_reducible refine y_PN_put (by with_reducible assumption) ?_ ?_ ?_ ?_ ?_) <;> omega) | ((with_reducible refine y_P1 (by with_reducible assumption) ?_) <;> omega) | (with_reducible exact y_Eq.rf _ _) | ((with_reducible refine y_AV_grow (by with_reducible assumption) ?_) <;> omega) | ((with_reducible refine y_WdI (a := v3_4 + (1 : Int32)) (b := v3_3) ?_ ?_ ?_ ?_) <;> omega) | (with_reducible exact y_Db.rf _) | (exact y_Db.tr (by with_reducible assumption) (by with_reducible assumption)) | (exact y_DbI (by omega)))
  · skip
    try have e19 := @y_ofNat n3_6 (by omega)
    have c1' := c1
    rw [Int32.lt_iff_toInt_lt] at c1'
    have e20 : (2 : Int32).toInt = 2 := rfl
    try have e21 := @y_mulL (2 : Int32) v3_4 2 rfl (by omega) (by omega)
    refine y_gd (y_ngI (by omega) (by omega) (by omega)) ?_
    refine y_bt ?_
    refine y_gd (y_ngI (by omega) (by omega) (by omega)) ?_
    refine y_bt ?_
    refine y_gd (y_ngI (by omega) (by omega) (by omega)) ?_
    refine y_bt ?_
    refine y_gd (y_ngI (by omega) (by omega) (by omega)) ?_
    refine y_bt ?_
    refine y_gd (y_ngI (by omega) (by omega) (by omega)) ?_
    refine y_bt ?_
    refine y_gd (y_ngI (by omega) (by omega) (by omega)) ?_
    refine y_bt ?_
    refine y_if (fun c22 => ?_) (fun c22 => ?_)
    · skip
      try have e23 := @y_addL v3_4 (1 : Int32) (1) rfl (by omega) (by omega)
      try have e24 := @y_mulB (v3_4 + (1 : Int32)) v3_3 20010 402 ⟨by omega, by omega⟩ ⟨by omega, by omega⟩ (by decide)
      try have e25 := @y_ofNat n3_5 (by omega)
      have c22' := c22
      rw [Int32.le_iff_toInt_le] at c22'
      refine y_some ?_
      try dsimp only
      refine y_some ?_
      try dsimp only
      refine y_some ?_
      try dsimp only
      refine y_some ?_
      try dsimp only
      refine y_some ?_
      try dsimp only
      refine y_some ?_
      try dsimp only
      have e26 : (0 : Int32).toInt = 0 := rfl
      try have e27 := @y_cl (0 : Int32) (by omega)
      try have e28 := @y_cl (Int32.ofNat n3_6) (by omega)
      try have e29 := @y_cl ((2 : Int32) * v3_4) (by omega)
      try have e30 := @y_ofNat n3_7 (by omega)
      try have e31 := @y_cl (Int32.ofNat n3_7) (by omega)
      try have e32 := @y_ofNat n3_8 (by omega)
      try have e33 := @y_cl (Int32.ofNat n3_8) (by omega)
      try have e34 := @y_ofNat n3_9 (by omega)
      try have e35 := @y_cl (Int32.ofNat n3_9) (by omega)
      try have e36 := @y_ofNat n3_11 (by omega)
      try have e37 := @y_cl (Int32.ofNat n3_11) (by omega)
      try have e38 := @y_ofNat n3_12 (by omega)
      try have e39 := @y_cl (Int32.ofNat n3_12) (by omega)
      try have e40 := @y_addL (0 : Int32) (1 : Int32) (1) rfl (by omega) (by omega)
      try have e41 := @y_addL ((0 : Int32) + (1 : Int32)) (1 : Int32) (1) rfl (by omega) (by omega)
      try have e42 := @y_addL (((0 : Int32) + (1 : Int32)) + (1 : Int32)) (1 : Int32) (1) rfl (by omega) (by omega)
      try have e43 := @y_addL ((((0 : Int32) + (1 : Int32)) + (1 : Int32)) + (1 : Int32)) (1 : Int32) (1) rfl (by omega) (by omega)
      try have e44 := @y_addL (((((0 : Int32) + (1 : Int32)) + (1 : Int32)) + (1 : Int32)) + (1 : Int32)) (1 : Int32) (1) rfl (by omega) (by omega)
      try have e45 := @y_addL ((((((0 : Int32) + (1 : Int32)) + (1 : Int32)) + (1 : Int32)) + (1 : Int32)) + (1 : Int32)) (1 : Int32) (1) rfl (by omega) (by omega)
      try have e46 := @y_add (0 : Int32) (Int32.toNatClampNeg ((2 : Int32) * v3_4)) (by omega) (by omega)
      try have e47 := @y_add ((0 : Int32) + (Int32.toNatClampNeg ((2 : Int32) * v3_4))) (Int32.toNatClampNeg ((2 : Int32) * v3_4)) (by omega) (by omega)
      try have e48 := @y_add (((0 : Int32) + (Int32.toNatClampNeg ((2 : Int32) * v3_4))) + (Int32.toNatClampNeg ((2 : Int32) * v3_4))) (Int32.toNatClampNeg ((2 : Int32) * v3_4)) (by omega) (by omega)
      try have e49 := @y_add ((((0 : Int32) + (Int32.toNatClampNeg ((2 : Int32) * v3_4))) + (Int32.toNatClampNeg ((2 : Int32) * v3_4))) + (Int32.toNatClampNeg ((2 : Int32) * v3_4))) (Int32.toNatClampNeg ((2 : Int32) * v3_4)) (by omega) (by omega)
      try have e50 := @y_add (((((0 : Int32) + (Int32.toNatClampNeg ((2 : Int32) * v3_4))) + (Int32.toNatClampNeg ((2 : Int32) * v3_4))) + (Int32.toNatClampNeg ((2 : Int32) * v3_4))) + (Int32.toNatClampNeg ((2 : Int32) * v3_4))) (Int32.toNatClampNeg ((2 : Int32) * v3_4)) (by omega) (by omega)
      try have e51 := @y_add ((((((0 : Int32) + (Int32.toNatClampNeg ((2 : Int32) * v3_4))) + (Int32.toNatClampNeg ((2 : Int32) * v3_4))) + (Int32.toNatClampNeg ((2 : Int32) * v3_4))) + (Int32.toNatClampNeg ((2 : Int32) * v3_4))) + (Int32.toNatClampNeg ((2 : Int32) * v3_4))) (Int32.toNatClampNeg ((2 : Int32) * v3_4)) (by omega) (by omega)
      refine y_some ?_
      try dsimp only
      refine ⟨?_, ?_, ?_, ?_, ?_, ?_, ?_, ?_, ?_, ?_, ?_, ?_, ?_, ?_, ?_, ?_, ?_, ?_, ?_, ?_, ?_, ?_⟩ <;> (first | with_reducible assumption | omega | ((with_reducible refine y_Vl ?_ ?_) <;> omega) | ((with_reducible refine y_Eq_cpy ?_) <;> omega) | ((with_reducible refine y_RIm (by with_reducible assumption) ?_ ?_ ?_) <;> omega) | ((with_reducible refine y_RIu (by with_reducible assumption) ?_ ?_ ?_ ?_ ?_) <;> omega) | ((with_reducible refine y_R1v (by with_reducible assumption) ?_ ?_ ?_ ?_ ?_) <;> omega) | ((with_reducible refine y_R1m (by with_reducible assumption) ?_ ?_ ?_) <;> omega) | ((with_reducible refine y_P_put (by with_reducible assumption) ?_ ?_ ?_ ?_ ?_) <;> omega) | ((with_reducible refine y_PN_put (by with_reducible assumption) ?_ ?_ ?_ ?_ ?_) <;> omega) | ((with_reducible refine y_P1 (by with_reducible assumption) ?_) <;> omega) | (with_reducible exact y_Eq.rf _ _) | ((with_reducible refine y_AV_grow (by with_reducible assumption) ?_) <;> omega) | ((with_reducible refine y_WdI (a := v3_4 + (1 : Int32)) (b := v3_3) ?_ ?_ ?_ ?_) <;> omega) | (with_reducible exact y_Db.rf _) | (exact y_Db.tr (by with_reducible assumption) (by with_reducible assumption)) | (exact y_DbI (by omega)))
    · skip
      try have e52 := @y_addL v3_4 (1 : Int32) (1) rfl (by omega) (by omega)
      try have e53 := @y_mulB (v3_4 + (1 : Int32)) v3_3 20010 402 ⟨by omega, by omega⟩ ⟨by omega, by omega⟩ (by decide)
      try have e54 := @y_ofNat n3_5 (by omega)
      have c22' := c22
      rw [Int32.le_iff_toInt_le] at c22'
      try have e55 := @y_mulL (2 : Int32) ((v3_4 + (1 : Int32)) * v3_3) 2 rfl (by omega) (by omega)
      refine y_gd (y_ngI (by omega) (by omega) (by omega)) ?_
      refine y_bt ?_
      refine y_some ?_
      try dsimp only
      refine y_some ?_
      try dsimp only
      refine y_some ?_
      try dsimp only
      refine y_some ?_
      try dsimp only
      refine y_some ?_
      try dsimp only
      refine y_some ?_
      try dsimp only
      refine y_some ?_
      try dsimp only
      have e56 : (0 : Int32).toInt = 0 := rfl
      try have e57 := @y_cl (0 : Int32) (by omega)
      try have e58 := @y_cl (Int32.ofNat n3_5) (by omega)
      try have e59 := @y_cl ((2 : Int32) * ((v3_4 + (1 : Int32)) * v3_3)) (by omega)
      try have e60 := @y_cl (Int32.ofNat n3_6) (by omega)
      try have e61 := @y_cl ((2 : Int32) * v3_4) (by omega)
      try have e62 := @y_ofNat n3_7 (by omega)
      try have e63 := @y_cl (Int32.ofNat n3_7) (by omega)
      try have e64 := @y_ofNat n3_8 (by omega)
      try have e65 := @y_cl (Int32.ofNat n3_8) (by omega)
      try have e66 := @y_ofNat n3_9 (by omega)
      try have e67 := @y_cl (Int32.ofNat n3_9) (by omega)
      try have e68 := @y_ofNat n3_11 (by omega)
      try have e69 := @y_cl (Int32.ofNat n3_11) (by omega)
      try have e70 := @y_ofNat n3_12 (by omega)
      try have e71 := @y_cl (Int32.ofNat n3_12) (by omega)
      try have e72 := @y_addL (0 : Int32) (1 : Int32) (1) rfl (by omega) (by omega)
      try have e73 := @y_addL ((0 : Int32) + (1 : Int32)) (1 : Int32) (1) rfl (by omega) (by omega)
      try have e74 := @y_addL (((0 : Int32) + (1 : Int32)) + (1 : Int32)) (1 : Int32) (1) rfl (by omega) (by omega)
      try have e75 := @y_addL ((((0 : Int32) + (1 : Int32)) + (1 : Int32)) + (1 : Int32)) (1 : Int32) (1) rfl (by omega) (by omega)
      try have e76 := @y_addL (((((0 : Int32) + (1 : Int32)) + (1 : Int32)) + (1 : Int32)) + (1 : Int32)) (1 : Int32) (1) rfl (by omega) (by omega)
      try have e77 := @y_addL ((((((0 : Int32) + (1 : Int32)) + (1 : Int32)) + (1 : Int32)) + (1 : Int32)) + (1 : Int32)) (1 : Int32) (1) rfl (by omega) (by omega)
      try have e78 := @y_addL (((((((0 : Int32) + (1 : Int32)) + (1 : Int32)) + (1 : Int32)) + (1 : Int32)) + (1 : Int32)) + (1 : Int32)) (1 : Int32) (1) rfl (by omega) (by omega)
      try have e79 := @y_add (0 : Int32) (Int32.toNatClampNeg ((2 : Int32) * ((v3_4 + (1 : Int32)) * v3_3))) (by omega) (by omega)
      try have e80 := @y_add ((0 : Int32) + (Int32.toNatClampNeg ((2 : Int32) * ((v3_4 + (1 : Int32)) * v3_3)))) (Int32.toNatClampNeg ((2 : Int32) * v3_4)) (by omega) (by omega)
      try have e81 := @y_add (((0 : Int32) + (Int32.toNatClampNeg ((2 : Int32) * ((v3_4 + (1 : Int32)) * v3_3)))) + (Int32.toNatClampNeg ((2 : Int32) * v3_4))) (Int32.toNatClampNeg ((2 : Int32) * v3_4)) (by omega) (by omega)
      try have e82 := @y_add ((((0 : Int32) + (Int32.toNatClampNeg ((2 : Int32) * ((v3_4 + (1 : Int32)) * v3_3)))) + (Int32.toNatClampNeg ((2 : Int32) * v3_4))) + (Int32.toNatClampNeg ((2 : Int32) * v3_4))) (Int32.toNatClampNeg ((2 : Int32) * v3_4)) (by omega) (by omega)
      try have e83 := @y_add (((((0 : Int32) + (Int32.toNatClampNeg ((2 : Int32) * ((v3_4 + (1 : Int32)) * v3_3)))) + (Int32.toNatClampNeg ((2 : Int32) * v3_4))) + (Int32.toNatClampNeg ((2 : Int32) * v3_4))) + (Int32.toNatClampNeg ((2 : Int32) * v3_4))) (Int32.toNatClampNeg ((2 : Int32) * v3_4)) (by omega) (by omega)
      try have e84 := @y_add ((((((0 : Int32) + (Int32.toNatClampNeg ((2 : Int32) * ((v3_4 + (1 : Int32)) * v3_3)))) + (Int32.toNatClampNeg ((2 : Int32) * v3_4))) + (Int32.toNatClampNeg ((2 : Int32) * v3_4))) + (Int32.toNatClampNeg ((2 : Int32) * v3_4))) + (Int32.toNatClampNeg ((2 : Int32) * v3_4))) (Int32.toNatClampNeg ((2 : Int32) * v3_4)) (by omega) (by omega)
      try have e85 := @y_add (((((((0 : Int32) + (Int32.toNatClampNeg ((2 : Int32) * ((v3_4 + (1 : Int32)) * v3_3)))) + (Int32.toNatClampNeg ((2 : Int32) * v3_4))) + (Int32.toNatClampNeg ((2 : Int32) * v3_4))) + (Int32.toNatClampNeg ((2 : Int32) * v3_4))) + (Int32.toNatClampNeg ((2 : Int32) * v3_4))) + (Int32.toNatClampNeg ((2 : Int32) * v3_4))) (Int32.toNatClampNeg ((2 : Int32) * v3_4)) (by omega) (by omega)
      refine y_some ?_
      try dsimp only
      refine ⟨?_, ?_, ?_, ?_, ?_, ?_, ?_, ?_, ?_, ?_, ?_, ?_, ?_, ?_, ?_, ?_, ?_, ?_, ?_, ?_, ?_, ?_⟩ <;> (first | with_reducible assumption | omega | ((with_reducible refine y_Vl ?_ ?_) <;> omega) | ((with_reducible refine y_Eq_cpy ?_) <;> omega) | ((with_reducible refine y_RIm (by with_reducible assumption) ?_ ?_ ?_) <;> omega) | ((with_reducible refine y_RIu (by with_reducible assumption) ?_ ?_ ?_ ?_ ?_) <;> omega) | ((with_reducible refine y_R1v (by with_reducible assumption) ?_ ?_ ?_ ?_ ?_) <;> omega) | ((with_reducible refine y_R1m (by with_reducible assumption) ?_ ?_ ?_) <;> omega) | ((with_reducible refine y_P_put (by with_reducible assumption) ?_ ?_ ?_ ?_ ?_) <;> omega) | ((with_reducible refine y_PN_put (by with_reducible assumption) ?_ ?_ ?_ ?_ ?_) <;> omega) | ((with_reducible refine y_P1 (by with_reducible assumption) ?_) <;> omega) | (with_reducible exact y_Eq.rf _ _) | ((with_reducible refine y_AV_grow (by with_reducible assumption) ?_) <;> omega) | ((with_reducible refine y_WdI (a := v3_4 + (1 : Int32)) (b := v3_3) ?_ ?_ ?_ ?_) <;> omega) | (with_reducible exact y_Db.rf _) | (exact y_Db.tr (by with_reducible assumption) (by with_reducible assumption)) | (exact y_DbI (by omega)))
set_option maxHeartbeats 4000000 in
theorem y_X3_open {v3_2 : Int32} {v3_3 : Int32} {v3_4 : Int32} {v3_13 : Int32} {v3_14 : Int32} {g3_5 : Nat → Int32} {n3_5 : Nat} {g3_6 : Nat → Int32} {n3_6 : Nat} {g3_7 : Nat → Int32} {n3_7 : Nat} {g3_8 : Nat → Int32} {n3_8 : Nat} {g3_9 : Nat → Int32} {n3_9 : Nat} {g3_10 : Nat → Int32} {g3_11 : Nat → Int32} {n3_11 : Nat} {g3_12 : Nat → Int32} {n3_12 : Nat} {v5_3 : Int32} {v5_5 : Int32} {g5_1 : Nat → Int32} {p1 : Int32} {p2 : Int32} {C : Nat} {mn B B2 : Int} (k0 : n3_7 = n3_6) (k1 : n3_8 = n3_6) (k2 : n3_9 = n3_6) (k3 : n3_11 = n3_6) (k4 : n3_12 = n3_6) (k5 : 32 ≤ n3_6) (k6 : n3_6 ≤ 40002) (k7 : 1024 ≤ n3_5) (k8 : n3_5 ≤ 40000) (k9 : 0 ≤ v3_4.toInt) (k10 : v3_4.toInt ≤ n3_6) (k11 : 0 ≤ v3_3.toInt) (k12 : v3_3.toInt ≤ 400) (hC : (C : Int) = v3_3.toInt) (k14 : 0 ≤ v3_2.toInt) (k15 : v3_2.toInt ≤ v3_3.toInt) (hfit : y_Fit v3_4.toInt C) (htg : y_RI v3_4.toInt 0 mn g3_6) (hwy : y_RI v3_4.toInt 0 B g3_7) (hht : y_RI v3_4.toInt 0 (v3_3.toInt - v3_2.toInt) g3_8) (hmd : y_RI v3_4.toInt 0 1 g3_9) (hhd : y_RI 256 (-1) (v3_4.toInt - 1) g3_10) (hno : y_RI v3_4.toInt (-1) (v3_4.toInt - 1) g3_11) (hAW : y_AW v3_4.toInt v3_13.toInt v3_14.toInt g3_12) (hav : y_AV n3_5 g3_5) (hwd : y_Wd v3_4.toInt C n3_5) (k26 : v3_4.toInt ≤ 20000) (hfit2 : y_Fit (v3_4.toInt + 1) C) (k28 : B ≤ B2) (k29 : mn ≤ 999) (k30 : 0 ≤ p1.toInt) (k31 : p1.toInt ≤ mn) (k32 : 0 ≤ p2.toInt) (k33 : p2.toInt ≤ B2) (hce : y_AV 400 g5_1) (k35 : v3_2.toInt ≤ v5_3.toInt) (k36 : v5_3.toInt ≤ v3_3.toInt) (k37 : 0 ≤ v5_5.toInt) (k38 : v5_5.toInt ≤ 1) : y_Ok (f_X3_open v3_2 v3_3 v3_4 v3_13 v3_14 g3_5 n3_5 g3_6 n3_6 g3_7 n3_7 g3_8 n3_8 g3_9 n3_9 g3_10 g3_11 n3_11 g3_12 n3_12 v5_3 v5_5 g5_1 p1 p2) (fun r => (r.1.toInt = v3_4.toInt + 1) ∧ (r.1.toInt ≤ r.2.2.2.2.2.2.1) ∧ (r.2.2.2.2.2.2.2.2.1 = r.2.2.2.2.2.2.1) ∧ (r.2.2.2.2.2.2.2.2.2.2.1 = r.2.2.2.2.2.2.1) ∧ (r.2.2.2.2.2.2.2.2.2.2.2.2.1 = r.2.2.2.2.2.2.1) ∧ (r.2.2.2.2.2.2.2.2.2.2.2.2.2.2.2.1 = r.2.2.2.2.2.2.1) ∧ (r.2.2.2.2.2.2.2.2.2.2.2.2.2.2.2.2.2.1 = r.2.2.2.2.2.2.1) ∧ (n3_6 ≤ r.2.2.2.2.2.2.1) ∧ (r.2.2.2.2.2.2.1 ≤ 40002) ∧ (n3_5 ≤ r.2.2.2.2.1) ∧ (r.2.2.2.2.1 ≤ 40000) ∧ (y_RI r.1.toInt 0 mn r.2.2.2.2.2.1) ∧ (y_RI r.1.toInt 0 B2 r.2.2.2.2.2.2.2.1) ∧ (y_RI r.1.toInt 0 (v3_3.toInt - v3_2.toInt) r.2.2.2.2.2.2.2.2.2.1) ∧ (y_RI r.1.toInt 0 1 r.2.2.2.2.2.2.2.2.2.2.2.1) ∧ (y_RI 256 (-1) (r.1.toInt - 1) r.2.2.2.2.2.2.2.2.2.2.2.2.2.1) ∧ (y_RI r.1.toInt (-1) (r.1.toInt - 1) r.2.2.2.2.2.2.2.2.2.2.2.2.2.2.1) ∧ (y_AW r.1.toInt r.2.1.toInt r.2.2.1.toInt r.2.2.2.2.2.2.2.2.2.2.2.2.2.2.2.2.1) ∧ (y_AV r.2.2.2.2.1 r.2.2.2.1) ∧ (y_Wd r.1.toInt C r.2.2.2.2.1) ∧ (16 * r.2.2.2.2.2.2.2.2.2.2.2.2.2.2.2.2.2.2.1 ≤ r.2.2.2.2.2.2.2.2.2.2.2.2.2.2.2.2.2.2.2) ∧ (r.2.2.2.2.2.2.2.2.2.2.2.2.2.2.2.2.2.2.2 + 12 * n3_6 + 2 * n3_5 ≤ 12 * r.2.2.2.2.2.2.1 + 2 * r.2.2.2.2.1) ∧ (y_Db n3_6 r.2.2.2.2.2.2.1)) := by
  have hv34 := @y_cl v3_4 (by omega)
  have hs1 := @y_addL v3_4 1 1 rfl (by omega) (by omega)
  unfold f_X3_open
  refine y_bi (y_X3_makeRoom (N := Int32.toNatClampNeg v3_4) (C := C) (by first | with_reducible assumption | omega | ((with_reducible refine y_Vl ?_ ?_) <;> omega) | ((with_reducible refine y_Eq_cpy ?_) <;> omega) | ((with_reducible refine y_RIm (by with_reducible assumption) ?_ ?_ ?_) <;> omega) | ((with_reducible refine y_RIu (by with_reducible assumption) ?_ ?_ ?_ ?_ ?_) <;> omega) | ((with_reducible refine y_R1v (by with_reducible assumption) ?_ ?_ ?_ ?_ ?_) <;> omega) | ((with_reducible refine y_R1m (by with_reducible assumption) ?_ ?_ ?_) <;> omega) | ((with_reducible refine y_P_put (by with_reducible assumption) ?_ ?_ ?_ ?_ ?_) <;> omega) | ((with_reducible refine y_PN_put (by with_reducible assumption) ?_ ?_ ?_ ?_ ?_) <;> omega) | ((with_reducible refine y_P1 (by with_reducible assumption) ?_) <;> omega) | (with_reducible exact y_Eq.rf _ _) | ((with_reducible refine y_AV_cpy (by with_reducible assumption) ?_ (by with_reducible assumption)) <;> (first | omega | (rw [y_tn0]; omega))) | ((with_reducible refine y_Wd.mono (by with_reducible assumption) ?_ ?_) <;> omega) | (with_reducible exact y_Db.rf _) | (exact y_Db.tr (by with_reducible assumption) (by with_reducible assumption)) | (exact y_DbI (by omega))) (by first | with_reducible assumption | omega | ((with_reducible refine y_Vl ?_ ?_) <;> omega) | ((with_reducible refine y_Eq_cpy ?_) <;> omega) | ((with_reducible refine y_RIm (by with_reducible assumption) ?_ ?_ ?_) <;> omega) | ((with_reducible refine y_RIu (by with_reducible assumption) ?_ ?_ ?_ ?_ ?_) <;> omega) | ((with_reducible refine y_R1v (by with_reducible assumption) ?_ ?_ ?_ ?_ ?_) <;> omega) | ((with_reducible refine y_R1m (by with_reducible assumption) ?_ ?_ ?_) <;> omega) | ((with_reducible refine y_P_put (by with_reducible assumption) ?_ ?_ ?_ ?_ ?_) <;> omega) | ((with_reducible refine y_PN_put (by with_reducible assumption) ?_ ?_ ?_ ?_ ?_) <;> omega) | ((with_reducible refine y_P1 (by with_reducible assumption) ?_) <;> omega) | (with_reducible exact y_Eq.rf _ _) | ((with_reducible refine y_AV_cpy (by with_reducible assumption) ?_ (by with_reducible assumption)) <;> (first | omega | (rw [y_tn0]; omega))) | ((with_reducible refine y_Wd.mono (by with_reducible assumption) ?_ ?_) <;> omega) | (with_reducible exact y_Db.rf _) | (exact y_Db.tr (by with_reducible assumption) (by with_reducible assumption)) | (exact y_DbI (by omega))) (by first | with_reducible assumption | omega | ((with_reducible refine y_Vl ?_ ?_) <;> omega) | ((with_reducible refine y_Eq_cpy ?_) <;> omega) | ((with_reducible refine y_RIm (by with_reducible assumption) ?_ ?_ ?_) <;> omega) | ((with_reducible refine y_RIu (by with_reducible assumption) ?_ ?_ ?_ ?_ ?_) <;> omega) | ((with_reducible refine y_R1v (by with_reducible assumption) ?_ ?_ ?_ ?_ ?_) <;> omega) | ((with_reducible refine y_R1m (by with_reducible assumption) ?_ ?_ ?_) <;> omega) | ((with_reducible refine y_P_put (by with_reducible assumption) ?_ ?_ ?_ ?_ ?_) <;> omega) | ((with_reducible refine y_PN_put (by with_reducible assumption) ?_ ?_ ?_ ?_ ?_) <;> omega) | ((with_reducible refine y_P1 (by with_reducible assumption) ?_) <;> omega) | (with_reducible exact y_Eq.rf _ _) | ((with_reducible refine y_AV_cpy (by with_reducible assumption) ?_ (by with_reducible assumption)) <;> (first | omega | (rw [y_tn0]; omega))) | ((with_reducible refine y_Wd.mono (by with_reducible assumption) ?_ ?_) <;> omega) | (with_reducible exact y_Db.rf _) | (exact y_Db.tr (by with_reducible assumption) (by with_reducible assumption)) | (exact y_DbI (by omega))) (by first | with_reducible assumption | omega | ((with_reducible refine y_Vl ?_ ?_) <;> omega) | ((with_reducible refine y_Eq_cpy ?_) <;> omega) | ((with_reducible refine y_RIm (by with_reducible assumption) ?_ ?_ ?_) <;> omega) | ((with_reducible refine y_RIu (by with_reducible assumption) ?_ ?_ ?_ ?_ ?_) <;> omega) | ((with_reducible refine y_R1v (by with_reducible assumption) ?_ ?_ ?_ ?_ ?_) <;> omega) | ((with_reducible refine y_R1m (by with_reducible assumption) ?_ ?_ ?_) <;> omega) | ((with_reducible refine y_P_put (by with_reducible assumption) ?_ ?_ ?_ ?_ ?_) <;> omega) | ((with_reducible refine y_PN_put (by with_reducible assumption) ?_ ?_ ?_ ?_ ?_) <;> omega) | ((with_reducible refine y_P1 (by with_reducible assumption) ?_) <;> omega) | (with_reducible exact y_Eq.rf _ _) | ((with_reducible refine y_AV_cpy (by with_reducible assumption) ?_ (by with_reducible assumption)) <;> (first | omega | (rw [y_tn0]; omega))) | ((with_reducible refine y_Wd.mono (by with_reducible assumption) ?_ ?_) <;> omega) | (with_reducible exact y_Db.rf _) | (exact y_Db.tr (by with_reducible assumption) (by with_reducible assumption)) | (exact y_DbI (by omega))) (by first | with_reducible assumption | omega | ((with_reducible refine y_Vl ?_ ?_) <;> omega) | ((with_reducible refine y_Eq_cpy ?_) <;> omega) | ((with_reducible refine y_RIm (by with_reducible assumption) ?_ ?_ ?_) <;> omega) | ((with_reducible refine y_RIu (by with_reducible assumption) ?_ ?_ ?_ ?_ ?_) <;> omega) | ((with_reducible refine y_R1v (by with_reducible assumption) ?_ ?_ ?_ ?_ ?_) <;> omega) | ((with_reducible refine y_R1m (by with_reducible assumption) ?_ ?_ ?_) <;> omega) | ((with_reducible refine y_P_put (by with_reducible assumption) ?_ ?_ ?_ ?_ ?_) <;> omega) | ((with_reducible refine y_PN_put (by with_reducible assumption) ?_ ?_ ?_ ?_ ?_) <;> omega) | ((with_reducible refine y_P1 (by with_reducible assumption) ?_) <;> omega) | (with_reducible exact y_Eq.rf _ _) | ((with_reducible refine y_AV_cpy (by with_reducible assumption) ?_ (by with_reducible assumption)) <;> (first | omega | (rw [y_tn0]; omega))) | ((with_reducible refine y_Wd.mono (by with_reducible assumption) ?_ ?_) <;> omega) | (with_reducible exact y_Db.rf _) | (exact y_Db.tr (by with_reducible assumption) (by with_reducible assumption)) | (exact y_DbI (by omega))) (by omega) (by omega) (by omega) (by omega) (by omega) (by omega) (by omega) (by omega) (by omega) (by omega) (by first | with_reducible assumption | omega | ((with_reducible refine y_Vl ?_ ?_) <;> omega) | ((with_reducible refine y_Eq_cpy ?_) <;> omega) | ((with_reducible refine y_RIm (by with_reducible assumption) ?_ ?_ ?_) <;> omega) | ((with_reducible refine y_RIu (by with_reducible assumption) ?_ ?_ ?_ ?_ ?_) <;> omega) | ((with_reducible refine y_R1v (by with_reducible assumption) ?_ ?_ ?_ ?_ ?_) <;> omega) | ((with_reducible refine y_R1m (by with_reducible assumption) ?_ ?_ ?_) <;> omega) | ((with_reducible refine y_P_put (by with_reducible assumption) ?_ ?_ ?_ ?_ ?_) <;> omega) | ((with_reducible refine y_PN_put (by with_reducible assumption) ?_ ?_ ?_ ?_ ?_) <;> omega) | ((with_reducible refine y_P1 (by with_reducible assumption) ?_) <;> omega) | (with_reducible exact y_Eq.rf _ _) | ((with_reducible refine y_AV_cpy (by with_reducible assumption) ?_ (by with_reducible assumption)) <;> (first | omega | (rw [y_tn0]; omega))) | ((with_reducible refine y_Wd.mono (by with_reducible assumption) ?_ ?_) <;> omega) | (with_reducible exact y_Db.rf _) | (exact y_Db.tr (by with_reducible assumption) (by with_reducible assumption)) | (exact y_DbI (by omega))) (by first | with_reducible assumption | omega | ((with_reducible refine y_Vl ?_ ?_) <;> omega) | ((with_reducible refine y_Eq_cpy ?_) <;> omega) | ((with_reducible refine y_RIm (by with_reducible assumption) ?_ ?_ ?_) <;> omega) | ((with_reducible refine y_RIu (by with_reducible assumption) ?_ ?_ ?_ ?_ ?_) <;> omega) | ((with_reducible refine y_R1v (by with_reducible assumption) ?_ ?_ ?_ ?_ ?_) <;> omega) | ((with_reducible refine y_R1m (by with_reducible assumption) ?_ ?_ ?_) <;> omega) | ((with_reducible refine y_P_put (by with_reducible assumption) ?_ ?_ ?_ ?_ ?_) <;> omega) | ((with_reducible refine y_PN_put (by with_reducible assumption) ?_ ?_ ?_ ?_ ?_) <;> omega) | ((with_reducible refine y_P1 (by with_reducible assumption) ?_) <;> omega) | (with_reducible exact y_Eq.rf _ _) | ((with_reducible refine y_AV_cpy (by with_reducible assumption) ?_ (by with_reducible assumption)) <;> (first | omega | (rw [y_tn0]; omega))) | ((with_reducible refine y_Wd.mono (by with_reducible assumption) ?_ ?_) <;> omega) | (with_reducible exact y_Db.rf _) | (exact y_Db.tr (by with_reducible assumption) (by with_reducible assumption)) | (exact y_DbI (by omega))) (by omega)) (fun r_1 h_r_1 => ?_)
  obtain ⟨h0_r_1, h1_r_1, h2_r_1, h3_r_1, h4_r_1, h5_r_1, h6_r_1, h7_r_1, h8_r_1, h9_r_1, h10_r_1, h11_r_1, h12_r_1, h13_r_1, h14_r_1, h15_r_1, h16_r_1, h17_r_1, h18_r_1, h19_r_1, h20_r_1, h21_r_1⟩ := h_r_1
  have q6 := y_RI_eq htg h10_r_1 (by omega)
  have q7 := y_RI_eq hwy h11_r_1 (by omega)
  have q8 := y_RI_eq hht h12_r_1 (by omega)
  have q9 := y_RI_eq hmd h13_r_1 (by omega)
  have q11 := y_RI_eq hno h14_r_1 (by omega)
  have q12 := y_AW_eq hAW h15_r_1 (by omega)
  have q12n := y_AW_new (v := (-2 : Int32)) (i := Int32.toNatClampNeg v3_4) (n2 := (v3_4 + (1 : Int32)).toInt) q12 (by omega) (by omega) (by omega) rfl
  have hmm := @y_mulB v3_4 v3_3 20010 402 ⟨by omega, by omega⟩ ⟨by omega, by omega⟩ (by decide)
  have hat := @y_atC (Int32.toNatClampNeg v3_4) C v3_4 v3_3 (by omega) (by omega) hmm.1
  have hcl := @y_cl (v3_4 * v3_3) (by omega)
  have hwi := y_Wd.in (s := Int32.toNatClampNeg v3_4) h18_r_1 (by omega)
  refine y_bt ?_
  refine y_bi (y_X3_headOf) (fun r_3 h_r_3 => ?_)
  obtain ⟨h0_r_3, h1_r_3⟩ := h_r_3
  refine y_gd (y_gdI (by omega) (by omega)) ?_
  refine y_gd (y_gdI (by omega) (by omega)) ?_
  refine y_gd (y_gdI (by omega) (by omega)) ?_
  refine y_gd (y_gdI (by omega) (by omega)) ?_
  refine y_gd (y_gdI (by omega) (by omega)) ?_
  refine y_gd (y_gdI (by omega) (by omega)) ?_
  refine y_gd (y_gdI (by omega) (by omega)) ?_
  have e1 : (0 : Int32).toInt = 0 := rfl
  try have e2 := @y_mulB v3_4 v3_3 20010 402 ⟨by omega, by omega⟩ ⟨by omega, by omega⟩ (by decide)
  refine y_gd (y_cgI (by omega) (by omega) (by omega) (by omega) (by omega)) ?_
  refine y_gd (y_gdI (by omega) (by omega)) ?_
  try have e3 := @y_cl v3_4 (by omega)
  try have e4 : y_Eq (Int32.toNatClampNeg v3_4) g3_12 (upd r_1.2.2.2.2.2.2.2.2.2.2.2.2.1 (Int32.toNatClampNeg v3_4) (-2 : Int32)) := y_Eq_upd h15_r_1 (by omega)
  refine y_bi (y_X3_await (n3 := (v3_4 + (1 : Int32)).toInt) (by first | with_reducible assumption | omega | ((with_reducible refine y_Vl ?_ ?_) <;> omega) | ((with_reducible refine y_Eq_cpy ?_) <;> omega) | ((with_reducible refine y_RIm (by with_reducible assumption) ?_ ?_ ?_) <;> omega) | ((with_reducible refine y_RIu (by with_reducible assumption) ?_ ?_ ?_ ?_ ?_) <;> omega) | ((with_reducible refine y_R1v (by with_reducible assumption) ?_ ?_ ?_ ?_ ?_) <;> omega) | ((with_reducible refine y_R1m (by with_reducible assumption) ?_ ?_ ?_) <;> omega) | ((with_reducible refine y_P_put (by with_reducible assumption) ?_ ?_ ?_ ?_ ?_) <;> omega) | ((with_reducible refine y_PN_put (by with_reducible assumption) ?_ ?_ ?_ ?_ ?_) <;> omega) | ((with_reducible refine y_P1 (by with_reducible assumption) ?_) <;> omega) | (with_reducible exact y_Eq.rf _ _) | ((with_reducible refine y_AV_cpy (by with_reducible assumption) ?_ (by with_reducible assumption)) <;> (first | omega | (rw [y_tn0]; omega))) | ((with_reducible refine y_Wd.mono (by with_reducible assumption) ?_ ?_) <;> omega) | (with_reducible exact y_Db.rf _) | (exact y_Db.tr (by with_reducible assumption) (by with_reducible assumption)) | (exact y_DbI (by omega))) (by omega) (by omega) (by omega)) (fun r_13 h_r_13 => ?_)
  have h0_r_13 : y_AW ((v3_4 + (1 : Int32)).toInt) r_13.1.toInt r_13.2.1.toInt r_13.2.2 := h_r_13
  refine y_some ?_
  try dsimp only
  try have e5 := @y_addL v3_4 (1 : Int32) (1) rfl (by omega) (by omega)
  try have e6 := @y_cl (0 : Int32) (by omega)
  try have e7 := @y_cl (v3_4 * v3_3) (by omega)
  try have e8 := @y_cl v5_3 (by omega)
  try have e9 : y_Eq (Int32.toNatClampNeg v3_4) g3_6 (upd r_1.2.2.1 (Int32.toNatClampNeg v3_4) p1) := y_Eq_upd h10_r_1 (by omega)
  try have e10 : y_RI v3_4.toInt 0 mn (upd r_1.2.2.1 (Int32.toNatClampNeg v3_4) p1) := y_RIu q6 (by omega) (by omega) (by omega) (by omega) (Or.inl (by omega))
  try have e11 : y_Eq (Int32.toNatClampNeg v3_4) g3_7 (upd r_1.2.2.2.2.1 (Int32.toNatClampNeg v3_4) p2) := y_Eq_upd h11_r_1 (by omega)
  try have e12 : y_RI v3_4.toInt 0 B (upd r_1.2.2.2.2.1 (Int32.toNatClampNeg v3_4) p2) := y_RIu q7 (by omega) (by omega) (by omega) (by omega) (Or.inl (by omega))
  try have e13 := @y_sub v5_3 v3_2 (by omega) (by omega)
  try have e14 : y_Eq (Int32.toNatClampNeg v3_4) g3_8 (upd r_1.2.2.2.2.2.2.1 (Int32.toNatClampNeg v3_4) (v5_3 - v3_2)) := y_Eq_upd h12_r_1 (by omega)
  try have e15 : y_RI v3_4.toInt 0 (v3_3.toInt - v3_2.toInt) (upd r_1.2.2.2.2.2.2.1 (Int32.toNatClampNeg v3_4) (v5_3 - v3_2)) := y_RIu q8 (by omega) (by omega) (by omega) (by omega) (Or.inl (by omega))
  try have e16 : y_Eq (Int32.toNatClampNeg v3_4) g3_9 (upd r_1.2.2.2.2.2.2.2.2.1 (Int32.toNatClampNeg v3_4) v5_5) := y_Eq_upd h13_r_1 (by omega)
  try have e17 : y_RI v3_4.toInt 0 1 (upd r_1.2.2.2.2.2.2.2.2.1 (Int32.toNatClampNeg v3_4) v5_5) := y_RIu q9 (by omega) (by omega) (by omega) (by omega) (Or.inl (by omega))
  try have e18 := @y_cl r_3 (by omega)
  try have e19 : y_RI 256 (-1) (v3_4.toInt - 1) (upd g3_10 (Int32.toNatClampNeg r_3) v3_4) := y_RIu hhd (by omega) (by omega) (by omega) (by omega) (Or.inl (by omega))
  try have e20 := hhd.at (Int32.toNatClampNeg r_3) (by omega)
  try have e21 : y_Eq (Int32.toNatClampNeg v3_4) g3_11 (upd r_1.2.2.2.2.2.2.2.2.2.2.1 (Int32.toNatClampNeg v3_4) (g3_10 (Int32.toNatClampNeg r_3))) := y_Eq_upd h14_r_1 (by omega)
  try have e22 : y_RI v3_4.toInt (-1) (v3_4.toInt - 1) (upd r_1.2.2.2.2.2.2.2.2.2.2.1 (Int32.toNatClampNeg v3_4) (g3_10 (Int32.toNatClampNeg r_3))) := y_RIu q11 (by omega) (by omega) (by omega) (by omega) (Or.inl (by omega))
  try have e23 := @y_add (0 : Int32) r_1.2.2.2.2.2.2.2.2.2.2.2.2.2.2.1 (by omega) (by omega)
  try have e24 := @y_add (0 : Int32) r_1.2.2.2.2.2.2.2.2.2.2.2.2.2.2.2 (by omega) (by omega)
  refine y_some ?_
  try dsimp only
  refine ⟨?_, ?_, ?_, ?_, ?_, ?_, ?_, ?_, ?_, ?_, ?_, ?_, ?_, ?_, ?_, ?_, ?_, ?_, ?_, ?_, ?_, ?_, ?_⟩ <;> (first | with_reducible assumption | omega | ((with_reducible refine y_Vl ?_ ?_) <;> omega) | ((with_reducible refine y_Eq_cpy ?_) <;> omega) | ((with_reducible refine y_RIm (by with_reducible assumption) ?_ ?_ ?_) <;> omega) | ((with_reducible refine y_RIu (by with_reducible assumption) ?_ ?_ ?_ ?_ ?_) <;> omega) | ((with_reducible refine y_R1v (by with_reducible assumption) ?_ ?_ ?_ ?_ ?_) <;> omega) | ((with_reducible refine y_R1m (by with_reducible assumption) ?_ ?_ ?_) <;> omega) | ((with_reducible refine y_P_put (by with_reducible assumption) ?_ ?_ ?_ ?_ ?_) <;> omega) | ((with_reducible refine y_PN_put (by with_reducible assumption) ?_ ?_ ?_ ?_ ?_) <;> omega) | ((with_reducible refine y_P1 (by with_reducible assumption) ?_) <;> omega) | (with_reducible exact y_Eq.rf _ _) | ((with_reducible refine y_AV_cpy (by with_reducible assumption) ?_ (by with_reducible assumption)) <;> (first | omega | (rw [y_tn0]; omega))) | ((with_reducible refine y_Wd.mono (by with_reducible assumption) ?_ ?_) <;> omega) | (with_reducible exact y_Db.rf _) | (exact y_Db.tr (by with_reducible assumption) (by with_reducible assumption)) | (exact y_DbI (by omega)))
set_option maxHeartbeats 4000000 in
theorem y_X3_join_L_0_i {v7_2 : Int32} {g7_0 : Nat → Int32} {v3_2 : Int32} {v3_3 : Int32} {n3_5 : Nat} {g3_8 : Nat → Int32} {n3_8 : Nat} {n3_9 : Nat} {n3_12 : Nat} {v5_3 : Int32} {v5_5 : Int32} {g5_1 : Nat → Int32} {l1 : Int32} {l4 : Int32} {v3_13 : Int32} {v3_14 : Int32} {g3_9 : Nat → Int32} {g3_12 : Nat → Int32} {n3 : Int} (k0 : 4 ≤ v7_2.toInt) (k1 : v7_2.toInt ≤ 200) (k2 : y_Rg 200 0 199 g7_0) (hAW : y_AW n3 v3_13.toInt v3_14.toInt g3_12) (k4 : n3 ≤ n3_12) (k5 : n3 ≤ n3_9) (k6 : n3_5 ≤ 40000) (hmd : y_RI n3 0 1 g3_9) (hce : y_AV 400 g5_1) (k10 : 0 ≤ v5_5.toInt) (k11 : v5_5.toInt ≤ 1) (k12 : 0 ≤ v5_3.toInt) (k13 : v5_3.toInt ≤ 400) (k14 : 0 ≤ l1.toInt) (k15 : l1.toInt < n3) (k16 : 0 ≤ l4.toInt) (k17 : l4.toInt + v5_3.toInt ≤ n3_5) : ∀ (m : Nat) {l3 : Int32} {l5 : Int32} {g3_5 : Nat → Int32}, (y_AV n3_5 g3_5) → (0 ≤ l5.toInt) → (l5.toInt ≤ v5_3.toInt) → v5_3.toInt - l5.toInt < m → y_Ok (f_X3_join_L v7_2 g7_0 v3_2 v3_3 n3_5 g3_8 n3_8 n3_9 n3_12 v5_3 v5_5 g5_1 l1 l4 v3_13 v3_14 g3_9 g3_12 (0, l3, l5, g3_5)) (fun r => (y_AW n3 r.2.1.toInt r.2.2.1.toInt r.2.2.2.2.2) ∧ (y_AV n3_5 r.2.2.2.1) ∧ (y_RI n3 0 1 r.2.2.2.2.1)) := by
  intro m
  induction m with
  | zero => intro l3 l5 g3_5 hav k18 k19 hm; exfalso; omega
  | succ m ih =>
    intro l3 l5 g3_5 hav k18 k19 hm
    rw [f_X3_join_L]
    refine y_ip rfl ?_
    refine y_if (fun c1 => ?_) (fun c1 => ?_)
    · skip
      have c1' := c1
      rw [Int32.le_iff_toInt_le] at c1'
      refine y_if (fun c2 => ?_) (fun c2 => ?_)
      · skip
        have e3 : (0 : Int32).toInt = 0 := rfl
        have c2' := c2
        rw [← Int32.toInt_inj] at c2'
        have e4 : (1 : Int32).toInt = 1 := rfl
        refine y_some ?_
        try dsimp only
        refine ⟨?_, ?_, ?_⟩ <;> (first | with_reducible assumption | omega | ((with_reducible refine y_Vl ?_ ?_) <;> omega) | ((with_reducible refine y_Eq_cpy ?_) <;> omega) | ((with_reducible refine y_RIm (by with_reducible assumption) ?_ ?_ ?_) <;> omega) | ((with_reducible refine y_RIu (by with_reducible assumption) ?_ ?_ ?_ ?_ ?_) <;> omega) | ((with_reducible refine y_R1v (by with_reducible assumption) ?_ ?_ ?_ ?_ ?_) <;> omega) | ((with_reducible refine y_R1m (by with_reducible assumption) ?_ ?_ ?_) <;> omega) | ((with_reducible refine y_P_put (by with_reducible assumption) ?_ ?_ ?_ ?_ ?_) <;> omega) | ((with_reducible refine y_PN_put (by with_reducible assumption) ?_ ?_ ?_ ?_ ?_) <;> omega) | ((with_reducible refine y_P1 (by with_reducible assumption) ?_) <;> omega) | (with_reducible exact y_Eq.rf _ _))
      · skip
        have e5 : (0 : Int32).toInt = 0 := rfl
        have c2' := c2
        rw [← Int32.toInt_inj] at c2'
        refine y_gd (y_gdI (by omega) (by omega)) ?_
        refine y_if (fun c6 => ?_) (fun c6 => ?_)
        · skip
          try have e7 := @y_cl l1 (by omega)
          try have e8 := hmd.at (Int32.toNatClampNeg l1) (by omega)
          have c6' := c6
          rw [Int32.le_iff_toInt_le] at c6'
          refine y_gd (y_gdI (by omega) (by omega)) ?_
          refine y_gd (y_gdI (by omega) (by omega)) ?_
          refine y_bi (y_X3_await (n3 := n3) (by first | with_reducible assumption | omega | ((with_reducible refine y_Vl ?_ ?_) <;> omega) | ((with_reducible refine y_Eq_cpy ?_) <;> omega) | ((with_reducible refine y_RIm (by with_reducible assumption) ?_ ?_ ?_) <;> omega) | ((with_reducible refine y_RIu (by with_reducible assumption) ?_ ?_ ?_ ?_ ?_) <;> omega) | ((with_reducible refine y_R1v (by with_reducible assumption) ?_ ?_ ?_ ?_ ?_) <;> omega) | ((with_reducible refine y_R1m (by with_reducible assumption) ?_ ?_ ?_) <;> omega) | ((with_reducible refine y_P_put (by with_reducible assumption) ?_ ?_ ?_ ?_ ?_) <;> omega) | ((with_reducible refine y_PN_put (by with_reducible assumption) ?_ ?_ ?_ ?_ ?_) <;> omega) | ((with_reducible refine y_P1 (by with_reducible assumption) ?_) <;> omega) | (with_reducible exact y_Eq.rf _ _)) (by omega) (by omega) (by omega)) (fun r_7 h_r_7 => ?_)
          have h0_r_7 : y_AW n3 r_7.1.toInt r_7.2.1.toInt r_7.2.2 := h_r_7
          have e9 : (1 : Int32).toInt = 1 := rfl
          try have e10 : y_RI n3 0 1 (upd g3_9 (Int32.toNatClampNeg l1) (g3_9 (Int32.toNatClampNeg l1))) := y_RIu hmd (by omega) (by omega) (by omega) (by omega) (Or.inl (by omega))
          refine y_some ?_
          try dsimp only
          refine ⟨?_, ?_, ?_⟩ <;> (first | with_reducible assumption | omega | ((with_reducible refine y_Vl ?_ ?_) <;> omega) | ((with_reducible refine y_Eq_cpy ?_) <;> omega) | ((with_reducible refine y_RIm (by with_reducible assumption) ?_ ?_ ?_) <;> omega) | ((with_reducible refine y_RIu (by with_reducible assumption) ?_ ?_ ?_ ?_ ?_) <;> omega) | ((with_reducible refine y_R1v (by with_reducible assumption) ?_ ?_ ?_ ?_ ?_) <;> omega) | ((with_reducible refine y_R1m (by with_reducible assumption) ?_ ?_ ?_) <;> omega) | ((with_reducible refine y_P_put (by with_reducible assumption) ?_ ?_ ?_ ?_ ?_) <;> omega) | ((with_reducible refine y_PN_put (by with_reducible assumption) ?_ ?_ ?_ ?_ ?_) <;> omega) | ((with_reducible refine y_P1 (by with_reducible assumption) ?_) <;> omega) | (with_reducible exact y_Eq.rf _ _))
        · skip
          try have e11 := @y_cl l1 (by omega)
          try have e12 := hmd.at (Int32.toNatClampNeg l1) (by omega)
          have c6' := c6
          rw [Int32.le_iff_toInt_le] at c6'
          refine y_gd (y_gdI (by omega) (by omega)) ?_
          refine y_bi (y_X3_await (n3 := n3) (by first | with_reducible assumption | omega | ((with_reducible refine y_Vl ?_ ?_) <;> omega) | ((with_reducible refine y_Eq_cpy ?_) <;> omega) | ((with_reducible refine y_RIm (by with_reducible assumption) ?_ ?_ ?_) <;> omega) | ((with_reducible refine y_RIu (by with_reducible assumption) ?_ ?_ ?_ ?_ ?_) <;> omega) | ((with_reducible refine y_R1v (by with_reducible assumption) ?_ ?_ ?_ ?_ ?_) <;> omega) | ((with_reducible refine y_R1m (by with_reducible assumption) ?_ ?_ ?_) <;> omega) | ((with_reducible refine y_P_put (by with_reducible assumption) ?_ ?_ ?_ ?_ ?_) <;> omega) | ((with_reducible refine y_PN_put (by with_reducible assumption) ?_ ?_ ?_ ?_ ?_) <;> omega) | ((with_reducible refine y_P1 (by with_reducible assumption) ?_) <;> omega) | (with_reducible exact y_Eq.rf _ _)) (by omega) (by omega) (by omega)) (fun r_9 h_r_9 => ?_)
          have h0_r_9 : y_AW n3 r_9.1.toInt r_9.2.1.toInt r_9.2.2 := h_r_9
          have e13 : (1 : Int32).toInt = 1 := rfl
          try have e14 : y_RI n3 0 1 (upd g3_9 (Int32.toNatClampNeg l1) v5_5) := y_RIu hmd (by omega) (by omega) (by omega) (by omega) (Or.inl (by omega))
          refine y_some ?_
          try dsimp only
          refine ⟨?_, ?_, ?_⟩ <;> (first | with_reducible assumption | omega | ((with_reducible refine y_Vl ?_ ?_) <;> omega) | ((with_reducible refine y_Eq_cpy ?_) <;> omega) | ((with_reducible refine y_RIm (by with_reducible assumption) ?_ ?_ ?_) <;> omega) | ((with_reducible refine y_RIu (by with_reducible assumption) ?_ ?_ ?_ ?_ ?_) <;> omega) | ((with_reducible refine y_R1v (by with_reducible assumption) ?_ ?_ ?_ ?_ ?_) <;> omega) | ((with_reducible refine y_R1m (by with_reducible assumption) ?_ ?_ ?_) <;> omega) | ((with_reducible refine y_P_put (by with_reducible assumption) ?_ ?_ ?_ ?_ ?_) <;> omega) | ((with_reducible refine y_PN_put (by with_reducible assumption) ?_ ?_ ?_ ?_ ?_) <;> omega) | ((with_reducible refine y_P1 (by with_reducible assumption) ?_) <;> omega) | (with_reducible exact y_Eq.rf _ _))
    · skip
      have c1' := c1
      rw [Int32.le_iff_toInt_le] at c1'
      try have e15 := @y_add l4 l5 (by omega) (by omega)
      refine y_gd (y_gdI (by omega) (by omega)) ?_
      refine y_gd (y_gdI (by omega) (by omega)) ?_
      refine y_if (fun c16 => ?_) (fun c16 => ?_)
      · skip
        try have e17 := @y_cl (l4 + l5) (by omega)
        try have e18 := hav.at (Int32.toNatClampNeg (l4 + l5)) (by omega)
        try have e19 := e18.b
        try have e20 := @y_cl l5 (by omega)
        try have e21 := hce.at (Int32.toNatClampNeg l5) (by omega)
        try have e22 := e21.b
        have c16' := c16
        rw [← Int32.toInt_inj] at c16'
        refine y_if (fun c23 => ?_) (fun c23 => ?_)
        · skip
          have e24 : (7 : Int32).toInt = 7 := rfl
          have c23' := c23
          rw [← Int32.toInt_inj] at c23'
          refine y_gd (y_gdI (by omega) (by omega)) ?_
          refine y_bi (y_X7_meet (by omega) (by omega) (by first | with_reducible assumption | omega | ((with_reducible refine y_Vl ?_ ?_) <;> omega) | ((with_reducible refine y_Eq_cpy ?_) <;> omega) | ((with_reducible refine y_RIm (by with_reducible assumption) ?_ ?_ ?_) <;> omega) | ((with_reducible refine y_RIu (by with_reducible assumption) ?_ ?_ ?_ ?_ ?_) <;> omega) | ((with_reducible refine y_R1v (by with_reducible assumption) ?_ ?_ ?_ ?_ ?_) <;> omega) | ((with_reducible refine y_R1m (by with_reducible assumption) ?_ ?_ ?_) <;> omega) | ((with_reducible refine y_P_put (by with_reducible assumption) ?_ ?_ ?_ ?_ ?_) <;> omega) | ((with_reducible refine y_PN_put (by with_reducible assumption) ?_ ?_ ?_ ?_ ?_) <;> omega) | ((with_reducible refine y_P1 (by with_reducible assumption) ?_) <;> omega) | (with_reducible exact y_Eq.rf _ _)) (by first | with_reducible assumption | omega | ((with_reducible refine y_Vl ?_ ?_) <;> omega) | ((with_reducible refine y_Eq_cpy ?_) <;> omega) | ((with_reducible refine y_RIm (by with_reducible assumption) ?_ ?_ ?_) <;> omega) | ((with_reducible refine y_RIu (by with_reducible assumption) ?_ ?_ ?_ ?_ ?_) <;> omega) | ((with_reducible refine y_R1v (by with_reducible assumption) ?_ ?_ ?_ ?_ ?_) <;> omega) | ((with_reducible refine y_R1m (by with_reducible assumption) ?_ ?_ ?_) <;> omega) | ((with_reducible refine y_P_put (by with_reducible assumption) ?_ ?_ ?_ ?_ ?_) <;> omega) | ((with_reducible refine y_PN_put (by with_reducible assumption) ?_ ?_ ?_ ?_ ?_) <;> omega) | ((with_reducible refine y_P1 (by with_reducible assumption) ?_) <;> omega) | (with_reducible exact y_Eq.rf _ _)) (by first | with_reducible assumption | omega | ((with_reducible refine y_Vl ?_ ?_) <;> omega) | ((with_reducible refine y_Eq_cpy ?_) <;> omega) | ((with_reducible refine y_RIm (by with_reducible assumption) ?_ ?_ ?_) <;> omega) | ((with_reducible refine y_RIu (by with_reducible assumption) ?_ ?_ ?_ ?_ ?_) <;> omega) | ((with_reducible refine y_R1v (by with_reducible assumption) ?_ ?_ ?_ ?_ ?_) <;> omega) | ((with_reducible refine y_R1m (by with_reducible assumption) ?_ ?_ ?_) <;> omega) | ((with_reducible refine y_P_put (by with_reducible assumption) ?_ ?_ ?_ ?_ ?_) <;> omega) | ((with_reducible refine y_PN_put (by with_reducible assumption) ?_ ?_ ?_ ?_ ?_) <;> omega) | ((with_reducible refine y_P1 (by with_reducible assumption) ?_) <;> omega) | (with_reducible exact y_Eq.rf _ _))) (fun r_51 h_r_51 => ?_)
          have h0_r_51 : y_V r_51 := h_r_51
          refine y_if (fun c25 => ?_) (fun c25 => ?_)
          · skip
            have c25' := c25
            rw [← Int32.toInt_inj] at c25'
            try have e26 := @y_subL (l4 + l5) (1 : Int32) (1) rfl (by omega) (by omega)
            refine y_bi (y_X3_isWideAt (by omega)) (fun r_65 h_r_65 => ?_)
            have h0_r_65 : r_65.toInt = 0 ∨ r_65.toInt = 1 := h_r_65
            refine y_if (fun c27 => ?_) (fun c27 => ?_)
            · skip
              have e28 : (0 : Int32).toInt = 0 := rfl
              have c27' := c27
              rw [← Int32.toInt_inj] at c27'
              refine y_if (fun c29 => ?_) (fun c29 => ?_)
              · skip
                have c29' := c29
                rw [Int32.lt_iff_toInt_lt] at c29'
                refine y_if (fun c30 => ?_) (fun c30 => ?_)
                · skip
                  have c30' := c30
                  rw [← Int32.toInt_inj] at c30'
                  refine y_if (fun c31 => ?_) (fun c31 => ?_)
                  · skip
                    have c31' := c31
                    rw [← Int32.toInt_inj] at c31'
                    refine y_gd (y_gdI (by omega) (by omega)) ?_
                    try have e32 := @y_addL l5 (1 : Int32) (1) rfl (by omega) (by omega)
                    try have e33 : y_AV n3_5 (upd g3_5 (Int32.toNatClampNeg (l4 + l5)) (0 : Int32)) := y_AV_upd hav (by first | with_reducible assumption | omega | ((with_reducible refine y_Vl ?_ ?_) <;> omega) | ((with_reducible refine y_Eq_cpy ?_) <;> omega) | ((with_reducible refine y_RIm (by with_reducible assumption) ?_ ?_ ?_) <;> omega) | ((with_reducible refine y_RIu (by with_reducible assumption) ?_ ?_ ?_ ?_ ?_) <;> omega) | ((with_reducible refine y_R1v (by with_reducible assumption) ?_ ?_ ?_ ?_ ?_) <;> omega) | ((with_reducible refine y_R1m (by with_reducible assumption) ?_ ?_ ?_) <;> omega) | ((with_reducible refine y_P_put (by with_reducible assumption) ?_ ?_ ?_ ?_ ?_) <;> omega) | ((with_reducible refine y_PN_put (by with_reducible assumption) ?_ ?_ ?_ ?_ ?_) <;> omega) | ((with_reducible refine y_P1 (by with_reducible assumption) ?_) <;> omega) | (with_reducible exact y_Eq.rf _ _))
                    exact ih (l3 := 0) (l5 := (l5 + 1)) (g3_5 := (upd g3_5 (Int32.toNatClampNeg (l4 + l5)) 0)) (by first | with_reducible assumption | omega | ((with_reducible refine y_Vl ?_ ?_) <;> omega) | ((with_reducible refine y_Eq_cpy ?_) <;> omega) | ((with_reducible refine y_RIm (by with_reducible assumption) ?_ ?_ ?_) <;> omega) | ((with_reducible refine y_RIu (by with_reducible assumption) ?_ ?_ ?_ ?_ ?_) <;> omega) | ((with_reducible refine y_R1v (by with_reducible assumption) ?_ ?_ ?_ ?_ ?_) <;> omega) | ((with_reducible refine y_R1m (by with_reducible assumption) ?_ ?_ ?_) <;> omega) | ((with_reducible refine y_P_put (by with_reducible assumption) ?_ ?_ ?_ ?_ ?_) <;> omega) | ((with_reducible refine y_PN_put (by with_reducible assumption) ?_ ?_ ?_ ?_ ?_) <;> omega) | ((with_reducible refine y_P1 (by with_reducible assumption) ?_) <;> omega) | (with_reducible exact y_Eq.rf _ _)) (by omega) (by omega) (by omega)
                  · skip
                    have c31' := c31
                    rw [← Int32.toInt_inj] at c31'
                    refine y_gd (y_gdI (by omega) (by omega)) ?_
                    have e34 : (1 : Int32).toInt = 1 := rfl
                    try have e35 := @y_addL l5 (1 : Int32) (1) rfl (by omega) (by omega)
                    try have e36 : y_AV n3_5 (upd g3_5 (Int32.toNatClampNeg (l4 + l5)) (0 : Int32)) := y_AV_upd hav (by first | with_reducible assumption | omega | ((with_reducible refine y_Vl ?_ ?_) <;> omega) | ((with_reducible refine y_Eq_cpy ?_) <;> omega) | ((with_reducible refine y_RIm (by with_reducible assumption) ?_ ?_ ?_) <;> omega) | ((with_reducible refine y_RIu (by with_reducible assumption) ?_ ?_ ?_ ?_ ?_) <;> omega) | ((with_reducible refine y_R1v (by with_reducible assumption) ?_ ?_ ?_ ?_ ?_) <;> omega) | ((with_reducible refine y_R1m (by with_reducible assumption) ?_ ?_ ?_) <;> omega) | ((with_reducible refine y_P_put (by with_reducible assumption) ?_ ?_ ?_ ?_ ?_) <;> omega) | ((with_reducible refine y_PN_put (by with_reducible assumption) ?_ ?_ ?_ ?_ ?_) <;> omega) | ((with_reducible refine y_P1 (by with_reducible assumption) ?_) <;> omega) | (with_reducible exact y_Eq.rf _ _))
                    exact ih (l3 := 1) (l5 := (l5 + 1)) (g3_5 := (upd g3_5 (Int32.toNatClampNeg (l4 + l5)) 0)) (by first | with_reducible assumption | omega | ((with_reducible refine y_Vl ?_ ?_) <;> omega) | ((with_reducible refine y_Eq_cpy ?_) <;> omega) | ((with_reducible refine y_RIm (by with_reducible assumption) ?_ ?_ ?_) <;> omega) | ((with_reducible refine y_RIu (by with_reducible assumption) ?_ ?_ ?_ ?_ ?_) <;> omega) | ((with_reducible refine y_R1v (by with_reducible assumption) ?_ ?_ ?_ ?_ ?_) <;> omega) | ((with_reducible refine y_R1m (by with_reducible assumption) ?_ ?_ ?_) <;> omega) | ((with_reducible refine y_P_put (by with_reducible assumption) ?_ ?_ ?_ ?_ ?_) <;> omega) | ((with_reducible refine y_PN_put (by with_reducible assumption) ?_ ?_ ?_ ?_ ?_) <;> omega) | ((with_reducible refine y_P1 (by with_reducible assumption) ?_) <;> omega) | (with_reducible exact y_Eq.rf _ _)) (by omega) (by omega) (by omega)
                · skip
                  have c30' := c30
                  rw [← Int32.toInt_inj] at c30'
                  refine y_gd (y_gdI (by omega) (by omega)) ?_
                  have e37 : (1 : Int32).toInt = 1 := rfl
                  try have e38 := @y_addL l5 (1 : Int32) (1) rfl (by omega) (by omega)
                  try have e39 : y_AV n3_5 (upd g3_5 (Int32.toNatClampNeg (l4 + l5)) (0 : Int32)) := y_AV_upd hav (by first | with_reducible assumption | omega | ((with_reducible refine y_Vl ?_ ?_) <;> omega) | ((with_reducible refine y_Eq_cpy ?_) <;> omega) | ((with_reducible refine y_RIm (by with_reducible assumption) ?_ ?_ ?_) <;> omega) | ((with_reducible refine y_RIu (by with_reducible assumption) ?_ ?_ ?_ ?_ ?_) <;> omega) | ((with_reducible refine y_R1v (by with_reducible assumption) ?_ ?_ ?_ ?_ ?_) <;> omega) | ((with_reducible refine y_R1m (by with_reducible assumption) ?_ ?_ ?_) <;> omega) | ((with_reducible refine y_P_put (by with_reducible assumption) ?_ ?_ ?_ ?_ ?_) <;> omega) | ((with_reducible refine y_PN_put (by with_reducible assumption) ?_ ?_ ?_ ?_ ?_) <;> omega) | ((with_reducible refine y_P1 (by with_reducible assumption) ?_) <;> omega) | (with_reducible exact y_Eq.rf _ _))
                  exact ih (l3 := 1) (l5 := (l5 + 1)) (g3_5 := (upd g3_5 (Int32.toNatClampNeg (l4 + l5)) 0)) (by first | with_reducible assumption | omega | ((with_reducible refine y_Vl ?_ ?_) <;> omega) | ((with_reducible refine y_Eq_cpy ?_) <;> omega) | ((with_reducible refine y_RIm (by with_reducible assumption) ?_ ?_ ?_) <;> omega) | ((with_reducible refine y_RIu (by with_reducible assumption) ?_ ?_ ?_ ?_ ?_) <;> omega) | ((with_reducible refine y_R1v (by with_reducible assumption) ?_ ?_ ?_ ?_ ?_) <;> omega) | ((with_reducible refine y_R1m (by with_reducible assumption) ?_ ?_ ?_) <;> omega) | ((with_reducible refine y_P_put (by with_reducible assumption) ?_ ?_ ?_ ?_ ?_) <;> omega) | ((with_reducible refine y_PN_put (by with_reducible assumption) ?_ ?_ ?_ ?_ ?_) <;> omega) | ((with_reducible refine y_P1 (by with_reducible assumption) ?_) <;> omega) | (with_reducible exact y_Eq.rf _ _)) (by omega) (by omega) (by omega)
              · skip
                have c29' := c29
                rw [Int32.lt_iff_toInt_lt] at c29'
                refine y_some ?_
                try dsimp only
                refine ⟨?_, ?_, ?_⟩ <;> (first | with_reducible assumption | omega | ((with_reducible refine y_Vl ?_ ?_) <;> omega) | ((with_reducible refine y_Eq_cpy ?_) <;> omega) | ((with_reducible refine y_RIm (by with_reducible assumption) ?_ ?_ ?_) <;> omega) | ((with_reducible refine y_RIu (by with_reducible assumption) ?_ ?_ ?_ ?_ ?_) <;> omega) | ((with_reducible refine y_R1v (by with_reducible assumption) ?_ ?_ ?_ ?_ ?_) <;> omega) | ((with_reducible refine y_R1m (by with_reducible assumption) ?_ ?_ ?_) <;> omega) | ((with_reducible refine y_P_put (by with_reducible assumption) ?_ ?_ ?_ ?_ ?_) <;> omega) | ((with_reducible refine y_PN_put (by with_reducible assumption) ?_ ?_ ?_ ?_ ?_) <;> omega) | ((with_reducible refine y_P1 (by with_reducible assumption) ?_) <;> omega) | (with_reducible exact y_Eq.rf _ _))
            · skip
              have e40 : (0 : Int32).toInt = 0 := rfl
              have c27' := c27
              rw [← Int32.toInt_inj] at c27'
              refine y_if (fun c41 => ?_) (fun c41 => ?_)
              · skip
                have c41' := c41
                rw [← Int32.toInt_inj] at c41'
                refine y_if (fun c42 => ?_) (fun c42 => ?_)
                · skip
                  have c42' := c42
                  rw [Int32.lt_iff_toInt_lt] at c42'
                  refine y_if (fun c43 => ?_) (fun c43 => ?_)
                  · skip
                    have c43' := c43
                    rw [← Int32.toInt_inj] at c43'
                    refine y_if (fun c44 => ?_) (fun c44 => ?_)
                    · skip
                      have c44' := c44
                      rw [← Int32.toInt_inj] at c44'
                      refine y_gd (y_gdI (by omega) (by omega)) ?_
                      try have e45 := @y_addL l5 (1 : Int32) (1) rfl (by omega) (by omega)
                      try have e46 : y_AV n3_5 (upd g3_5 (Int32.toNatClampNeg (l4 + l5)) r_51) := y_AV_upd hav (by first | with_reducible assumption | omega | ((with_reducible refine y_Vl ?_ ?_) <;> omega) | ((with_reducible refine y_Eq_cpy ?_) <;> omega) | ((with_reducible refine y_RIm (by with_reducible assumption) ?_ ?_ ?_) <;> omega) | ((with_reducible refine y_RIu (by with_reducible assumption) ?_ ?_ ?_ ?_ ?_) <;> omega) | ((with_reducible refine y_R1v (by with_reducible assumption) ?_ ?_ ?_ ?_ ?_) <;> omega) | ((with_reducible refine y_R1m (by with_reducible assumption) ?_ ?_ ?_) <;> omega) | ((with_reducible refine y_P_put (by with_reducible assumption) ?_ ?_ ?_ ?_ ?_) <;> omega) | ((with_reducible refine y_PN_put (by with_reducible assumption) ?_ ?_ ?_ ?_ ?_) <;> omega) | ((with_reducible refine y_P1 (by with_reducible assumption) ?_) <;> omega) | (with_reducible exact y_Eq.rf _ _))
                      exact ih (l3 := 0) (l5 := (l5 + 1)) (g3_5 := (upd g3_5 (Int32.toNatClampNeg (l4 + l5)) r_51)) (by first | with_reducible assumption | omega | ((with_reducible refine y_Vl ?_ ?_) <;> omega) | ((with_reducible refine y_Eq_cpy ?_) <;> omega) | ((with_reducible refine y_RIm (by with_reducible assumption) ?_ ?_ ?_) <;> omega) | ((with_reducible refine y_RIu (by with_reducible assumption) ?_ ?_ ?_ ?_ ?_) <;> omega) | ((with_reducible refine y_R1v (by with_reducible assumption) ?_ ?_ ?_ ?_ ?_) <;> omega) | ((with_reducible refine y_R1m (by with_reducible assumption) ?_ ?_ ?_) <;> omega) | ((with_reducible refine y_P_put (by with_reducible assumption) ?_ ?_ ?_ ?_ ?_) <;> omega) | ((with_reducible refine y_PN_put (by with_reducible assumption) ?_ ?_ ?_ ?_ ?_) <;> omega) | ((with_reducible refine y_P1 (by with_reducible assumption) ?_) <;> omega) | (with_reducible exact y_Eq.rf _ _)) (by omega) (by omega) (by omega)
                    · skip
                      have c44' := c44
                      rw [← Int32.toInt_inj] at c44'
                      refine y_gd (y_gdI (by omega) (by omega)) ?_
                      have e47 : (1 : Int32).toInt = 1 := rfl
                      try have e48 := @y_addL l5 (1 : Int32) (1) rfl (by omega) (by omega)
                      try have e49 : y_AV n3_5 (upd g3_5 (Int32.toNatClampNeg (l4 + l5)) r_51) := y_AV_upd hav (by first | with_reducible assumption | omega | ((with_reducible refine y_Vl ?_ ?_) <;> omega) | ((with_reducible refine y_Eq_cpy ?_) <;> omega) | ((with_reducible refine y_RIm (by with_reducible assumption) ?_ ?_ ?_) <;> omega) | ((with_reducible refine y_RIu (by with_reducible assumption) ?_ ?_ ?_ ?_ ?_) <;> omega) | ((with_reducible refine y_R1v (by with_reducible assumption) ?_ ?_ ?_ ?_ ?_) <;> omega) | ((with_reducible refine y_R1m (by with_reducible assumption) ?_ ?_ ?_) <;> omega) | ((with_reducible refine y_P_put (by with_reducible assumption) ?_ ?_ ?_ ?_ ?_) <;> omega) | ((with_reducible refine y_PN_put (by with_reducible assumption) ?_ ?_ ?_ ?_ ?_) <;> omega) | ((with_reducible refine y_P1 (by with_reducible assumption) ?_) <;> omega) | (with_reducible exact y_Eq.rf _ _))
                      exact ih (l3 := 1) (l5 := (l5 + 1)) (g3_5 := (upd g3_5 (Int32.toNatClampNeg (l4 + l5)) r_51)) (by first | with_reducible assumption | omega | ((with_reducible refine y_Vl ?_ ?_) <;> omega) | ((with_reducible refine y_Eq_cpy ?_) <;> omega) | ((with_reducible refine y_RIm (by with_reducible assumption) ?_ ?_ ?_) <;> omega) | ((with_reducible refine y_RIu (by with_reducible assumption) ?_ ?_ ?_ ?_ ?_) <;> omega) | ((with_reducible refine y_R1v (by with_reducible assumption) ?_ ?_ ?_ ?_ ?_) <;> omega) | ((with_reducible refine y_R1m (by with_reducible assumption) ?_ ?_ ?_) <;> omega) | ((with_reducible refine y_P_put (by with_reducible assumption) ?_ ?_ ?_ ?_ ?_) <;> omega) | ((with_reducible refine y_PN_put (by with_reducible assumption) ?_ ?_ ?_ ?_ ?_) <;> omega) | ((with_reducible refine y_P1 (by with_reducible assumption) ?_) <;> omega) | (with_reducible exact y_Eq.rf _ _)) (by omega) (by omega) (by omega)
                  · skip
                    have c43' := c43
                    rw [← Int32.toInt_inj] at c43'
                    refine y_gd (y_gdI (by omega) (by omega)) ?_
                    have e50 : (1 : Int32).toInt = 1 := rfl
                    try have e51 := @y_addL l5 (1 : Int32) (1) rfl (by omega) (by omega)
                    try have e52 : y_AV n3_5 (upd g3_5 (Int32.toNatClampNeg (l4 + l5)) r_51) := y_AV_upd hav (by first | with_reducible assumption | omega | ((with_reducible refine y_Vl ?_ ?_) <;> omega) | ((with_reducible refine y_Eq_cpy ?_) <;> omega) | ((with_reducible refine y_RIm (by with_reducible assumption) ?_ ?_ ?_) <;> omega) | ((with_reducible refine y_RIu (by with_reducible assumption) ?_ ?_ ?_ ?_ ?_) <;> omega) | ((with_reducible refine y_R1v (by with_reducible assumption) ?_ ?_ ?_ ?_ ?_) <;> omega) | ((with_reducible refine y_R1m (by with_reducible assumption) ?_ ?_ ?_) <;> omega) | ((with_reducible refine y_P_put (by with_reducible assumption) ?_ ?_ ?_ ?_ ?_) <;> omega) | ((with_reducible refine y_PN_put (by with_reducible assumption) ?_ ?_ ?_ ?_ ?_) <;> omega) | ((with_reducible refine y_P1 (by with_reducible assumption) ?_) <;> omega) | (with_reducible exact y_Eq.rf _ _))
                    exact ih (l3 := 1) (l5 := (l5 + 1)) (g3_5 := (upd g3_5 (Int32.toNatClampNeg (l4 + l5)) r_51)) (by first | with_reducible assumption | omega | ((with_reducible refine y_Vl ?_ ?_) <;> omega) | ((with_reducible refine y_Eq_cpy ?_) <;> omega) | ((with_reducible refine y_RIm (by with_reducible assumption) ?_ ?_ ?_) <;> omega) | ((with_reducible refine y_RIu (by with_reducible assumption) ?_ ?_ ?_ ?_ ?_) <;> omega) | ((with_reducible refine y_R1v (by with_reducible assumption) ?_ ?_ ?_ ?_ ?_) <;> omega) | ((with_reducible refine y_R1m (by with_reducible assumption) ?_ ?_ ?_) <;> omega) | ((with_reducible refine y_P_put (by with_reducible assumption) ?_ ?_ ?_ ?_ ?_) <;> omega) | ((with_reducible refine y_PN_put (by with_reducible assumption) ?_ ?_ ?_ ?_ ?_) <;> omega) | ((with_reducible refine y_P1 (by with_reducible assumption) ?_) <;> omega) | (with_reducible exact y_Eq.rf _ _)) (by omega) (by omega) (by omega)
                · skip
                  have c42' := c42
                  rw [Int32.lt_iff_toInt_lt] at c42'
                  refine y_some ?_
                  try dsimp only
                  refine ⟨?_, ?_, ?_⟩ <;> (first | with_reducible assumption | omega | ((with_reducible refine y_Vl ?_ ?_) <;> omega) | ((with_reducible refine y_Eq_cpy ?_) <;> omega) | ((with_reducible refine y_RIm (by with_reducible assumption) ?_ ?_ ?_) <;> omega) | ((with_reducible refine y_RIu (by with_reducible assumption) ?_ ?_ ?_ ?_ ?_) <;> omega) | ((with_reducible refine y_R1v (by with_reducible assumption) ?_ ?_ ?_ ?_ ?_) <;> omega) | ((with_reducible refine y_R1m (by with_reducible assumption) ?_ ?_ ?_) <;> omega) | ((with_reducible refine y_P_put (by with_reducible assumption) ?_ ?_ ?_ ?_ ?_) <;> omega) | ((with_reducible refine y_PN_put (by with_reducible assumption) ?_ ?_ ?_ ?_ ?_) <;> omega) | ((with_reducible refine y_P1 (by with_reducible assumption) ?_) <;> omega) | (with_reducible exact y_Eq.rf _ _))
              · skip
                have c41' := c41
                rw [← Int32.toInt_inj] at c41'
                refine y_if (fun c53 => ?_) (fun c53 => ?_)
                · skip
                  have c53' := c53
                  rw [← Int32.toInt_inj] at c53'
                  refine y_if (fun c54 => ?_) (fun c54 => ?_)
                  · skip
                    have c54' := c54
                    rw [← Int32.toInt_inj] at c54'
                    refine y_gd (y_gdI (by omega) (by omega)) ?_
                    try have e55 := @y_addL l5 (1 : Int32) (1) rfl (by omega) (by omega)
                    try have e56 : y_AV n3_5 (upd g3_5 (Int32.toNatClampNeg (l4 + l5)) r_51) := y_AV_upd hav (by first | with_reducible assumption | omega | ((with_reducible refine y_Vl ?_ ?_) <;> omega) | ((with_reducible refine y_Eq_cpy ?_) <;> omega) | ((with_reducible refine y_RIm (by with_reducible assumption) ?_ ?_ ?_) <;> omega) | ((with_reducible refine y_RIu (by with_reducible assumption) ?_ ?_ ?_ ?_ ?_) <;> omega) | ((with_reducible refine y_R1v (by with_reducible assumption) ?_ ?_ ?_ ?_ ?_) <;> omega) | ((with_reducible refine y_R1m (by with_reducible assumption) ?_ ?_ ?_) <;> omega) | ((with_reducible refine y_P_put (by with_reducible assumption) ?_ ?_ ?_ ?_ ?_) <;> omega) | ((with_reducible refine y_PN_put (by with_reducible assumption) ?_ ?_ ?_ ?_ ?_) <;> omega) | ((with_reducible refine y_P1 (by with_reducible assumption) ?_) <;> omega) | (with_reducible exact y_Eq.rf _ _))
                    exact ih (l3 := 0) (l5 := (l5 + 1)) (g3_5 := (upd g3_5 (Int32.toNatClampNeg (l4 + l5)) r_51)) (by first | with_reducible assumption | omega | ((with_reducible refine y_Vl ?_ ?_) <;> omega) | ((with_reducible refine y_Eq_cpy ?_) <;> omega) | ((with_reducible refine y_RIm (by with_reducible assumption) ?_ ?_ ?_) <;> omega) | ((with_reducible refine y_RIu (by with_reducible assumption) ?_ ?_ ?_ ?_ ?_) <;> omega) | ((with_reducible refine y_R1v (by with_reducible assumption) ?_ ?_ ?_ ?_ ?_) <;> omega) | ((with_reducible refine y_R1m (by with_reducible assumption) ?_ ?_ ?_) <;> omega) | ((with_reducible refine y_P_put (by with_reducible assumption) ?_ ?_ ?_ ?_ ?_) <;> omega) | ((with_reducible refine y_PN_put (by with_reducible assumption) ?_ ?_ ?_ ?_ ?_) <;> omega) | ((with_reducible refine y_P1 (by with_reducible assumption) ?_) <;> omega) | (with_reducible exact y_Eq.rf _ _)) (by omega) (by omega) (by omega)
                  · skip
                    have c54' := c54
                    rw [← Int32.toInt_inj] at c54'
                    refine y_gd (y_gdI (by omega) (by omega)) ?_
                    have e57 : (1 : Int32).toInt = 1 := rfl
                    try have e58 := @y_addL l5 (1 : Int32) (1) rfl (by omega) (by omega)
                    try have e59 : y_AV n3_5 (upd g3_5 (Int32.toNatClampNeg (l4 + l5)) r_51) := y_AV_upd hav (by first | with_reducible assumption | omega | ((with_reducible refine y_Vl ?_ ?_) <;> omega) | ((with_reducible refine y_Eq_cpy ?_) <;> omega) | ((with_reducible refine y_RIm (by with_reducible assumption) ?_ ?_ ?_) <;> omega) | ((with_reducible refine y_RIu (by with_reducible assumption) ?_ ?_ ?_ ?_ ?_) <;> omega) | ((with_reducible refine y_R1v (by with_reducible assumption) ?_ ?_ ?_ ?_ ?_) <;> omega) | ((with_reducible refine y_R1m (by with_reducible assumption) ?_ ?_ ?_) <;> omega) | ((with_reducible refine y_P_put (by with_reducible assumption) ?_ ?_ ?_ ?_ ?_) <;> omega) | ((with_reducible refine y_PN_put (by with_reducible assumption) ?_ ?_ ?_ ?_ ?_) <;> omega) | ((with_reducible refine y_P1 (by with_reducible assumption) ?_) <;> omega) | (with_reducible exact y_Eq.rf _ _))
                    exact ih (l3 := 1) (l5 := (l5 + 1)) (g3_5 := (upd g3_5 (Int32.toNatClampNeg (l4 + l5)) r_51)) (by first | with_reducible assumption | omega | ((with_reducible refine y_Vl ?_ ?_) <;> omega) | ((with_reducible refine y_Eq_cpy ?_) <;> omega) | ((with_reducible refine y_RIm (by with_reducible assumption) ?_ ?_ ?_) <;> omega) | ((with_reducible refine y_RIu (by with_reducible assumption) ?_ ?_ ?_ ?_ ?_) <;> omega) | ((with_reducible refine y_R1v (by with_reducible assumption) ?_ ?_ ?_ ?_ ?_) <;> omega) | ((with_reducible refine y_R1m (by with_reducible assumption) ?_ ?_ ?_) <;> omega) | ((with_reducible refine y_P_put (by with_reducible assumption) ?_ ?_ ?_ ?_ ?_) <;> omega) | ((with_reducible refine y_PN_put (by with_reducible assumption) ?_ ?_ ?_ ?_ ?_) <;> omega) | ((with_reducible refine y_P1 (by with_reducible assumption) ?_) <;> omega) | (with_reducible exact y_Eq.rf _ _)) (by omega) (by omega) (by omega)
                · skip
                  have c53' := c53
                  rw [← Int32.toInt_inj] at c53'
                  refine y_gd (y_gdI (by omega) (by omega)) ?_
                  have e60 : (1 : Int32).toInt = 1 := rfl
                  try have e61 := @y_addL l5 (1 : Int32) (1) rfl (by omega) (by omega)
                  try have e62 : y_AV n3_5 (upd g3_5 (Int32.toNatClampNeg (l4 + l5)) r_51) := y_AV_upd hav (by first | with_reducible assumption | omega | ((with_reducible refine y_Vl ?_ ?_) <;> omega) | ((with_reducible refine y_Eq_cpy ?_) <;> omega) | ((with_reducible refine y_RIm (by with_reducible assumption) ?_ ?_ ?_) <;> omega) | ((with_reducible refine y_RIu (by with_reducible assumption) ?_ ?_ ?_ ?_ ?_) <;> omega) | ((with_reducible refine y_R1v (by with_reducible assumption) ?_ ?_ ?_ ?_ ?_) <;> omega) | ((with_reducible refine y_R1m (by with_reducible assumption) ?_ ?_ ?_) <;> omega) | ((with_reducible refine y_P_put (by with_reducible assumption) ?_ ?_ ?_ ?_ ?_) <;> omega) | ((with_reducible refine y_PN_put (by with_reducible assumption) ?_ ?_ ?_ ?_ ?_) <;> omega) | ((with_reducible refine y_P1 (by with_reducible assumption) ?_) <;> omega) | (with_reducible exact y_Eq.rf _ _))
                  exact ih (l3 := 1) (l5 := (l5 + 1)) (g3_5 := (upd g3_5 (Int32.toNatClampNeg (l4 + l5)) r_51)) (by first | with_reducible assumption | omega | ((with_reducible refine y_Vl ?_ ?_) <;> omega) | ((with_reducible refine y_Eq_cpy ?_) <;> omega) | ((with_reducible refine y_RIm (by with_reducible assumption) ?_ ?_ ?_) <;> omega) | ((with_reducible refine y_RIu (by with_reducible assumption) ?_ ?_ ?_ ?_ ?_) <;> omega) | ((with_reducible refine y_R1v (by with_reducible assumption) ?_ ?_ ?_ ?_ ?_) <;> omega) | ((with_reducible refine y_R1m (by with_reducible assumption) ?_ ?_ ?_) <;> omega) | ((with_reducible refine y_P_put (by with_reducible assumption) ?_ ?_ ?_ ?_ ?_) <;> omega) | ((with_reducible refine y_PN_put (by with_reducible assumption) ?_ ?_ ?_ ?_ ?_) <;> omega) | ((with_reducible refine y_P1 (by with_reducible assumption) ?_) <;> omega) | (with_reducible exact y_Eq.rf _ _)) (by omega) (by omega) (by omega)
          · skip
            have c25' := c25
            rw [← Int32.toInt_inj] at c25'
            refine y_if (fun c63 => ?_) (fun c63 => ?_)
            · skip
              have e64 : (0 : Int32).toInt = 0 := rfl
              have c63' := c63
              rw [← Int32.toInt_inj] at c63'
              refine y_if (fun c65 => ?_) (fun c65 => ?_)
              · skip
                have c65' := c65
                rw [Int32.lt_iff_toInt_lt] at c65'
                refine y_if (fun c66 => ?_) (fun c66 => ?_)
                · skip
                  have c66' := c66
                  rw [← Int32.toInt_inj] at c66'
                  refine y_if (fun c67 => ?_) (fun c67 => ?_)
                  · skip
                    have c67' := c67
                    rw [← Int32.toInt_inj] at c67'
                    refine y_gd (y_gdI (by omega) (by omega)) ?_
                    try have e68 := @y_addL l5 (1 : Int32) (1) rfl (by omega) (by omega)
                    try have e69 : y_AV n3_5 (upd g3_5 (Int32.toNatClampNeg (l4 + l5)) r_51) := y_AV_upd hav (by first | with_reducible assumption | omega | ((with_reducible refine y_Vl ?_ ?_) <;> omega) | ((with_reducible refine y_Eq_cpy ?_) <;> omega) | ((with_reducible refine y_RIm (by with_reducible assumption) ?_ ?_ ?_) <;> omega) | ((with_reducible refine y_RIu (by with_reducible assumption) ?_ ?_ ?_ ?_ ?_) <;> omega) | ((with_reducible refine y_R1v (by with_reducible assumption) ?_ ?_ ?_ ?_ ?_) <;> omega) | ((with_reducible refine y_R1m (by with_reducible assumption) ?_ ?_ ?_) <;> omega) | ((with_reducible refine y_P_put (by with_reducible assumption) ?_ ?_ ?_ ?_ ?_) <;> omega) | ((with_reducible refine y_PN_put (by with_reducible assumption) ?_ ?_ ?_ ?_ ?_) <;> omega) | ((with_reducible refine y_P1 (by with_reducible assumption) ?_) <;> omega) | (with_reducible exact y_Eq.rf _ _))
                    exact ih (l3 := 0) (l5 := (l5 + 1)) (g3_5 := (upd g3_5 (Int32.toNatClampNeg (l4 + l5)) r_51)) (by first | with_reducible assumption | omega | ((with_reducible refine y_Vl ?_ ?_) <;> omega) | ((with_reducible refine y_Eq_cpy ?_) <;> omega) | ((with_reducible refine y_RIm (by with_reducible assumption) ?_ ?_ ?_) <;> omega) | ((with_reducible refine y_RIu (by with_reducible assumption) ?_ ?_ ?_ ?_ ?_) <;> omega) | ((with_reducible refine y_R1v (by with_reducible assumption) ?_ ?_ ?_ ?_ ?_) <;> omega) | ((with_reducible refine y_R1m (by with_reducible assumption) ?_ ?_ ?_) <;> omega) | ((with_reducible refine y_P_put (by with_reducible assumption) ?_ ?_ ?_ ?_ ?_) <;> omega) | ((with_reducible refine y_PN_put (by with_reducible assumption) ?_ ?_ ?_ ?_ ?_) <;> omega) | ((with_reducible refine y_P1 (by with_reducible assumption) ?_) <;> omega) | (with_reducible exact y_Eq.rf _ _)) (by omega) (by omega) (by omega)
                  · skip
                    have c67' := c67
                    rw [← Int32.toInt_inj] at c67'
                    refine y_gd (y_gdI (by omega) (by omega)) ?_
                    have e70 : (1 : Int32).toInt = 1 := rfl
                    try have e71 := @y_addL l5 (1 : Int32) (1) rfl (by omega) (by omega)
                    try have e72 : y_AV n3_5 (upd g3_5 (Int32.toNatClampNeg (l4 + l5)) r_51) := y_AV_upd hav (by first | with_reducible assumption | omega | ((with_reducible refine y_Vl ?_ ?_) <;> omega) | ((with_reducible refine y_Eq_cpy ?_) <;> omega) | ((with_reducible refine y_RIm (by with_reducible assumption) ?_ ?_ ?_) <;> omega) | ((with_reducible refine y_RIu (by with_reducible assumption) ?_ ?_ ?_ ?_ ?_) <;> omega) | ((with_reducible refine y_R1v (by with_reducible assumption) ?_ ?_ ?_ ?_ ?_) <;> omega) | ((with_reducible refine y_R1m (by with_reducible assumption) ?_ ?_ ?_) <;> omega) | ((with_reducible refine y_P_put (by with_reducible assumption) ?_ ?_ ?_ ?_ ?_) <;> omega) | ((with_reducible refine y_PN_put (by with_reducible assumption) ?_ ?_ ?_ ?_ ?_) <;> omega) | ((with_reducible refine y_P1 (by with_reducible assumption) ?_) <;> omega) | (with_reducible exact y_Eq.rf _ _))
                    exact ih (l3 := 1) (l5 := (l5 + 1)) (g3_5 := (upd g3_5 (Int32.toNatClampNeg (l4 + l5)) r_51)) (by first | with_reducible assumption | omega | ((with_reducible refine y_Vl ?_ ?_) <;> omega) | ((with_reducible refine y_Eq_cpy ?_) <;> omega) | ((with_reducible refine y_RIm (by with_reducible assumption) ?_ ?_ ?_) <;> omega) | ((with_reducible refine y_RIu (by with_reducible assumption) ?_ ?_ ?_ ?_ ?_) <;> omega) | ((with_reducible refine y_R1v (by with_reducible assumption) ?_ ?_ ?_ ?_ ?_) <;> omega) | ((with_reducible refine y_R1m (by with_reducible assumption) ?_ ?_ ?_) <;> omega) | ((with_reducible refine y_P_put (by with_reducible assumption) ?_ ?_ ?_ ?_ ?_) <;> omega) | ((with_reducible refine y_PN_put (by with_reducible assumption) ?_ ?_ ?_ ?_ ?_) <;> omega) | ((with_reducible refine y_P1 (by with_reducible assumption) ?_) <;> omega) | (with_reducible exact y_Eq.rf _ _)) (by omega) (by omega) (by omega)
                · skip
                  have c66' := c66
                  rw [← Int32.toInt_inj] at c66'
                  refine y_gd (y_gdI (by omega) (by omega)) ?_
                  have e73 : (1 : Int32).toInt = 1 := rfl
                  try have e74 := @y_addL l5 (1 : Int32) (1) rfl (by omega) (by omega)
                  try have e75 : y_AV n3_5 (upd g3_5 (Int32.toNatClampNeg (l4 + l5)) r_51) := y_AV_upd hav (by first | with_reducible assumption | omega | ((with_reducible refine y_Vl ?_ ?_) <;> omega) | ((with_reducible refine y_Eq_cpy ?_) <;> omega) | ((with_reducible refine y_RIm (by with_reducible assumption) ?_ ?_ ?_) <;> omega) | ((with_reducible refine y_RIu (by with_reducible assumption) ?_ ?_ ?_ ?_ ?_) <;> omega) | ((with_reducible refine y_R1v (by with_reducible assumption) ?_ ?_ ?_ ?_ ?_) <;> omega) | ((with_reducible refine y_R1m (by with_reducible assumption) ?_ ?_ ?_) <;> omega) | ((with_reducible refine y_P_put (by with_reducible assumption) ?_ ?_ ?_ ?_ ?_) <;> omega) | ((with_reducible refine y_PN_put (by with_reducible assumption) ?_ ?_ ?_ ?_ ?_) <;> omega) | ((with_reducible refine y_P1 (by with_reducible assumption) ?_) <;> omega) | (with_reducible exact y_Eq.rf _ _))
                  exact ih (l3 := 1) (l5 := (l5 + 1)) (g3_5 := (upd g3_5 (Int32.toNatClampNeg (l4 + l5)) r_51)) (by first | with_reducible assumption | omega | ((with_reducible refine y_Vl ?_ ?_) <;> omega) | ((with_reducible refine y_Eq_cpy ?_) <;> omega) | ((with_reducible refine y_RIm (by with_reducible assumption) ?_ ?_ ?_) <;> omega) | ((with_reducible refine y_RIu (by with_reducible assumption) ?_ ?_ ?_ ?_ ?_) <;> omega) | ((with_reducible refine y_R1v (by with_reducible assumption) ?_ ?_ ?_ ?_ ?_) <;> omega) | ((with_reducible refine y_R1m (by with_reducible assumption) ?_ ?_ ?_) <;> omega) | ((with_reducible refine y_P_put (by with_reducible assumption) ?_ ?_ ?_ ?_ ?_) <;> omega) | ((with_reducible refine y_PN_put (by with_reducible assumption) ?_ ?_ ?_ ?_ ?_) <;> omega) | ((with_reducible refine y_P1 (by with_reducible assumption) ?_) <;> omega) | (with_reducible exact y_Eq.rf _ _)) (by omega) (by omega) (by omega)
              · skip
                have c65' := c65
                rw [Int32.lt_iff_toInt_lt] at c65'
                refine y_some ?_
                try dsimp only
                refine ⟨?_, ?_, ?_⟩ <;> (first | with_reducible assumption | omega | ((with_reducible refine y_Vl ?_ ?_) <;> omega) | ((with_reducible refine y_Eq_cpy ?_) <;> omega) | ((with_reducible refine y_RIm (by with_reducible assumption) ?_ ?_ ?_) <;> omega) | ((with_reducible refine y_RIu (by with_reducible assumption) ?_ ?_ ?_ ?_ ?_) <;> omega) | ((with_reducible refine y_R1v (by with_reducible assumption) ?_ ?_ ?_ ?_ ?_) <;> omega) | ((with_reducible refine y_R1m (by with_reducible assumption) ?_ ?_ ?_) <;> omega) | ((with_reducible refine y_P_put (by with_reducible assumption) ?_ ?_ ?_ ?_ ?_) <;> omega) | ((with_reducible refine y_PN_put (by with_reducible assumption) ?_ ?_ ?_ ?_ ?_) <;> omega) | ((with_reducible refine y_P1 (by with_reducible assumption) ?_) <;> omega) | (with_reducible exact y_Eq.rf _ _))
            · skip
              have e76 : (0 : Int32).toInt = 0 := rfl
              have c63' := c63
              rw [← Int32.toInt_inj] at c63'
              refine y_if (fun c77 => ?_) (fun c77 => ?_)
              · skip
                have c77' := c77
                rw [← Int32.toInt_inj] at c77'
                refine y_if (fun c78 => ?_) (fun c78 => ?_)
                · skip
                  have c78' := c78
                  rw [← Int32.toInt_inj] at c78'
                  refine y_gd (y_gdI (by omega) (by omega)) ?_
                  try have e79 := @y_addL l5 (1 : Int32) (1) rfl (by omega) (by omega)
                  try have e80 : y_AV n3_5 (upd g3_5 (Int32.toNatClampNeg (l4 + l5)) r_51) := y_AV_upd hav (by first | with_reducible assumption | omega | ((with_reducible refine y_Vl ?_ ?_) <;> omega) | ((with_reducible refine y_Eq_cpy ?_) <;> omega) | ((with_reducible refine y_RIm (by with_reducible assumption) ?_ ?_ ?_) <;> omega) | ((with_reducible refine y_RIu (by with_reducible assumption) ?_ ?_ ?_ ?_ ?_) <;> omega) | ((with_reducible refine y_R1v (by with_reducible assumption) ?_ ?_ ?_ ?_ ?_) <;> omega) | ((with_reducible refine y_R1m (by with_reducible assumption) ?_ ?_ ?_) <;> omega) | ((with_reducible refine y_P_put (by with_reducible assumption) ?_ ?_ ?_ ?_ ?_) <;> omega) | ((with_reducible refine y_PN_put (by with_reducible assumption) ?_ ?_ ?_ ?_ ?_) <;> omega) | ((with_reducible refine y_P1 (by with_reducible assumption) ?_) <;> omega) | (with_reducible exact y_Eq.rf _ _))
                  exact ih (l3 := 0) (l5 := (l5 + 1)) (g3_5 := (upd g3_5 (Int32.toNatClampNeg (l4 + l5)) r_51)) (by first | with_reducible assumption | omega | ((with_reducible refine y_Vl ?_ ?_) <;> omega) | ((with_reducible refine y_Eq_cpy ?_) <;> omega) | ((with_reducible refine y_RIm (by with_reducible assumption) ?_ ?_ ?_) <;> omega) | ((with_reducible refine y_RIu (by with_reducible assumption) ?_ ?_ ?_ ?_ ?_) <;> omega) | ((with_reducible refine y_R1v (by with_reducible assumption) ?_ ?_ ?_ ?_ ?_) <;> omega) | ((with_reducible refine y_R1m (by with_reducible assumption) ?_ ?_ ?_) <;> omega) | ((with_reducible refine y_P_put (by with_reducible assumption) ?_ ?_ ?_ ?_ ?_) <;> omega) | ((with_reducible refine y_PN_put (by with_reducible assumption) ?_ ?_ ?_ ?_ ?_) <;> omega) | ((with_reducible refine y_P1 (by with_reducible assumption) ?_) <;> omega) | (with_reducible exact y_Eq.rf _ _)) (by omega) (by omega) (by omega)
                · skip
                  have c78' := c78
                  rw [← Int32.toInt_inj] at c78'
                  refine y_gd (y_gdI (by omega) (by omega)) ?_
                  have e81 : (1 : Int32).toInt = 1 := rfl
                  try have e82 := @y_addL l5 (1 : Int32) (1) rfl (by omega) (by omega)
                  try have e83 : y_AV n3_5 (upd g3_5 (Int32.toNatClampNeg (l4 + l5)) r_51) := y_AV_upd hav (by first | with_reducible assumption | omega | ((with_reducible refine y_Vl ?_ ?_) <;> omega) | ((with_reducible refine y_Eq_cpy ?_) <;> omega) | ((with_reducible refine y_RIm (by with_reducible assumption) ?_ ?_ ?_) <;> omega) | ((with_reducible refine y_RIu (by with_reducible assumption) ?_ ?_ ?_ ?_ ?_) <;> omega) | ((with_reducible refine y_R1v (by with_reducible assumption) ?_ ?_ ?_ ?_ ?_) <;> omega) | ((with_reducible refine y_R1m (by with_reducible assumption) ?_ ?_ ?_) <;> omega) | ((with_reducible refine y_P_put (by with_reducible assumption) ?_ ?_ ?_ ?_ ?_) <;> omega) | ((with_reducible refine y_PN_put (by with_reducible assumption) ?_ ?_ ?_ ?_ ?_) <;> omega) | ((with_reducible refine y_P1 (by with_reducible assumption) ?_) <;> omega) | (with_reducible exact y_Eq.rf _ _))
                  exact ih (l3 := 1) (l5 := (l5 + 1)) (g3_5 := (upd g3_5 (Int32.toNatClampNeg (l4 + l5)) r_51)) (by first | with_reducible assumption | omega | ((with_reducible refine y_Vl ?_ ?_) <;> omega) | ((with_reducible refine y_Eq_cpy ?_) <;> omega) | ((with_reducible refine y_RIm (by with_reducible assumption) ?_ ?_ ?_) <;> omega) | ((with_reducible refine y_RIu (by with_reducible assumption) ?_ ?_ ?_ ?_ ?_) <;> omega) | ((with_reducible refine y_R1v (by with_reducible assumption) ?_ ?_ ?_ ?_ ?_) <;> omega) | ((with_reducible refine y_R1m (by with_reducible assumption) ?_ ?_ ?_) <;> omega) | ((with_reducible refine y_P_put (by with_reducible assumption) ?_ ?_ ?_ ?_ ?_) <;> omega) | ((with_reducible refine y_PN_put (by with_reducible assumption) ?_ ?_ ?_ ?_ ?_) <;> omega) | ((with_reducible refine y_P1 (by with_reducible assumption) ?_) <;> omega) | (with_reducible exact y_Eq.rf _ _)) (by omega) (by omega) (by omega)
              · skip
                have c77' := c77
                rw [← Int32.toInt_inj] at c77'
                refine y_gd (y_gdI (by omega) (by omega)) ?_
                have e84 : (1 : Int32).toInt = 1 := rfl
                try have e85 := @y_addL l5 (1 : Int32) (1) rfl (by omega) (by omega)
                try have e86 : y_AV n3_5 (upd g3_5 (Int32.toNatClampNeg (l4 + l5)) r_51) := y_AV_upd hav (by first | with_reducible assumption | omega | ((with_reducible refine y_Vl ?_ ?_) <;> omega) | ((with_reducible refine y_Eq_cpy ?_) <;> omega) | ((with_reducible refine y_RIm (by with_reducible assumption) ?_ ?_ ?_) <;> omega) | ((with_reducible refine y_RIu (by with_reducible assumption) ?_ ?_ ?_ ?_ ?_) <;> omega) | ((with_reducible refine y_R1v (by with_reducible assumption) ?_ ?_ ?_ ?_ ?_) <;> omega) | ((with_reducible refine y_R1m (by with_reducible assumption) ?_ ?_ ?_) <;> omega) | ((with_reducible refine y_P_put (by with_reducible assumption) ?_ ?_ ?_ ?_ ?_) <;> omega) | ((with_reducible refine y_PN_put (by with_reducible assumption) ?_ ?_ ?_ ?_ ?_) <;> omega) | ((with_reducible refine y_P1 (by with_reducible assumption) ?_) <;> omega) | (with_reducible exact y_Eq.rf _ _))
                exact ih (l3 := 1) (l5 := (l5 + 1)) (g3_5 := (upd g3_5 (Int32.toNatClampNeg (l4 + l5)) r_51)) (by first | with_reducible assumption | omega | ((with_reducible refine y_Vl ?_ ?_) <;> omega) | ((with_reducible refine y_Eq_cpy ?_) <;> omega) | ((with_reducible refine y_RIm (by with_reducible assumption) ?_ ?_ ?_) <;> omega) | ((with_reducible refine y_RIu (by with_reducible assumption) ?_ ?_ ?_ ?_ ?_) <;> omega) | ((with_reducible refine y_R1v (by with_reducible assumption) ?_ ?_ ?_ ?_ ?_) <;> omega) | ((with_reducible refine y_R1m (by with_reducible assumption) ?_ ?_ ?_) <;> omega) | ((with_reducible refine y_P_put (by with_reducible assumption) ?_ ?_ ?_ ?_ ?_) <;> omega) | ((with_reducible refine y_PN_put (by with_reducible assumption) ?_ ?_ ?_ ?_ ?_) <;> omega) | ((with_reducible refine y_P1 (by with_reducible assumption) ?_) <;> omega) | (with_reducible exact y_Eq.rf _ _)) (by omega) (by omega) (by omega)
        · skip
          have e87 : (7 : Int32).toInt = 7 := rfl
          have c23' := c23
          rw [← Int32.toInt_inj] at c23'
          try have e88 := @y_addL l5 (1 : Int32) (1) rfl (by omega) (by omega)
          exact ih (l3 := l3) (l5 := (l5 + 1)) (g3_5 := g3_5) (by first | with_reducible assumption | omega | ((with_reducible refine y_Vl ?_ ?_) <;> omega) | ((with_reducible refine y_Eq_cpy ?_) <;> omega) | ((with_reducible refine y_RIm (by with_reducible assumption) ?_ ?_ ?_) <;> omega) | ((with_reducible refine y_RIu (by with_reducible assumption) ?_ ?_ ?_ ?_ ?_) <;> omega) | ((with_reducible refine y_R1v (by with_reducible assumption) ?_ ?_ ?_ ?_ ?_) <;> omega) | ((with_reducible refine y_R1m (by with_reducible assumption) ?_ ?_ ?_) <;> omega) | ((with_reducible refine y_P_put (by with_reducible assumption) ?_ ?_ ?_ ?_ ?_) <;> omega) | ((with_reducible refine y_PN_put (by with_reducible assumption) ?_ ?_ ?_ ?_ ?_) <;> omega) | ((with_reducible refine y_P1 (by with_reducible assumption) ?_) <;> omega) | (with_reducible exact y_Eq.rf _ _)) (by omega) (by omega) (by omega)
      · skip
        try have e89 := @y_cl (l4 + l5) (by omega)
        try have e90 := hav.at (Int32.toNatClampNeg (l4 + l5)) (by omega)
        try have e91 := e90.b
        try have e92 := @y_cl l5 (by omega)
        try have e93 := hce.at (Int32.toNatClampNeg l5) (by omega)
        try have e94 := e93.b
        have c16' := c16
        rw [← Int32.toInt_inj] at c16'
        refine y_gd (y_gdI (by omega) (by omega)) ?_
        refine y_bi (y_X7_meet (by omega) (by omega) (by first | with_reducible assumption | omega | ((with_reducible refine y_Vl ?_ ?_) <;> omega) | ((with_reducible refine y_Eq_cpy ?_) <;> omega) | ((with_reducible refine y_RIm (by with_reducible assumption) ?_ ?_ ?_) <;> omega) | ((with_reducible refine y_RIu (by with_reducible assumption) ?_ ?_ ?_ ?_ ?_) <;> omega) | ((with_reducible refine y_R1v (by with_reducible assumption) ?_ ?_ ?_ ?_ ?_) <;> omega) | ((with_reducible refine y_R1m (by with_reducible assumption) ?_ ?_ ?_) <;> omega) | ((with_reducible refine y_P_put (by with_reducible assumption) ?_ ?_ ?_ ?_ ?_) <;> omega) | ((with_reducible refine y_PN_put (by with_reducible assumption) ?_ ?_ ?_ ?_ ?_) <;> omega) | ((with_reducible refine y_P1 (by with_reducible assumption) ?_) <;> omega) | (with_reducible exact y_Eq.rf _ _)) (by first | with_reducible assumption | omega | ((with_reducible refine y_Vl ?_ ?_) <;> omega) | ((with_reducible refine y_Eq_cpy ?_) <;> omega) | ((with_reducible refine y_RIm (by with_reducible assumption) ?_ ?_ ?_) <;> omega) | ((with_reducible refine y_RIu (by with_reducible assumption) ?_ ?_ ?_ ?_ ?_) <;> omega) | ((with_reducible refine y_R1v (by with_reducible assumption) ?_ ?_ ?_ ?_ ?_) <;> omega) | ((with_reducible refine y_R1m (by with_reducible assumption) ?_ ?_ ?_) <;> omega) | ((with_reducible refine y_P_put (by with_reducible assumption) ?_ ?_ ?_ ?_ ?_) <;> omega) | ((with_reducible refine y_PN_put (by with_reducible assumption) ?_ ?_ ?_ ?_ ?_) <;> omega) | ((with_reducible refine y_P1 (by with_reducible assumption) ?_) <;> omega) | (with_reducible exact y_Eq.rf _ _)) (by first | with_reducible assumption | omega | ((with_reducible refine y_Vl ?_ ?_) <;> omega) | ((with_reducible refine y_Eq_cpy ?_) <;> omega) | ((with_reducible refine y_RIm (by with_reducible assumption) ?_ ?_ ?_) <;> omega) | ((with_reducible refine y_RIu (by with_reducible assumption) ?_ ?_ ?_ ?_ ?_) <;> omega) | ((with_reducible refine y_R1v (by with_reducible assumption) ?_ ?_ ?_ ?_ ?_) <;> omega) | ((with_reducible refine y_R1m (by with_reducible assumption) ?_ ?_ ?_) <;> omega) | ((with_reducible refine y_P_put (by with_reducible assumption) ?_ ?_ ?_ ?_ ?_) <;> omega) | ((with_reducible refine y_PN_put (by with_reducible assumption) ?_ ?_ ?_ ?_ ?_) <;> omega) | ((with_reducible refine y_P1 (by with_reducible assumption) ?_) <;> omega) | (with_reducible exact y_Eq.rf _ _))) (fun r_14 h_r_14 => ?_)
        have h0_r_14 : y_V r_14 := h_r_14
        refine y_if (fun c95 => ?_) (fun c95 => ?_)
        · skip
          have e96 : (7 : Int32).toInt = 7 := rfl
          have c95' := c95
          rw [← Int32.toInt_inj] at c95'
          try have e97 := @y_subL (l4 + l5) (1 : Int32) (1) rfl (by omega) (by omega)
          refine y_bi (y_X3_isWideAt (by omega)) (fun r_28 h_r_28 => ?_)
          have h0_r_28 : r_28.toInt = 0 ∨ r_28.toInt = 1 := h_r_28
          refine y_if (fun c98 => ?_) (fun c98 => ?_)
          · skip
            have e99 : (0 : Int32).toInt = 0 := rfl
            have c98' := c98
            rw [← Int32.toInt_inj] at c98'
            refine y_if (fun c100 => ?_) (fun c100 => ?_)
            · skip
              have c100' := c100
              rw [Int32.lt_iff_toInt_lt] at c100'
              refine y_if (fun c101 => ?_) (fun c101 => ?_)
              · skip
                have c101' := c101
                rw [← Int32.toInt_inj] at c101'
                refine y_if (fun c102 => ?_) (fun c102 => ?_)
                · skip
                  have c102' := c102
                  rw [← Int32.toInt_inj] at c102'
                  refine y_gd (y_gdI (by omega) (by omega)) ?_
                  try have e103 := @y_addL l5 (1 : Int32) (1) rfl (by omega) (by omega)
                  try have e104 : y_AV n3_5 (upd g3_5 (Int32.toNatClampNeg (l4 + l5)) (0 : Int32)) := y_AV_upd hav (by first | with_reducible assumption | omega | ((with_reducible refine y_Vl ?_ ?_) <;> omega) | ((with_reducible refine y_Eq_cpy ?_) <;> omega) | ((with_reducible refine y_RIm (by with_reducible assumption) ?_ ?_ ?_) <;> omega) | ((with_reducible refine y_RIu (by with_reducible assumption) ?_ ?_ ?_ ?_ ?_) <;> omega) | ((with_reducible refine y_R1v (by with_reducible assumption) ?_ ?_ ?_ ?_ ?_) <;> omega) | ((with_reducible refine y_R1m (by with_reducible assumption) ?_ ?_ ?_) <;> omega) | ((with_reducible refine y_P_put (by with_reducible assumption) ?_ ?_ ?_ ?_ ?_) <;> omega) | ((with_reducible refine y_PN_put (by with_reducible assumption) ?_ ?_ ?_ ?_ ?_) <;> omega) | ((with_reducible refine y_P1 (by with_reducible assumption) ?_) <;> omega) | (with_reducible exact y_Eq.rf _ _))
                  exact ih (l3 := 0) (l5 := (l5 + 1)) (g3_5 := (upd g3_5 (Int32.toNatClampNeg (l4 + l5)) 0)) (by first | with_reducible assumption | omega | ((with_reducible refine y_Vl ?_ ?_) <;> omega) | ((with_reducible refine y_Eq_cpy ?_) <;> omega) | ((with_reducible refine y_RIm (by with_reducible assumption) ?_ ?_ ?_) <;> omega) | ((with_reducible refine y_RIu (by with_reducible assumption) ?_ ?_ ?_ ?_ ?_) <;> omega) | ((with_reducible refine y_R1v (by with_reducible assumption) ?_ ?_ ?_ ?_ ?_) <;> omega) | ((with_reducible refine y_R1m (by with_reducible assumption) ?_ ?_ ?_) <;> omega) | ((with_reducible refine y_P_put (by with_reducible assumption) ?_ ?_ ?_ ?_ ?_) <;> omega) | ((with_reducible refine y_PN_put (by with_reducible assumption) ?_ ?_ ?_ ?_ ?_) <;> omega) | ((with_reducible refine y_P1 (by with_reducible assumption) ?_) <;> omega) | (with_reducible exact y_Eq.rf _ _)) (by omega) (by omega) (by omega)
                · skip
                  have c102' := c102
                  rw [← Int32.toInt_inj] at c102'
                  refine y_gd (y_gdI (by omega) (by omega)) ?_
                  have e105 : (1 : Int32).toInt = 1 := rfl
                  try have e106 := @y_addL l5 (1 : Int32) (1) rfl (by omega) (by omega)
                  try have e107 : y_AV n3_5 (upd g3_5 (Int32.toNatClampNeg (l4 + l5)) (0 : Int32)) := y_AV_upd hav (by first | with_reducible assumption | omega | ((with_reducible refine y_Vl ?_ ?_) <;> omega) | ((with_reducible refine y_Eq_cpy ?_) <;> omega) | ((with_reducible refine y_RIm (by with_reducible assumption) ?_ ?_ ?_) <;> omega) | ((with_reducible refine y_RIu (by with_reducible assumption) ?_ ?_ ?_ ?_ ?_) <;> omega) | ((with_reducible refine y_R1v (by with_reducible assumption) ?_ ?_ ?_ ?_ ?_) <;> omega) | ((with_reducible refine y_R1m (by with_reducible assumption) ?_ ?_ ?_) <;> omega) | ((with_reducible refine y_P_put (by with_reducible assumption) ?_ ?_ ?_ ?_ ?_) <;> omega) | ((with_reducible refine y_PN_put (by with_reducible assumption) ?_ ?_ ?_ ?_ ?_) <;> omega) | ((with_reducible refine y_P1 (by with_reducible assumption) ?_) <;> omega) | (with_reducible exact y_Eq.rf _ _))
                  exact ih (l3 := 1) (l5 := (l5 + 1)) (g3_5 := (upd g3_5 (Int32.toNatClampNeg (l4 + l5)) 0)) (by first | with_reducible assumption | omega | ((with_reducible refine y_Vl ?_ ?_) <;> omega) | ((with_reducible refine y_Eq_cpy ?_) <;> omega) | ((with_reducible refine y_RIm (by with_reducible assumption) ?_ ?_ ?_) <;> omega) | ((with_reducible refine y_RIu (by with_reducible assumption) ?_ ?_ ?_ ?_ ?_) <;> omega) | ((with_reducible refine y_R1v (by with_reducible assumption) ?_ ?_ ?_ ?_ ?_) <;> omega) | ((with_reducible refine y_R1m (by with_reducible assumption) ?_ ?_ ?_) <;> omega) | ((with_reducible refine y_P_put (by with_reducible assumption) ?_ ?_ ?_ ?_ ?_) <;> omega) | ((with_reducible refine y_PN_put (by with_reducible assumption) ?_ ?_ ?_ ?_ ?_) <;> omega) | ((with_reducible refine y_P1 (by with_reducible assumption) ?_) <;> omega) | (with_reducible exact y_Eq.rf _ _)) (by omega) (by omega) (by omega)
              · skip
                have c101' := c101
                rw [← Int32.toInt_inj] at c101'
                refine y_gd (y_gdI (by omega) (by omega)) ?_
                have e108 : (1 : Int32).toInt = 1 := rfl
                try have e109 := @y_addL l5 (1 : Int32) (1) rfl (by omega) (by omega)
                try have e110 : y_AV n3_5 (upd g3_5 (Int32.toNatClampNeg (l4 + l5)) (0 : Int32)) := y_AV_upd hav (by first | with_reducible assumption | omega | ((with_reducible refine y_Vl ?_ ?_) <;> omega) | ((with_reducible refine y_Eq_cpy ?_) <;> omega) | ((with_reducible refine y_RIm (by with_reducible assumption) ?_ ?_ ?_) <;> omega) | ((with_reducible refine y_RIu (by with_reducible assumption) ?_ ?_ ?_ ?_ ?_) <;> omega) | ((with_reducible refine y_R1v (by with_reducible assumption) ?_ ?_ ?_ ?_ ?_) <;> omega) | ((with_reducible refine y_R1m (by with_reducible assumption) ?_ ?_ ?_) <;> omega) | ((with_reducible refine y_P_put (by with_reducible assumption) ?_ ?_ ?_ ?_ ?_) <;> omega) | ((with_reducible refine y_PN_put (by with_reducible assumption) ?_ ?_ ?_ ?_ ?_) <;> omega) | ((with_reducible refine y_P1 (by with_reducible assumption) ?_) <;> omega) | (with_reducible exact y_Eq.rf _ _))
                exact ih (l3 := 1) (l5 := (l5 + 1)) (g3_5 := (upd g3_5 (Int32.toNatClampNeg (l4 + l5)) 0)) (by first | with_reducible assumption | omega | ((with_reducible refine y_Vl ?_ ?_) <;> omega) | ((with_reducible refine y_Eq_cpy ?_) <;> omega) | ((with_reducible refine y_RIm (by with_reducible assumption) ?_ ?_ ?_) <;> omega) | ((with_reducible refine y_RIu (by with_reducible assumption) ?_ ?_ ?_ ?_ ?_) <;> omega) | ((with_reducible refine y_R1v (by with_reducible assumption) ?_ ?_ ?_ ?_ ?_) <;> omega) | ((with_reducible refine y_R1m (by with_reducible assumption) ?_ ?_ ?_) <;> omega) | ((with_reducible refine y_P_put (by with_reducible assumption) ?_ ?_ ?_ ?_ ?_) <;> omega) | ((with_reducible refine y_PN_put (by with_reducible assumption) ?_ ?_ ?_ ?_ ?_) <;> omega) | ((with_reducible refine y_P1 (by with_reducible assumption) ?_) <;> omega) | (with_reducible exact y_Eq.rf _ _)) (by omega) (by omega) (by omega)
            · skip
              have c100' := c100
              rw [Int32.lt_iff_toInt_lt] at c100'
              refine y_some ?_
              try dsimp only
              refine ⟨?_, ?_, ?_⟩ <;> (first | with_reducible assumption | omega | ((with_reducible refine y_Vl ?_ ?_) <;> omega) | ((with_reducible refine y_Eq_cpy ?_) <;> omega) | ((with_reducible refine y_RIm (by with_reducible assumption) ?_ ?_ ?_) <;> omega) | ((with_reducible refine y_RIu (by with_reducible assumption) ?_ ?_ ?_ ?_ ?_) <;> omega) | ((with_reducible refine y_R1v (by with_reducible assumption) ?_ ?_ ?_ ?_ ?_) <;> omega) | ((with_reducible refine y_R1m (by with_reducible assumption) ?_ ?_ ?_) <;> omega) | ((with_reducible refine y_P_put (by with_reducible assumption) ?_ ?_ ?_ ?_ ?_) <;> omega) | ((with_reducible refine y_PN_put (by with_reducible assumption) ?_ ?_ ?_ ?_ ?_) <;> omega) | ((with_reducible refine y_P1 (by with_reducible assumption) ?_) <;> omega) | (with_reducible exact y_Eq.rf _ _))
          · skip
            have e111 : (0 : Int32).toInt = 0 := rfl
            have c98' := c98
            rw [← Int32.toInt_inj] at c98'
            refine y_if (fun c112 => ?_) (fun c112 => ?_)
            · skip
              have c112' := c112
              rw [← Int32.toInt_inj] at c112'
              refine y_if (fun c113 => ?_) (fun c113 => ?_)
              · skip
                have c113' := c113
                rw [Int32.lt_iff_toInt_lt] at c113'
                refine y_if (fun c114 => ?_) (fun c114 => ?_)
                · skip
                  have c114' := c114
                  rw [← Int32.toInt_inj] at c114'
                  refine y_if (fun c115 => ?_) (fun c115 => ?_)
                  · skip
                    have c115' := c115
                    rw [← Int32.toInt_inj] at c115'
                    refine y_gd (y_gdI (by omega) (by omega)) ?_
                    try have e116 := @y_addL l5 (1 : Int32) (1) rfl (by omega) (by omega)
                    try have e117 : y_AV n3_5 (upd g3_5 (Int32.toNatClampNeg (l4 + l5)) r_14) := y_AV_upd hav (by first | with_reducible assumption | omega | ((with_reducible refine y_Vl ?_ ?_) <;> omega) | ((with_reducible refine y_Eq_cpy ?_) <;> omega) | ((with_reducible refine y_RIm (by with_reducible assumption) ?_ ?_ ?_) <;> omega) | ((with_reducible refine y_RIu (by with_reducible assumption) ?_ ?_ ?_ ?_ ?_) <;> omega) | ((with_reducible refine y_R1v (by with_reducible assumption) ?_ ?_ ?_ ?_ ?_) <;> omega) | ((with_reducible refine y_R1m (by with_reducible assumption) ?_ ?_ ?_) <;> omega) | ((with_reducible refine y_P_put (by with_reducible assumption) ?_ ?_ ?_ ?_ ?_) <;> omega) | ((with_reducible refine y_PN_put (by with_reducible assumption) ?_ ?_ ?_ ?_ ?_) <;> omega) | ((with_reducible refine y_P1 (by with_reducible assumption) ?_) <;> omega) | (with_reducible exact y_Eq.rf _ _))
                    exact ih (l3 := 0) (l5 := (l5 + 1)) (g3_5 := (upd g3_5 (Int32.toNatClampNeg (l4 + l5)) r_14)) (by first | with_reducible assumption | omega | ((with_reducible refine y_Vl ?_ ?_) <;> omega) | ((with_reducible refine y_Eq_cpy ?_) <;> omega) | ((with_reducible refine y_RIm (by with_reducible assumption) ?_ ?_ ?_) <;> omega) | ((with_reducible refine y_RIu (by with_reducible assumption) ?_ ?_ ?_ ?_ ?_) <;> omega) | ((with_reducible refine y_R1v (by with_reducible assumption) ?_ ?_ ?_ ?_ ?_) <;> omega) | ((with_reducible refine y_R1m (by with_reducible assumption) ?_ ?_ ?_) <;> omega) | ((with_reducible refine y_P_put (by with_reducible assumption) ?_ ?_ ?_ ?_ ?_) <;> omega) | ((with_reducible refine y_PN_put (by with_reducible assumption) ?_ ?_ ?_ ?_ ?_) <;> omega) | ((with_reducible refine y_P1 (by with_reducible assumption) ?_) <;> omega) | (with_reducible exact y_Eq.rf _ _)) (by omega) (by omega) (by omega)
                  · skip
                    have c115' := c115
                    rw [← Int32.toInt_inj] at c115'
                    refine y_gd (y_gdI (by omega) (by omega)) ?_
                    have e118 : (1 : Int32).toInt = 1 := rfl
                    try have e119 := @y_addL l5 (1 : Int32) (1) rfl (by omega) (by omega)
                    try have e120 : y_AV n3_5 (upd g3_5 (Int32.toNatClampNeg (l4 + l5)) r_14) := y_AV_upd hav (by first | with_reducible assumption | omega | ((with_reducible refine y_Vl ?_ ?_) <;> omega) | ((with_reducible refine y_Eq_cpy ?_) <;> omega) | ((with_reducible refine y_RIm (by with_reducible assumption) ?_ ?_ ?_) <;> omega) | ((with_reducible refine y_RIu (by with_reducible assumption) ?_ ?_ ?_ ?_ ?_) <;> omega) | ((with_reducible refine y_R1v (by with_reducible assumption) ?_ ?_ ?_ ?_ ?_) <;> omega) | ((with_reducible refine y_R1m (by with_reducible assumption) ?_ ?_ ?_) <;> omega) | ((with_reducible refine y_P_put (by with_reducible assumption) ?_ ?_ ?_ ?_ ?_) <;> omega) | ((with_reducible refine y_PN_put (by with_reducible assumption) ?_ ?_ ?_ ?_ ?_) <;> omega) | ((with_reducible refine y_P1 (by with_reducible assumption) ?_) <;> omega) | (with_reducible exact y_Eq.rf _ _))
                    exact ih (l3 := 1) (l5 := (l5 + 1)) (g3_5 := (upd g3_5 (Int32.toNatClampNeg (l4 + l5)) r_14)) (by first | with_reducible assumption | omega | ((with_reducible refine y_Vl ?_ ?_) <;> omega) | ((with_reducible refine y_Eq_cpy ?_) <;> omega) | ((with_reducible refine y_RIm (by with_reducible assumption) ?_ ?_ ?_) <;> omega) | ((with_reducible refine y_RIu (by with_reducible assumption) ?_ ?_ ?_ ?_ ?_) <;> omega) | ((with_reducible refine y_R1v (by with_reducible assumption) ?_ ?_ ?_ ?_ ?_) <;> omega) | ((with_reducible refine y_R1m (by with_reducible assumption) ?_ ?_ ?_) <;> omega) | ((with_reducible refine y_P_put (by with_reducible assumption) ?_ ?_ ?_ ?_ ?_) <;> omega) | ((with_reducible refine y_PN_put (by with_reducible assumption) ?_ ?_ ?_ ?_ ?_) <;> omega) | ((with_reducible refine y_P1 (by with_reducible assumption) ?_) <;> omega) | (with_reducible exact y_Eq.rf _ _)) (by omega) (by omega) (by omega)
                · skip
                  have c114' := c114
                  rw [← Int32.toInt_inj] at c114'
                  refine y_gd (y_gdI (by omega) (by omega)) ?_
                  have e121 : (1 : Int32).toInt = 1 := rfl
                  try have e122 := @y_addL l5 (1 : Int32) (1) rfl (by omega) (by omega)
                  try have e123 : y_AV n3_5 (upd g3_5 (Int32.toNatClampNeg (l4 + l5)) r_14) := y_AV_upd hav (by first | with_reducible assumption | omega | ((with_reducible refine y_Vl ?_ ?_) <;> omega) | ((with_reducible refine y_Eq_cpy ?_) <;> omega) | ((with_reducible refine y_RIm (by with_reducible assumption) ?_ ?_ ?_) <;> omega) | ((with_reducible refine y_RIu (by with_reducible assumption) ?_ ?_ ?_ ?_ ?_) <;> omega) | ((with_reducible refine y_R1v (by with_reducible assumption) ?_ ?_ ?_ ?_ ?_) <;> omega) | ((with_reducible refine y_R1m (by with_reducible assumption) ?_ ?_ ?_) <;> omega) | ((with_reducible refine y_P_put (by with_reducible assumption) ?_ ?_ ?_ ?_ ?_) <;> omega) | ((with_reducible refine y_PN_put (by with_reducible assumption) ?_ ?_ ?_ ?_ ?_) <;> omega) | ((with_reducible refine y_P1 (by with_reducible assumption) ?_) <;> omega) | (with_reducible exact y_Eq.rf _ _))
                  exact ih (l3 := 1) (l5 := (l5 + 1)) (g3_5 := (upd g3_5 (Int32.toNatClampNeg (l4 + l5)) r_14)) (by first | with_reducible assumption | omega | ((with_reducible refine y_Vl ?_ ?_) <;> omega) | ((with_reducible refine y_Eq_cpy ?_) <;> omega) | ((with_reducible refine y_RIm (by with_reducible assumption) ?_ ?_ ?_) <;> omega) | ((with_reducible refine y_RIu (by with_reducible assumption) ?_ ?_ ?_ ?_ ?_) <;> omega) | ((with_reducible refine y_R1v (by with_reducible assumption) ?_ ?_ ?_ ?_ ?_) <;> omega) | ((with_reducible refine y_R1m (by with_reducible assumption) ?_ ?_ ?_) <;> omega) | ((with_reducible refine y_P_put (by with_reducible assumption) ?_ ?_ ?_ ?_ ?_) <;> omega) | ((with_reducible refine y_PN_put (by with_reducible assumption) ?_ ?_ ?_ ?_ ?_) <;> omega) | ((with_reducible refine y_P1 (by with_reducible assumption) ?_) <;> omega) | (with_reducible exact y_Eq.rf _ _)) (by omega) (by omega) (by omega)
              · skip
                have c113' := c113
                rw [Int32.lt_iff_toInt_lt] at c113'
                refine y_some ?_
                try dsimp only
                refine ⟨?_, ?_, ?_⟩ <;> (first | with_reducible assumption | omega | ((with_reducible refine y_Vl ?_ ?_) <;> omega) | ((with_reducible refine y_Eq_cpy ?_) <;> omega) | ((with_reducible refine y_RIm (by with_reducible assumption) ?_ ?_ ?_) <;> omega) | ((with_reducible refine y_RIu (by with_reducible assumption) ?_ ?_ ?_ ?_ ?_) <;> omega) | ((with_reducible refine y_R1v (by with_reducible assumption) ?_ ?_ ?_ ?_ ?_) <;> omega) | ((with_reducible refine y_R1m (by with_reducible assumption) ?_ ?_ ?_) <;> omega) | ((with_reducible refine y_P_put (by with_reducible assumption) ?_ ?_ ?_ ?_ ?_) <;> omega) | ((with_reducible refine y_PN_put (by with_reducible assumption) ?_ ?_ ?_ ?_ ?_) <;> omega) | ((with_reducible refine y_P1 (by with_reducible assumption) ?_) <;> omega) | (with_reducible exact y_Eq.rf _ _))
            · skip
              have c112' := c112
              rw [← Int32.toInt_inj] at c112'
              refine y_if (fun c124 => ?_) (fun c124 => ?_)
              · skip
                have c124' := c124
                rw [← Int32.toInt_inj] at c124'
                refine y_if (fun c125 => ?_) (fun c125 => ?_)
                · skip
                  have c125' := c125
                  rw [← Int32.toInt_inj] at c125'
                  refine y_gd (y_gdI (by omega) (by omega)) ?_
                  try have e126 := @y_addL l5 (1 : Int32) (1) rfl (by omega) (by omega)
                  try have e127 : y_AV n3_5 (upd g3_5 (Int32.toNatClampNeg (l4 + l5)) r_14) := y_AV_upd hav (by first | with_reducible assumption | omega | ((with_reducible refine y_Vl ?_ ?_) <;> omega) | ((with_reducible refine y_Eq_cpy ?_) <;> omega) | ((with_reducible refine y_RIm (by with_reducible assumption) ?_ ?_ ?_) <;> omega) | ((with_reducible refine y_RIu (by with_reducible assumption) ?_ ?_ ?_ ?_ ?_) <;> omega) | ((with_reducible refine y_R1v (by with_reducible assumption) ?_ ?_ ?_ ?_ ?_) <;> omega) | ((with_reducible refine y_R1m (by with_reducible assumption) ?_ ?_ ?_) <;> omega) | ((with_reducible refine y_P_put (by with_reducible assumption) ?_ ?_ ?_ ?_ ?_) <;> omega) | ((with_reducible refine y_PN_put (by with_reducible assumption) ?_ ?_ ?_ ?_ ?_) <;> omega) | ((with_reducible refine y_P1 (by with_reducible assumption) ?_) <;> omega) | (with_reducible exact y_Eq.rf _ _))
                  exact ih (l3 := 0) (l5 := (l5 + 1)) (g3_5 := (upd g3_5 (Int32.toNatClampNeg (l4 + l5)) r_14)) (by first | with_reducible assumption | omega | ((with_reducible refine y_Vl ?_ ?_) <;> omega) | ((with_reducible refine y_Eq_cpy ?_) <;> omega) | ((with_reducible refine y_RIm (by with_reducible assumption) ?_ ?_ ?_) <;> omega) | ((with_reducible refine y_RIu (by with_reducible assumption) ?_ ?_ ?_ ?_ ?_) <;> omega) | ((with_reducible refine y_R1v (by with_reducible assumption) ?_ ?_ ?_ ?_ ?_) <;> omega) | ((with_reducible refine y_R1m (by with_reducible assumption) ?_ ?_ ?_) <;> omega) | ((with_reducible refine y_P_put (by with_reducible assumption) ?_ ?_ ?_ ?_ ?_) <;> omega) | ((with_reducible refine y_PN_put (by with_reducible assumption) ?_ ?_ ?_ ?_ ?_) <;> omega) | ((with_reducible refine y_P1 (by with_reducible assumption) ?_) <;> omega) | (with_reducible exact y_Eq.rf _ _)) (by omega) (by omega) (by omega)
                · skip
                  have c125' := c125
                  rw [← Int32.toInt_inj] at c125'
                  refine y_gd (y_gdI (by omega) (by omega)) ?_
                  have e128 : (1 : Int32).toInt = 1 := rfl
                  try have e129 := @y_addL l5 (1 : Int32) (1) rfl (by omega) (by omega)
                  try have e130 : y_AV n3_5 (upd g3_5 (Int32.toNatClampNeg (l4 + l5)) r_14) := y_AV_upd hav (by first | with_reducible assumption | omega | ((with_reducible refine y_Vl ?_ ?_) <;> omega) | ((with_reducible refine y_Eq_cpy ?_) <;> omega) | ((with_reducible refine y_RIm (by with_reducible assumption) ?_ ?_ ?_) <;> omega) | ((with_reducible refine y_RIu (by with_reducible assumption) ?_ ?_ ?_ ?_ ?_) <;> omega) | ((with_reducible refine y_R1v (by with_reducible assumption) ?_ ?_ ?_ ?_ ?_) <;> omega) | ((with_reducible refine y_R1m (by with_reducible assumption) ?_ ?_ ?_) <;> omega) | ((with_reducible refine y_P_put (by with_reducible assumption) ?_ ?_ ?_ ?_ ?_) <;> omega) | ((with_reducible refine y_PN_put (by with_reducible assumption) ?_ ?_ ?_ ?_ ?_) <;> omega) | ((with_reducible refine y_P1 (by with_reducible assumption) ?_) <;> omega) | (with_reducible exact y_Eq.rf _ _))
                  exact ih (l3 := 1) (l5 := (l5 + 1)) (g3_5 := (upd g3_5 (Int32.toNatClampNeg (l4 + l5)) r_14)) (by first | with_reducible assumption | omega | ((with_reducible refine y_Vl ?_ ?_) <;> omega) | ((with_reducible refine y_Eq_cpy ?_) <;> omega) | ((with_reducible refine y_RIm (by with_reducible assumption) ?_ ?_ ?_) <;> omega) | ((with_reducible refine y_RIu (by with_reducible assumption) ?_ ?_ ?_ ?_ ?_) <;> omega) | ((with_reducible refine y_R1v (by with_reducible assumption) ?_ ?_ ?_ ?_ ?_) <;> omega) | ((with_reducible refine y_R1m (by with_reducible assumption) ?_ ?_ ?_) <;> omega) | ((with_reducible refine y_P_put (by with_reducible assumption) ?_ ?_ ?_ ?_ ?_) <;> omega) | ((with_reducible refine y_PN_put (by with_reducible assumption) ?_ ?_ ?_ ?_ ?_) <;> omega) | ((with_reducible refine y_P1 (by with_reducible assumption) ?_) <;> omega) | (with_reducible exact y_Eq.rf _ _)) (by omega) (by omega) (by omega)
              · skip
                have c124' := c124
                rw [← Int32.toInt_inj] at c124'
                refine y_gd (y_gdI (by omega) (by omega)) ?_
                have e131 : (1 : Int32).toInt = 1 := rfl
                try have e132 := @y_addL l5 (1 : Int32) (1) rfl (by omega) (by omega)
                try have e133 : y_AV n3_5 (upd g3_5 (Int32.toNatClampNeg (l4 + l5)) r_14) := y_AV_upd hav (by first | with_reducible assumption | omega | ((with_reducible refine y_Vl ?_ ?_) <;> omega) | ((with_reducible refine y_Eq_cpy ?_) <;> omega) | ((with_reducible refine y_RIm (by with_reducible assumption) ?_ ?_ ?_) <;> omega) | ((with_reducible refine y_RIu (by with_reducible assumption) ?_ ?_ ?_ ?_ ?_) <;> omega) | ((with_reducible refine y_R1v (by with_reducible assumption) ?_ ?_ ?_ ?_ ?_) <;> omega) | ((with_reducible refine y_R1m (by with_reducible assumption) ?_ ?_ ?_) <;> omega) | ((with_reducible refine y_P_put (by with_reducible assumption) ?_ ?_ ?_ ?_ ?_) <;> omega) | ((with_reducible refine y_PN_put (by with_reducible assumption) ?_ ?_ ?_ ?_ ?_) <;> omega) | ((with_reducible refine y_P1 (by with_reducible assumption) ?_) <;> omega) | (with_reducible exact y_Eq.rf _ _))
                exact ih (l3 := 1) (l5 := (l5 + 1)) (g3_5 := (upd g3_5 (Int32.toNatClampNeg (l4 + l5)) r_14)) (by first | with_reducible assumption | omega | ((with_reducible refine y_Vl ?_ ?_) <;> omega) | ((with_reducible refine y_Eq_cpy ?_) <;> omega) | ((with_reducible refine y_RIm (by with_reducible assumption) ?_ ?_ ?_) <;> omega) | ((with_reducible refine y_RIu (by with_reducible assumption) ?_ ?_ ?_ ?_ ?_) <;> omega) | ((with_reducible refine y_R1v (by with_reducible assumption) ?_ ?_ ?_ ?_ ?_) <;> omega) | ((with_reducible refine y_R1m (by with_reducible assumption) ?_ ?_ ?_) <;> omega) | ((with_reducible refine y_P_put (by with_reducible assumption) ?_ ?_ ?_ ?_ ?_) <;> omega) | ((with_reducible refine y_PN_put (by with_reducible assumption) ?_ ?_ ?_ ?_ ?_) <;> omega) | ((with_reducible refine y_P1 (by with_reducible assumption) ?_) <;> omega) | (with_reducible exact y_Eq.rf _ _)) (by omega) (by omega) (by omega)
        · skip
          have e134 : (7 : Int32).toInt = 7 := rfl
          have c95' := c95
          rw [← Int32.toInt_inj] at c95'
          refine y_if (fun c135 => ?_) (fun c135 => ?_)
          · skip
            have e136 : (0 : Int32).toInt = 0 := rfl
            have c135' := c135
            rw [← Int32.toInt_inj] at c135'
            refine y_if (fun c137 => ?_) (fun c137 => ?_)
            · skip
              have c137' := c137
              rw [Int32.lt_iff_toInt_lt] at c137'
              refine y_if (fun c138 => ?_) (fun c138 => ?_)
              · skip
                have c138' := c138
                rw [← Int32.toInt_inj] at c138'
                refine y_if (fun c139 => ?_) (fun c139 => ?_)
                · skip
                  have c139' := c139
                  rw [← Int32.toInt_inj] at c139'
                  refine y_gd (y_gdI (by omega) (by omega)) ?_
                  try have e140 := @y_addL l5 (1 : Int32) (1) rfl (by omega) (by omega)
                  try have e141 : y_AV n3_5 (upd g3_5 (Int32.toNatClampNeg (l4 + l5)) r_14) := y_AV_upd hav (by first | with_reducible assumption | omega | ((with_reducible refine y_Vl ?_ ?_) <;> omega) | ((with_reducible refine y_Eq_cpy ?_) <;> omega) | ((with_reducible refine y_RIm (by with_reducible assumption) ?_ ?_ ?_) <;> omega) | ((with_reducible refine y_RIu (by with_reducible assumption) ?_ ?_ ?_ ?_ ?_) <;> omega) | ((with_reducible refine y_R1v (by with_reducible assumption) ?_ ?_ ?_ ?_ ?_) <;> omega) | ((with_reducible refine y_R1m (by with_reducible assumption) ?_ ?_ ?_) <;> omega) | ((with_reducible refine y_P_put (by with_reducible assumption) ?_ ?_ ?_ ?_ ?_) <;> omega) | ((with_reducible refine y_PN_put (by with_reducible assumption) ?_ ?_ ?_ ?_ ?_) <;> omega) | ((with_reducible refine y_P1 (by with_reducible assumption) ?_) <;> omega) | (with_reducible exact y_Eq.rf _ _))
                  exact ih (l3 := 0) (l5 := (l5 + 1)) (g3_5 := (upd g3_5 (Int32.toNatClampNeg (l4 + l5)) r_14)) (by first | with_reducible assumption | omega | ((with_reducible refine y_Vl ?_ ?_) <;> omega) | ((with_reducible refine y_Eq_cpy ?_) <;> omega) | ((with_reducible refine y_RIm (by with_reducible assumption) ?_ ?_ ?_) <;> omega) | ((with_reducible refine y_RIu (by with_reducible assumption) ?_ ?_ ?_ ?_ ?_) <;> omega) | ((with_reducible refine y_R1v (by with_reducible assumption) ?_ ?_ ?_ ?_ ?_) <;> omega) | ((with_reducible refine y_R1m (by with_reducible assumption) ?_ ?_ ?_) <;> omega) | ((with_reducible refine y_P_put (by with_reducible assumption) ?_ ?_ ?_ ?_ ?_) <;> omega) | ((with_reducible refine y_PN_put (by with_reducible assumption) ?_ ?_ ?_ ?_ ?_) <;> omega) | ((with_reducible refine y_P1 (by with_reducible assumption) ?_) <;> omega) | (with_reducible exact y_Eq.rf _ _)) (by omega) (by omega) (by omega)
                · skip
                  have c139' := c139
                  rw [← Int32.toInt_inj] at c139'
                  refine y_gd (y_gdI (by omega) (by omega)) ?_
                  have e142 : (1 : Int32).toInt = 1 := rfl
                  try have e143 := @y_addL l5 (1 : Int32) (1) rfl (by omega) (by omega)
                  try have e144 : y_AV n3_5 (upd g3_5 (Int32.toNatClampNeg (l4 + l5)) r_14) := y_AV_upd hav (by first | with_reducible assumption | omega | ((with_reducible refine y_Vl ?_ ?_) <;> omega) | ((with_reducible refine y_Eq_cpy ?_) <;> omega) | ((with_reducible refine y_RIm (by with_reducible assumption) ?_ ?_ ?_) <;> omega) | ((with_reducible refine y_RIu (by with_reducible assumption) ?_ ?_ ?_ ?_ ?_) <;> omega) | ((with_reducible refine y_R1v (by with_reducible assumption) ?_ ?_ ?_ ?_ ?_) <;> omega) | ((with_reducible refine y_R1m (by with_reducible assumption) ?_ ?_ ?_) <;> omega) | ((with_reducible refine y_P_put (by with_reducible assumption) ?_ ?_ ?_ ?_ ?_) <;> omega) | ((with_reducible refine y_PN_put (by with_reducible assumption) ?_ ?_ ?_ ?_ ?_) <;> omega) | ((with_reducible refine y_P1 (by with_reducible assumption) ?_) <;> omega) | (with_reducible exact y_Eq.rf _ _))
                  exact ih (l3 := 1) (l5 := (l5 + 1)) (g3_5 := (upd g3_5 (Int32.toNatClampNeg (l4 + l5)) r_14)) (by first | with_reducible assumption | omega | ((with_reducible refine y_Vl ?_ ?_) <;> omega) | ((with_reducible refine y_Eq_cpy ?_) <;> omega) | ((with_reducible refine y_RIm (by with_reducible assumption) ?_ ?_ ?_) <;> omega) | ((with_reducible refine y_RIu (by with_reducible assumption) ?_ ?_ ?_ ?_ ?_) <;> omega) | ((with_reducible refine y_R1v (by with_reducible assumption) ?_ ?_ ?_ ?_ ?_) <;> omega) | ((with_reducible refine y_R1m (by with_reducible assumption) ?_ ?_ ?_) <;> omega) | ((with_reducible refine y_P_put (by with_reducible assumption) ?_ ?_ ?_ ?_ ?_) <;> omega) | ((with_reducible refine y_PN_put (by with_reducible assumption) ?_ ?_ ?_ ?_ ?_) <;> omega) | ((with_reducible refine y_P1 (by with_reducible assumption) ?_) <;> omega) | (with_reducible exact y_Eq.rf _ _)) (by omega) (by omega) (by omega)
              · skip
                have c138' := c138
                rw [← Int32.toInt_inj] at c138'
                refine y_gd (y_gdI (by omega) (by omega)) ?_
                have e145 : (1 : Int32).toInt = 1 := rfl
                try have e146 := @y_addL l5 (1 : Int32) (1) rfl (by omega) (by omega)
                try have e147 : y_AV n3_5 (upd g3_5 (Int32.toNatClampNeg (l4 + l5)) r_14) := y_AV_upd hav (by first | with_reducible assumption | omega | ((with_reducible refine y_Vl ?_ ?_) <;> omega) | ((with_reducible refine y_Eq_cpy ?_) <;> omega) | ((with_reducible refine y_RIm (by with_reducible assumption) ?_ ?_ ?_) <;> omega) | ((with_reducible refine y_RIu (by with_reducible assumption) ?_ ?_ ?_ ?_ ?_) <;> omega) | ((with_reducible refine y_R1v (by with_reducible assumption) ?_ ?_ ?_ ?_ ?_) <;> omega) | ((with_reducible refine y_R1m (by with_reducible assumption) ?_ ?_ ?_) <;> omega) | ((with_reducible refine y_P_put (by with_reducible assumption) ?_ ?_ ?_ ?_ ?_) <;> omega) | ((with_reducible refine y_PN_put (by with_reducible assumption) ?_ ?_ ?_ ?_ ?_) <;> omega) | ((with_reducible refine y_P1 (by with_reducible assumption) ?_) <;> omega) | (with_reducible exact y_Eq.rf _ _))
                exact ih (l3 := 1) (l5 := (l5 + 1)) (g3_5 := (upd g3_5 (Int32.toNatClampNeg (l4 + l5)) r_14)) (by first | with_reducible assumption | omega | ((with_reducible refine y_Vl ?_ ?_) <;> omega) | ((with_reducible refine y_Eq_cpy ?_) <;> omega) | ((with_reducible refine y_RIm (by with_reducible assumption) ?_ ?_ ?_) <;> omega) | ((with_reducible refine y_RIu (by with_reducible assumption) ?_ ?_ ?_ ?_ ?_) <;> omega) | ((with_reducible refine y_R1v (by with_reducible assumption) ?_ ?_ ?_ ?_ ?_) <;> omega) | ((with_reducible refine y_R1m (by with_reducible assumption) ?_ ?_ ?_) <;> omega) | ((with_reducible refine y_P_put (by with_reducible assumption) ?_ ?_ ?_ ?_ ?_) <;> omega) | ((with_reducible refine y_PN_put (by with_reducible assumption) ?_ ?_ ?_ ?_ ?_) <;> omega) | ((with_reducible refine y_P1 (by with_reducible assumption) ?_) <;> omega) | (with_reducible exact y_Eq.rf _ _)) (by omega) (by omega) (by omega)
            · skip
              have c137' := c137
              rw [Int32.lt_iff_toInt_lt] at c137'
              refine y_some ?_
              try dsimp only
              refine ⟨?_, ?_, ?_⟩ <;> (first | with_reducible assumption | omega | ((with_reducible refine y_Vl ?_ ?_) <;> omega) | ((with_reducible refine y_Eq_cpy ?_) <;> omega) | ((with_reducible refine y_RIm (by with_reducible assumption) ?_ ?_ ?_) <;> omega) | ((with_reducible refine y_RIu (by with_reducible assumption) ?_ ?_ ?_ ?_ ?_) <;> omega) | ((with_reducible refine y_R1v (by with_reducible assumption) ?_ ?_ ?_ ?_ ?_) <;> omega) | ((with_reducible refine y_R1m (by with_reducible assumption) ?_ ?_ ?_) <;> omega) | ((with_reducible refine y_P_put (by with_reducible assumption) ?_ ?_ ?_ ?_ ?_) <;> omega) | ((with_reducible refine y_PN_put (by with_reducible assumption) ?_ ?_ ?_ ?_ ?_) <;> omega) | ((with_reducible refine y_P1 (by with_reducible assumption) ?_) <;> omega) | (with_reducible exact y_Eq.rf _ _))
          · skip
            have e148 : (0 : Int32).toInt = 0 := rfl
            have c135' := c135
            rw [← Int32.toInt_inj] at c135'
            refine y_if (fun c149 => ?_) (fun c149 => ?_)
            · skip
              have c149' := c149
              rw [← Int32.toInt_inj] at c149'
              refine y_if (fun c150 => ?_) (fun c150 => ?_)
              · skip
                have c150' := c150
                rw [← Int32.toInt_inj] at c150'
                refine y_gd (y_gdI (by omega) (by omega)) ?_
                try have e151 := @y_addL l5 (1 : Int32) (1) rfl (by omega) (by omega)
                try have e152 : y_AV n3_5 (upd g3_5 (Int32.toNatClampNeg (l4 + l5)) r_14) := y_AV_upd hav (by first | with_reducible assumption | omega | ((with_reducible refine y_Vl ?_ ?_) <;> omega) | ((with_reducible refine y_Eq_cpy ?_) <;> omega) | ((with_reducible refine y_RIm (by with_reducible assumption) ?_ ?_ ?_) <;> omega) | ((with_reducible refine y_RIu (by with_reducible assumption) ?_ ?_ ?_ ?_ ?_) <;> omega) | ((with_reducible refine y_R1v (by with_reducible assumption) ?_ ?_ ?_ ?_ ?_) <;> omega) | ((with_reducible refine y_R1m (by with_reducible assumption) ?_ ?_ ?_) <;> omega) | ((with_reducible refine y_P_put (by with_reducible assumption) ?_ ?_ ?_ ?_ ?_) <;> omega) | ((with_reducible refine y_PN_put (by with_reducible assumption) ?_ ?_ ?_ ?_ ?_) <;> omega) | ((with_reducible refine y_P1 (by with_reducible assumption) ?_) <;> omega) | (with_reducible exact y_Eq.rf _ _))
                exact ih (l3 := 0) (l5 := (l5 + 1)) (g3_5 := (upd g3_5 (Int32.toNatClampNeg (l4 + l5)) r_14)) (by first | with_reducible assumption | omega | ((with_reducible refine y_Vl ?_ ?_) <;> omega) | ((with_reducible refine y_Eq_cpy ?_) <;> omega) | ((with_reducible refine y_RIm (by with_reducible assumption) ?_ ?_ ?_) <;> omega) | ((with_reducible refine y_RIu (by with_reducible assumption) ?_ ?_ ?_ ?_ ?_) <;> omega) | ((with_reducible refine y_R1v (by with_reducible assumption) ?_ ?_ ?_ ?_ ?_) <;> omega) | ((with_reducible refine y_R1m (by with_reducible assumption) ?_ ?_ ?_) <;> omega) | ((with_reducible refine y_P_put (by with_reducible assumption) ?_ ?_ ?_ ?_ ?_) <;> omega) | ((with_reducible refine y_PN_put (by with_reducible assumption) ?_ ?_ ?_ ?_ ?_) <;> omega) | ((with_reducible refine y_P1 (by with_reducible assumption) ?_) <;> omega) | (with_reducible exact y_Eq.rf _ _)) (by omega) (by omega) (by omega)
              · skip
                have c150' := c150
                rw [← Int32.toInt_inj] at c150'
                refine y_gd (y_gdI (by omega) (by omega)) ?_
                have e153 : (1 : Int32).toInt = 1 := rfl
                try have e154 := @y_addL l5 (1 : Int32) (1) rfl (by omega) (by omega)
                try have e155 : y_AV n3_5 (upd g3_5 (Int32.toNatClampNeg (l4 + l5)) r_14) := y_AV_upd hav (by first | with_reducible assumption | omega | ((with_reducible refine y_Vl ?_ ?_) <;> omega) | ((with_reducible refine y_Eq_cpy ?_) <;> omega) | ((with_reducible refine y_RIm (by with_reducible assumption) ?_ ?_ ?_) <;> omega) | ((with_reducible refine y_RIu (by with_reducible assumption) ?_ ?_ ?_ ?_ ?_) <;> omega) | ((with_reducible refine y_R1v (by with_reducible assumption) ?_ ?_ ?_ ?_ ?_) <;> omega) | ((with_reducible refine y_R1m (by with_reducible assumption) ?_ ?_ ?_) <;> omega) | ((with_reducible refine y_P_put (by with_reducible assumption) ?_ ?_ ?_ ?_ ?_) <;> omega) | ((with_reducible refine y_PN_put (by with_reducible assumption) ?_ ?_ ?_ ?_ ?_) <;> omega) | ((with_reducible refine y_P1 (by with_reducible assumption) ?_) <;> omega) | (with_reducible exact y_Eq.rf _ _))
                exact ih (l3 := 1) (l5 := (l5 + 1)) (g3_5 := (upd g3_5 (Int32.toNatClampNeg (l4 + l5)) r_14)) (by first | with_reducible assumption | omega | ((with_reducible refine y_Vl ?_ ?_) <;> omega) | ((with_reducible refine y_Eq_cpy ?_) <;> omega) | ((with_reducible refine y_RIm (by with_reducible assumption) ?_ ?_ ?_) <;> omega) | ((with_reducible refine y_RIu (by with_reducible assumption) ?_ ?_ ?_ ?_ ?_) <;> omega) | ((with_reducible refine y_R1v (by with_reducible assumption) ?_ ?_ ?_ ?_ ?_) <;> omega) | ((with_reducible refine y_R1m (by with_reducible assumption) ?_ ?_ ?_) <;> omega) | ((with_reducible refine y_P_put (by with_reducible assumption) ?_ ?_ ?_ ?_ ?_) <;> omega) | ((with_reducible refine y_PN_put (by with_reducible assumption) ?_ ?_ ?_ ?_ ?_) <;> omega) | ((with_reducible refine y_P1 (by with_reducible assumption) ?_) <;> omega) | (with_reducible exact y_Eq.rf _ _)) (by omega) (by omega) (by omega)
            · skip
              have c149' := c149
              rw [← Int32.toInt_inj] at c149'
              refine y_gd (y_gdI (by omega) (by omega)) ?_
              have e156 : (1 : Int32).toInt = 1 := rfl
              try have e157 := @y_addL l5 (1 : Int32) (1) rfl (by omega) (by omega)
              try have e158 : y_AV n3_5 (upd g3_5 (Int32.toNatClampNeg (l4 + l5)) r_14) := y_AV_upd hav (by first | with_reducible assumption | omega | ((with_reducible refine y_Vl ?_ ?_) <;> omega) | ((with_reducible refine y_Eq_cpy ?_) <;> omega) | ((with_reducible refine y_RIm (by with_reducible assumption) ?_ ?_ ?_) <;> omega) | ((with_reducible refine y_RIu (by with_reducible assumption) ?_ ?_ ?_ ?_ ?_) <;> omega) | ((with_reducible refine y_R1v (by with_reducible assumption) ?_ ?_ ?_ ?_ ?_) <;> omega) | ((with_reducible refine y_R1m (by with_reducible assumption) ?_ ?_ ?_) <;> omega) | ((with_reducible refine y_P_put (by with_reducible assumption) ?_ ?_ ?_ ?_ ?_) <;> omega) | ((with_reducible refine y_PN_put (by with_reducible assumption) ?_ ?_ ?_ ?_ ?_) <;> omega) | ((with_reducible refine y_P1 (by with_reducible assumption) ?_) <;> omega) | (with_reducible exact y_Eq.rf _ _))
              exact ih (l3 := 1) (l5 := (l5 + 1)) (g3_5 := (upd g3_5 (Int32.toNatClampNeg (l4 + l5)) r_14)) (by first | with_reducible assumption | omega | ((with_reducible refine y_Vl ?_ ?_) <;> omega) | ((with_reducible refine y_Eq_cpy ?_) <;> omega) | ((with_reducible refine y_RIm (by with_reducible assumption) ?_ ?_ ?_) <;> omega) | ((with_reducible refine y_RIu (by with_reducible assumption) ?_ ?_ ?_ ?_ ?_) <;> omega) | ((with_reducible refine y_R1v (by with_reducible assumption) ?_ ?_ ?_ ?_ ?_) <;> omega) | ((with_reducible refine y_R1m (by with_reducible assumption) ?_ ?_ ?_) <;> omega) | ((with_reducible refine y_P_put (by with_reducible assumption) ?_ ?_ ?_ ?_ ?_) <;> omega) | ((with_reducible refine y_PN_put (by with_reducible assumption) ?_ ?_ ?_ ?_ ?_) <;> omega) | ((with_reducible refine y_P1 (by with_reducible assumption) ?_) <;> omega) | (with_reducible exact y_Eq.rf _ _)) (by omega) (by omega) (by omega)
theorem y_X3_join_L_0 {v7_2 : Int32} {g7_0 : Nat → Int32} {v3_2 : Int32} {v3_3 : Int32} {n3_5 : Nat} {g3_8 : Nat → Int32} {n3_8 : Nat} {n3_9 : Nat} {n3_12 : Nat} {v5_3 : Int32} {v5_5 : Int32} {g5_1 : Nat → Int32} {l1 : Int32} {l4 : Int32} {v3_13 : Int32} {v3_14 : Int32} {g3_9 : Nat → Int32} {g3_12 : Nat → Int32} {n3 : Int} {l3 : Int32} {l5 : Int32} {g3_5 : Nat → Int32} (k0 : 4 ≤ v7_2.toInt) (k1 : v7_2.toInt ≤ 200) (k2 : y_Rg 200 0 199 g7_0) (hAW : y_AW n3 v3_13.toInt v3_14.toInt g3_12) (k4 : n3 ≤ n3_12) (k5 : n3 ≤ n3_9) (k6 : n3_5 ≤ 40000) (hav : y_AV n3_5 g3_5) (hmd : y_RI n3 0 1 g3_9) (hce : y_AV 400 g5_1) (k10 : 0 ≤ v5_5.toInt) (k11 : v5_5.toInt ≤ 1) (k12 : 0 ≤ v5_3.toInt) (k13 : v5_3.toInt ≤ 400) (k14 : 0 ≤ l1.toInt) (k15 : l1.toInt < n3) (k16 : 0 ≤ l4.toInt) (k17 : l4.toInt + v5_3.toInt ≤ n3_5) (k18 : 0 ≤ l5.toInt) (k19 : l5.toInt ≤ v5_3.toInt) : y_Ok (f_X3_join_L v7_2 g7_0 v3_2 v3_3 n3_5 g3_8 n3_8 n3_9 n3_12 v5_3 v5_5 g5_1 l1 l4 v3_13 v3_14 g3_9 g3_12 (0, l3, l5, g3_5)) (fun r => (y_AW n3 r.2.1.toInt r.2.2.1.toInt r.2.2.2.2.2) ∧ (y_AV n3_5 r.2.2.2.1) ∧ (y_RI n3 0 1 r.2.2.2.2.1)) := y_X3_join_L_0_i (n3 := n3) k0 k1 k2 hAW k4 k5 k6 hmd hce k10 k11 k12 k13 k14 k15 k16 k17 (v5_3.toInt - l5.toInt + 1).toNat hav k18 k19 (by omega)
set_option maxHeartbeats 4000000 in
theorem y_X3_join {v7_2 : Int32} {g7_0 : Nat → Int32} {v3_2 : Int32} {v3_3 : Int32} {v3_13 : Int32} {v3_14 : Int32} {g3_5 : Nat → Int32} {n3_5 : Nat} {g3_8 : Nat → Int32} {n3_8 : Nat} {g3_9 : Nat → Int32} {n3_9 : Nat} {g3_12 : Nat → Int32} {n3_12 : Nat} {v5_3 : Int32} {v5_5 : Int32} {g5_1 : Nat → Int32} {p1 : Int32} {n3 : Int} {C : Nat} (k0 : 4 ≤ v7_2.toInt) (k1 : v7_2.toInt ≤ 200) (k2 : y_Rg 200 0 199 g7_0) (hAW : y_AW n3 v3_13.toInt v3_14.toInt g3_12) (k4 : n3 ≤ n3_12) (k5 : n3 ≤ n3_9) (k6 : n3_5 ≤ 40000) (hav : y_AV n3_5 g3_5) (hmd : y_RI n3 0 1 g3_9) (hce : y_AV 400 g5_1) (k10 : 0 ≤ v5_5.toInt) (k11 : v5_5.toInt ≤ 1) (k12 : 0 ≤ v5_3.toInt) (k13 : v5_3.toInt ≤ 400) (k14 : n3 ≤ n3_8) (k15 : n3 ≤ 20000) (k16 : 0 ≤ v3_3.toInt) (k17 : v3_3.toInt ≤ 400) (k18 : v5_3.toInt ≤ v3_3.toInt) (hC : (C : Int) = v3_3.toInt) (hwd : y_Wd n3 C n3_5) (k21 : 0 ≤ p1.toInt) (k22 : p1.toInt < n3) : y_Ok (f_X3_join v7_2 g7_0 v3_2 v3_3 v3_13 v3_14 g3_5 n3_5 g3_8 n3_8 g3_9 n3_9 g3_12 n3_12 v5_3 v5_5 g5_1 p1) (fun r => (y_AW n3 r.2.1.toInt r.2.2.1.toInt r.2.2.2.2.2) ∧ (y_AV n3_5 r.2.2.2.1) ∧ (y_RI n3 0 1 r.2.2.2.2.1)) := by
  have hp1 := @y_cl p1 (by omega)
  have hmm := @y_mulB p1 v3_3 20010 402 ⟨by omega, by omega⟩ ⟨by omega, by omega⟩ (by decide)
  have hat := @y_atC (Int32.toNatClampNeg p1) C p1 v3_3 (by omega) (by omega) hmm.1
  have hcl := @y_cl (p1 * v3_3) (by omega)
  have hwi := y_Wd.in (s := Int32.toNatClampNeg p1) hwd (by omega)
  unfold f_X3_join
  refine y_gd (y_gdI (by omega) (by omega)) ?_
  refine y_if (fun c1 => ?_) (fun c1 => ?_)
  · skip
    try have e2 := @y_sub v5_3 v3_2 (by omega) (by omega)
    try have e3 := @y_cl p1 (by omega)
    have c1' := c1
    rw [← Int32.toInt_inj] at c1'
    refine y_gd (y_gdI (by omega) (by omega)) ?_
    refine y_if (fun c4 => ?_) (fun c4 => ?_)
    · skip
      try have e5 := hmd.at (Int32.toNatClampNeg p1) (by omega)
      have c4' := c4
      rw [Int32.le_iff_toInt_le] at c4'
      try have e6 := @y_mulB p1 v3_3 20010 402 ⟨by omega, by omega⟩ ⟨by omega, by omega⟩ (by decide)
      have e7 : (0 : Int32).toInt = 0 := rfl
      refine y_Ok.mono (y_X3_join_L_0 (n3 := n3) (l3 := 0) (l5 := 0) (g3_5 := g3_5) (by omega) (by omega) (by first | with_reducible assumption | omega | ((with_reducible refine y_Vl ?_ ?_) <;> omega) | ((with_reducible refine y_Eq_cpy ?_) <;> omega) | ((with_reducible refine y_RIm (by with_reducible assumption) ?_ ?_ ?_) <;> omega) | ((with_reducible refine y_RIu (by with_reducible assumption) ?_ ?_ ?_ ?_ ?_) <;> omega) | ((with_reducible refine y_R1v (by with_reducible assumption) ?_ ?_ ?_ ?_ ?_) <;> omega) | ((with_reducible refine y_R1m (by with_reducible assumption) ?_ ?_ ?_) <;> omega) | ((with_reducible refine y_P_put (by with_reducible assumption) ?_ ?_ ?_ ?_ ?_) <;> omega) | ((with_reducible refine y_PN_put (by with_reducible assumption) ?_ ?_ ?_ ?_ ?_) <;> omega) | ((with_reducible refine y_P1 (by with_reducible assumption) ?_) <;> omega) | (with_reducible exact y_Eq.rf _ _)) (by first | with_reducible assumption | omega | ((with_reducible refine y_Vl ?_ ?_) <;> omega) | ((with_reducible refine y_Eq_cpy ?_) <;> omega) | ((with_reducible refine y_RIm (by with_reducible assumption) ?_ ?_ ?_) <;> omega) | ((with_reducible refine y_RIu (by with_reducible assumption) ?_ ?_ ?_ ?_ ?_) <;> omega) | ((with_reducible refine y_R1v (by with_reducible assumption) ?_ ?_ ?_ ?_ ?_) <;> omega) | ((with_reducible refine y_R1m (by with_reducible assumption) ?_ ?_ ?_) <;> omega) | ((with_reducible refine y_P_put (by with_reducible assumption) ?_ ?_ ?_ ?_ ?_) <;> omega) | ((with_reducible refine y_PN_put (by with_reducible assumption) ?_ ?_ ?_ ?_ ?_) <;> omega) | ((with_reducible refine y_P1 (by with_reducible assumption) ?_) <;> omega) | (with_reducible exact y_Eq.rf _ _)) (by omega) (by omega) (by omega) (by first | with_reducible assumption | omega | ((with_reducible refine y_Vl ?_ ?_) <;> omega) | ((with_reducible refine y_Eq_cpy ?_) <;> omega) | ((with_reducible refine y_RIm (by with_reducible assumption) ?_ ?_ ?_) <;> omega) | ((with_reducible refine y_RIu (by with_reducible assumption) ?_ ?_ ?_ ?_ ?_) <;> omega) | ((with_reducible refine y_R1v (by with_reducible assumption) ?_ ?_ ?_ ?_ ?_) <;> omega) | ((with_reducible refine y_R1m (by with_reducible assumption) ?_ ?_ ?_) <;> omega) | ((with_reducible refine y_P_put (by with_reducible assumption) ?_ ?_ ?_ ?_ ?_) <;> omega) | ((with_reducible refine y_PN_put (by with_reducible assumption) ?_ ?_ ?_ ?_ ?_) <;> omega) | ((with_reducible refine y_P1 (by with_reducible assumption) ?_) <;> omega) | (with_reducible exact y_Eq.rf _ _)) (by first | with_reducible assumption | omega | ((with_reducible refine y_Vl ?_ ?_) <;> omega) | ((with_reducible refine y_Eq_cpy ?_) <;> omega) | ((with_reducible refine y_RIm (by with_reducible assumption) ?_ ?_ ?_) <;> omega) | ((with_reducible refine y_RIu (by with_reducible assumption) ?_ ?_ ?_ ?_ ?_) <;> omega) | ((with_reducible refine y_R1v (by with_reducible assumption) ?_ ?_ ?_ ?_ ?_) <;> omega) | ((with_reducible refine y_R1m (by with_reducible assumption) ?_ ?_ ?_) <;> omega) | ((with_reducible refine y_P_put (by with_reducible assumption) ?_ ?_ ?_ ?_ ?_) <;> omega) | ((with_reducible refine y_PN_put (by with_reducible assumption) ?_ ?_ ?_ ?_ ?_) <;> omega) | ((with_reducible refine y_P1 (by with_reducible assumption) ?_) <;> omega) | (with_reducible exact y_Eq.rf _ _)) (by first | with_reducible assumption | omega | ((with_reducible refine y_Vl ?_ ?_) <;> omega) | ((with_reducible refine y_Eq_cpy ?_) <;> omega) | ((with_reducible refine y_RIm (by with_reducible assumption) ?_ ?_ ?_) <;> omega) | ((with_reducible refine y_RIu (by with_reducible assumption) ?_ ?_ ?_ ?_ ?_) <;> omega) | ((with_reducible refine y_R1v (by with_reducible assumption) ?_ ?_ ?_ ?_ ?_) <;> omega) | ((with_reducible refine y_R1m (by with_reducible assumption) ?_ ?_ ?_) <;> omega) | ((with_reducible refine y_P_put (by with_reducible assumption) ?_ ?_ ?_ ?_ ?_) <;> omega) | ((with_reducible refine y_PN_put (by with_reducible assumption) ?_ ?_ ?_ ?_ ?_) <;> omega) | ((with_reducible refine y_P1 (by with_reducible assumption) ?_) <;> omega) | (with_reducible exact y_Eq.rf _ _)) (by omega) (by omega) (by omega) (by omega) (by omega) (by omega) (by omega) (by omega) (by omega) (by omega)) (fun r_t7 h_r_t7 => ?_)
      obtain ⟨h0_r_t7, h1_r_t7, h2_r_t7⟩ := h_r_t7
      refine ⟨?_, ?_, ?_⟩ <;> (first | with_reducible assumption | omega | ((with_reducible refine y_Vl ?_ ?_) <;> omega) | ((with_reducible refine y_Eq_cpy ?_) <;> omega) | ((with_reducible refine y_RIm (by with_reducible assumption) ?_ ?_ ?_) <;> omega) | ((with_reducible refine y_RIu (by with_reducible assumption) ?_ ?_ ?_ ?_ ?_) <;> omega) | ((with_reducible refine y_R1v (by with_reducible assumption) ?_ ?_ ?_ ?_ ?_) <;> omega) | ((with_reducible refine y_R1m (by with_reducible assumption) ?_ ?_ ?_) <;> omega) | ((with_reducible refine y_P_put (by with_reducible assumption) ?_ ?_ ?_ ?_ ?_) <;> omega) | ((with_reducible refine y_PN_put (by with_reducible assumption) ?_ ?_ ?_ ?_ ?_) <;> omega) | ((with_reducible refine y_P1 (by with_reducible assumption) ?_) <;> omega) | (with_reducible exact y_Eq.rf _ _))
    · skip
      try have e9 := hmd.at (Int32.toNatClampNeg p1) (by omega)
      have c4' := c4
      rw [Int32.le_iff_toInt_le] at c4'
      try have e10 := @y_mulB p1 v3_3 20010 402 ⟨by omega, by omega⟩ ⟨by omega, by omega⟩ (by decide)
      have e11 : (1 : Int32).toInt = 1 := rfl
      have e12 : (0 : Int32).toInt = 0 := rfl
      refine y_Ok.mono (y_X3_join_L_0 (n3 := n3) (l3 := 1) (l5 := 0) (g3_5 := g3_5) (by omega) (by omega) (by first | with_reducible assumption | omega | ((with_reducible refine y_Vl ?_ ?_) <;> omega) | ((with_reducible refine y_Eq_cpy ?_) <;> omega) | ((with_reducible refine y_RIm (by with_reducible assumption) ?_ ?_ ?_) <;> omega) | ((with_reducible refine y_RIu (by with_reducible assumption) ?_ ?_ ?_ ?_ ?_) <;> omega) | ((with_reducible refine y_R1v (by with_reducible assumption) ?_ ?_ ?_ ?_ ?_) <;> omega) | ((with_reducible refine y_R1m (by with_reducible assumption) ?_ ?_ ?_) <;> omega) | ((with_reducible refine y_P_put (by with_reducible assumption) ?_ ?_ ?_ ?_ ?_) <;> omega) | ((with_reducible refine y_PN_put (by with_reducible assumption) ?_ ?_ ?_ ?_ ?_) <;> omega) | ((with_reducible refine y_P1 (by with_reducible assumption) ?_) <;> omega) | (with_reducible exact y_Eq.rf _ _)) (by first | with_reducible assumption | omega | ((with_reducible refine y_Vl ?_ ?_) <;> omega) | ((with_reducible refine y_Eq_cpy ?_) <;> omega) | ((with_reducible refine y_RIm (by with_reducible assumption) ?_ ?_ ?_) <;> omega) | ((with_reducible refine y_RIu (by with_reducible assumption) ?_ ?_ ?_ ?_ ?_) <;> omega) | ((with_reducible refine y_R1v (by with_reducible assumption) ?_ ?_ ?_ ?_ ?_) <;> omega) | ((with_reducible refine y_R1m (by with_reducible assumption) ?_ ?_ ?_) <;> omega) | ((with_reducible refine y_P_put (by with_reducible assumption) ?_ ?_ ?_ ?_ ?_) <;> omega) | ((with_reducible refine y_PN_put (by with_reducible assumption) ?_ ?_ ?_ ?_ ?_) <;> omega) | ((with_reducible refine y_P1 (by with_reducible assumption) ?_) <;> omega) | (with_reducible exact y_Eq.rf _ _)) (by omega) (by omega) (by omega) (by first | with_reducible assumption | omega | ((with_reducible refine y_Vl ?_ ?_) <;> omega) | ((with_reducible refine y_Eq_cpy ?_) <;> omega) | ((with_reducible refine y_RIm (by with_reducible assumption) ?_ ?_ ?_) <;> omega) | ((with_reducible refine y_RIu (by with_reducible assumption) ?_ ?_ ?_ ?_ ?_) <;> omega) | ((with_reducible refine y_R1v (by with_reducible assumption) ?_ ?_ ?_ ?_ ?_) <;> omega) | ((with_reducible refine y_R1m (by with_reducible assumption) ?_ ?_ ?_) <;> omega) | ((with_reducible refine y_P_put (by with_reducible assumption) ?_ ?_ ?_ ?_ ?_) <;> omega) | ((with_reducible refine y_PN_put (by with_reducible assumption) ?_ ?_ ?_ ?_ ?_) <;> omega) | ((with_reducible refine y_P1 (by with_reducible assumption) ?_) <;> omega) | (with_reducible exact y_Eq.rf _ _)) (by first | with_reducible assumption | omega | ((with_reducible refine y_Vl ?_ ?_) <;> omega) | ((with_reducible refine y_Eq_cpy ?_) <;> omega) | ((with_reducible refine y_RIm (by with_reducible assumption) ?_ ?_ ?_) <;> omega) | ((with_reducible refine y_RIu (by with_reducible assumption) ?_ ?_ ?_ ?_ ?_) <;> omega) | ((with_reducible refine y_R1v (by with_reducible assumption) ?_ ?_ ?_ ?_ ?_) <;> omega) | ((with_reducible refine y_R1m (by with_reducible assumption) ?_ ?_ ?_) <;> omega) | ((with_reducible refine y_P_put (by with_reducible assumption) ?_ ?_ ?_ ?_ ?_) <;> omega) | ((with_reducible refine y_PN_put (by with_reducible assumption) ?_ ?_ ?_ ?_ ?_) <;> omega) | ((with_reducible refine y_P1 (by with_reducible assumption) ?_) <;> omega) | (with_reducible exact y_Eq.rf _ _)) (by first | with_reducible assumption | omega | ((with_reducible refine y_Vl ?_ ?_) <;> omega) | ((with_reducible refine y_Eq_cpy ?_) <;> omega) | ((with_reducible refine y_RIm (by with_reducible assumption) ?_ ?_ ?_) <;> omega) | ((with_reducible refine y_RIu (by with_reducible assumption) ?_ ?_ ?_ ?_ ?_) <;> omega) | ((with_reducible refine y_R1v (by with_reducible assumption) ?_ ?_ ?_ ?_ ?_) <;> omega) | ((with_reducible refine y_R1m (by with_reducible assumption) ?_ ?_ ?_) <;> omega) | ((with_reducible refine y_P_put (by with_reducible assumption) ?_ ?_ ?_ ?_ ?_) <;> omega) | ((with_reducible refine y_PN_put (by with_reducible assumption) ?_ ?_ ?_ ?_ ?_) <;> omega) | ((with_reducible refine y_P1 (by with_reducible assumption) ?_) <;> omega) | (with_reducible exact y_Eq.rf _ _)) (by omega) (by omega) (by omega) (by omega) (by omega) (by omega) (by omega) (by omega) (by omega) (by omega)) (fun r_t12 h_r_t12 => ?_)
      obtain ⟨h0_r_t12, h1_r_t12, h2_r_t12⟩ := h_r_t12
      refine ⟨?_, ?_, ?_⟩ <;> (first | with_reducible assumption | omega | ((with_reducible refine y_Vl ?_ ?_) <;> omega) | ((with_reducible refine y_Eq_cpy ?_) <;> omega) | ((with_reducible refine y_RIm (by with_reducible assumption) ?_ ?_ ?_) <;> omega) | ((with_reducible refine y_RIu (by with_reducible assumption) ?_ ?_ ?_ ?_ ?_) <;> omega) | ((with_reducible refine y_R1v (by with_reducible assumption) ?_ ?_ ?_ ?_ ?_) <;> omega) | ((with_reducible refine y_R1m (by with_reducible assumption) ?_ ?_ ?_) <;> omega) | ((with_reducible refine y_P_put (by with_reducible assumption) ?_ ?_ ?_ ?_ ?_) <;> omega) | ((with_reducible refine y_PN_put (by with_reducible assumption) ?_ ?_ ?_ ?_ ?_) <;> omega) | ((with_reducible refine y_P1 (by with_reducible assumption) ?_) <;> omega) | (with_reducible exact y_Eq.rf _ _))
  · skip
    try have e14 := @y_sub v5_3 v3_2 (by omega) (by omega)
    try have e15 := @y_cl p1 (by omega)
    have c1' := c1
    rw [← Int32.toInt_inj] at c1'
    have e16 : (0 : Int32).toInt = 0 := rfl
    refine y_some ?_
    try dsimp only
    refine ⟨?_, ?_, ?_⟩ <;> (first | with_reducible assumption | omega | ((with_reducible refine y_Vl ?_ ?_) <;> omega) | ((with_reducible refine y_Eq_cpy ?_) <;> omega) | ((with_reducible refine y_RIm (by with_reducible assumption) ?_ ?_ ?_) <;> omega) | ((with_reducible refine y_RIu (by with_reducible assumption) ?_ ?_ ?_ ?_ ?_) <;> omega) | ((with_reducible refine y_R1v (by with_reducible assumption) ?_ ?_ ?_ ?_ ?_) <;> omega) | ((with_reducible refine y_R1m (by with_reducible assumption) ?_ ?_ ?_) <;> omega) | ((with_reducible refine y_P_put (by with_reducible assumption) ?_ ?_ ?_ ?_ ?_) <;> omega) | ((with_reducible refine y_PN_put (by with_reducible assumption) ?_ ?_ ?_ ?_ ?_) <;> omega) | ((with_reducible refine y_P1 (by with_reducible assumption) ?_) <;> omega) | (with_reducible exact y_Eq.rf _ _))
set_option maxHeartbeats 4000000 in
theorem y_X3_find_L_0_i {v3_4 : Int32} {g3_6 : Nat → Int32} {n3_6 : Nat} {g3_7 : Nat → Int32} {n3_7 : Nat} {g3_10 : Nat → Int32} {g3_11 : Nat → Int32} {n3_11 : Nat} {l1 : Int32} {l2 : Int32} {B : Int} (k0 : n3_7 = n3_6) (k1 : n3_11 = n3_6) (k2 : v3_4.toInt ≤ n3_6) (k3 : 0 ≤ v3_4.toInt) (k4 : v3_4.toInt ≤ 20000) (hno : y_RI v3_4.toInt (-1) (v3_4.toInt - 1) g3_11) (hwy : y_RI v3_4.toInt 0 B g3_7) : ∀ (m : Nat) {l3 : Int32} {l4 : Int32}, (-1 ≤ l3.toInt) → (l3.toInt < v3_4.toInt) → (0 ≤ l4.toInt) → (l4.toInt ≤ 20000) → 20000 - l4.toInt < m → y_Ok (f_X3_find_L v3_4 g3_6 n3_6 g3_7 n3_7 g3_10 g3_11 n3_11 l1 l2 (0, l3, l4)) (fun r => (-1 ≤ r.toInt) ∧ (r.toInt < v3_4.toInt) ∧ (r.toInt = -1 ∨ l2.toInt ≤ B)) := by
  intro m
  induction m with
  | zero => intro l3 l4 k7 k8 k9 k10 hm; exfalso; omega
  | succ m ih =>
    intro l3 l4 k7 k8 k9 k10 hm
    rw [f_X3_find_L]
    refine y_ip rfl ?_
    refine y_if (fun c1 => ?_) (fun c1 => ?_)
    · skip
      have c1' := c1
      rw [Int32.le_iff_toInt_le] at c1'
      have e2 : (-1 : Int32).toInt = -1 := rfl
      refine y_some ?_
      try dsimp only
      refine ⟨?_, ?_, ?_⟩ <;> (first | with_reducible assumption | omega | ((with_reducible refine y_Vl ?_ ?_) <;> omega) | ((with_reducible refine y_Eq_cpy ?_) <;> omega) | ((with_reducible refine y_RIm (by with_reducible assumption) ?_ ?_ ?_) <;> omega) | ((with_reducible refine y_RIu (by with_reducible assumption) ?_ ?_ ?_ ?_ ?_) <;> omega) | ((with_reducible refine y_R1v (by with_reducible assumption) ?_ ?_ ?_ ?_ ?_) <;> omega) | ((with_reducible refine y_R1m (by with_reducible assumption) ?_ ?_ ?_) <;> omega) | ((with_reducible refine y_P_put (by with_reducible assumption) ?_ ?_ ?_ ?_ ?_) <;> omega) | ((with_reducible refine y_PN_put (by with_reducible assumption) ?_ ?_ ?_ ?_ ?_) <;> omega) | ((with_reducible refine y_P1 (by with_reducible assumption) ?_) <;> omega) | (with_reducible exact y_Eq.rf _ _))
    · skip
      have c1' := c1
      rw [Int32.le_iff_toInt_le] at c1'
      refine y_if (fun c3 => ?_) (fun c3 => ?_)
      · skip
        have c3' : l3.toInt = -1 := (y_eqN rfl).mp c3
        have e4 : (-1 : Int32).toInt = -1 := rfl
        refine y_some ?_
        try dsimp only
        refine ⟨?_, ?_, ?_⟩ <;> (first | with_reducible assumption | omega | ((with_reducible refine y_Vl ?_ ?_) <;> omega) | ((with_reducible refine y_Eq_cpy ?_) <;> omega) | ((with_reducible refine y_RIm (by with_reducible assumption) ?_ ?_ ?_) <;> omega) | ((with_reducible refine y_RIu (by with_reducible assumption) ?_ ?_ ?_ ?_ ?_) <;> omega) | ((with_reducible refine y_R1v (by with_reducible assumption) ?_ ?_ ?_ ?_ ?_) <;> omega) | ((with_reducible refine y_R1m (by with_reducible assumption) ?_ ?_ ?_) <;> omega) | ((with_reducible refine y_P_put (by with_reducible assumption) ?_ ?_ ?_ ?_ ?_) <;> omega) | ((with_reducible refine y_PN_put (by with_reducible assumption) ?_ ?_ ?_ ?_ ?_) <;> omega) | ((with_reducible refine y_P1 (by with_reducible assumption) ?_) <;> omega) | (with_reducible exact y_Eq.rf _ _))
      · skip
        have c3' : ¬ l3.toInt = -1 := fun hz => c3 ((y_eqN rfl).mpr hz)
        refine y_gd (y_gdI (by omega) (by omega)) ?_
        refine y_if (fun c5 => ?_) (fun c5 => ?_)
        · skip
          try have e6 := @y_cl l3 (by omega)
          have c5' := c5
          rw [← Int32.toInt_inj] at c5'
          refine y_gd (y_gdI (by omega) (by omega)) ?_
          refine y_if (fun c7 => ?_) (fun c7 => ?_)
          · skip
            try have e8 := hwy.at (Int32.toNatClampNeg l3) (by omega)
            have c7' := c7
            rw [← Int32.toInt_inj] at c7'
            refine y_some ?_
            try dsimp only
            refine ⟨?_, ?_, ?_⟩ <;> (first | with_reducible assumption | omega | ((with_reducible refine y_Vl ?_ ?_) <;> omega) | ((with_reducible refine y_Eq_cpy ?_) <;> omega) | ((with_reducible refine y_RIm (by with_reducible assumption) ?_ ?_ ?_) <;> omega) | ((with_reducible refine y_RIu (by with_reducible assumption) ?_ ?_ ?_ ?_ ?_) <;> omega) | ((with_reducible refine y_R1v (by with_reducible assumption) ?_ ?_ ?_ ?_ ?_) <;> omega) | ((with_reducible refine y_R1m (by with_reducible assumption) ?_ ?_ ?_) <;> omega) | ((with_reducible refine y_P_put (by with_reducible assumption) ?_ ?_ ?_ ?_ ?_) <;> omega) | ((with_reducible refine y_PN_put (by with_reducible assumption) ?_ ?_ ?_ ?_ ?_) <;> omega) | ((with_reducible refine y_P1 (by with_reducible assumption) ?_) <;> omega) | (with_reducible exact y_Eq.rf _ _))
          · skip
            try have e9 := hwy.at (Int32.toNatClampNeg l3) (by omega)
            have c7' := c7
            rw [← Int32.toInt_inj] at c7'
            refine y_gd (y_gdI (by omega) (by omega)) ?_
            try have e10 := hno.at (Int32.toNatClampNeg l3) (by omega)
            try have e11 := @y_addL l4 (1 : Int32) (1) rfl (by omega) (by omega)
            exact ih (l3 := (g3_11 (Int32.toNatClampNeg l3))) (l4 := (l4 + 1)) (by omega) (by omega) (by omega) (by omega) (by omega)
        · skip
          try have e12 := @y_cl l3 (by omega)
          have c5' := c5
          rw [← Int32.toInt_inj] at c5'
          refine y_gd (y_gdI (by omega) (by omega)) ?_
          try have e13 := hno.at (Int32.toNatClampNeg l3) (by omega)
          try have e14 := @y_addL l4 (1 : Int32) (1) rfl (by omega) (by omega)
          exact ih (l3 := (g3_11 (Int32.toNatClampNeg l3))) (l4 := (l4 + 1)) (by omega) (by omega) (by omega) (by omega) (by omega)
theorem y_X3_find_L_0 {v3_4 : Int32} {g3_6 : Nat → Int32} {n3_6 : Nat} {g3_7 : Nat → Int32} {n3_7 : Nat} {g3_10 : Nat → Int32} {g3_11 : Nat → Int32} {n3_11 : Nat} {l1 : Int32} {l2 : Int32} {B : Int} {l3 : Int32} {l4 : Int32} (k0 : n3_7 = n3_6) (k1 : n3_11 = n3_6) (k2 : v3_4.toInt ≤ n3_6) (k3 : 0 ≤ v3_4.toInt) (k4 : v3_4.toInt ≤ 20000) (hno : y_RI v3_4.toInt (-1) (v3_4.toInt - 1) g3_11) (hwy : y_RI v3_4.toInt 0 B g3_7) (k7 : -1 ≤ l3.toInt) (k8 : l3.toInt < v3_4.toInt) (k9 : 0 ≤ l4.toInt) (k10 : l4.toInt ≤ 20000) : y_Ok (f_X3_find_L v3_4 g3_6 n3_6 g3_7 n3_7 g3_10 g3_11 n3_11 l1 l2 (0, l3, l4)) (fun r => (-1 ≤ r.toInt) ∧ (r.toInt < v3_4.toInt) ∧ (r.toInt = -1 ∨ l2.toInt ≤ B)) := y_X3_find_L_0_i (B := B) k0 k1 k2 k3 k4 hno hwy (20000 - l4.toInt + 1).toNat k7 k8 k9 k10 (by omega)
set_option maxHeartbeats 4000000 in
theorem y_X3_find {v3_4 : Int32} {g3_6 : Nat → Int32} {n3_6 : Nat} {g3_7 : Nat → Int32} {n3_7 : Nat} {g3_10 : Nat → Int32} {g3_11 : Nat → Int32} {n3_11 : Nat} {p1 : Int32} {p2 : Int32} {B : Int} (k0 : n3_7 = n3_6) (k1 : n3_11 = n3_6) (k2 : v3_4.toInt ≤ n3_6) (k3 : 0 ≤ v3_4.toInt) (k4 : v3_4.toInt ≤ 20000) (hno : y_RI v3_4.toInt (-1) (v3_4.toInt - 1) g3_11) (hwy : y_RI v3_4.toInt 0 B g3_7) (hhd : y_RI 256 (-1) (v3_4.toInt - 1) g3_10) : y_Ok (f_X3_find v3_4 g3_6 n3_6 g3_7 n3_7 g3_10 g3_11 n3_11 p1 p2) (fun r => (-1 ≤ r.toInt) ∧ (r.toInt < v3_4.toInt) ∧ (r.toInt = -1 ∨ p2.toInt ≤ B)) := by
  unfold f_X3_find
  refine y_bi (y_X3_headOf) (fun r_9 h_r_9 => ?_)
  obtain ⟨h0_r_9, h1_r_9⟩ := h_r_9
  refine y_gd (y_gdI (by omega) (by omega)) ?_
  try have e1 := @y_cl r_9 (by omega)
  try have e2 := hhd.at (Int32.toNatClampNeg r_9) (by omega)
  have e3 : (0 : Int32).toInt = 0 := rfl
  refine y_Ok.mono (y_X3_find_L_0 (B := B) (l3 := (g3_10 (Int32.toNatClampNeg r_9))) (l4 := 0) (by first | with_reducible assumption | omega | ((with_reducible refine y_Vl ?_ ?_) <;> omega) | ((with_reducible refine y_Eq_cpy ?_) <;> omega) | ((with_reducible refine y_RIm (by with_reducible assumption) ?_ ?_ ?_) <;> omega) | ((with_reducible refine y_RIu (by with_reducible assumption) ?_ ?_ ?_ ?_ ?_) <;> omega) | ((with_reducible refine y_R1v (by with_reducible assumption) ?_ ?_ ?_ ?_ ?_) <;> omega) | ((with_reducible refine y_R1m (by with_reducible assumption) ?_ ?_ ?_) <;> omega) | ((with_reducible refine y_P_put (by with_reducible assumption) ?_ ?_ ?_ ?_ ?_) <;> omega) | ((with_reducible refine y_PN_put (by with_reducible assumption) ?_ ?_ ?_ ?_ ?_) <;> omega) | ((with_reducible refine y_P1 (by with_reducible assumption) ?_) <;> omega) | (with_reducible exact y_Eq.rf _ _)) (by first | with_reducible assumption | omega | ((with_reducible refine y_Vl ?_ ?_) <;> omega) | ((with_reducible refine y_Eq_cpy ?_) <;> omega) | ((with_reducible refine y_RIm (by with_reducible assumption) ?_ ?_ ?_) <;> omega) | ((with_reducible refine y_RIu (by with_reducible assumption) ?_ ?_ ?_ ?_ ?_) <;> omega) | ((with_reducible refine y_R1v (by with_reducible assumption) ?_ ?_ ?_ ?_ ?_) <;> omega) | ((with_reducible refine y_R1m (by with_reducible assumption) ?_ ?_ ?_) <;> omega) | ((with_reducible refine y_P_put (by with_reducible assumption) ?_ ?_ ?_ ?_ ?_) <;> omega) | ((with_reducible refine y_PN_put (by with_reducible assumption) ?_ ?_ ?_ ?_ ?_) <;> omega) | ((with_reducible refine y_P1 (by with_reducible assumption) ?_) <;> omega) | (with_reducible exact y_Eq.rf _ _)) (by omega) (by omega) (by omega) (by first | with_reducible assumption | omega | ((with_reducible refine y_Vl ?_ ?_) <;> omega) | ((with_reducible refine y_Eq_cpy ?_) <;> omega) | ((with_reducible refine y_RIm (by with_reducible assumption) ?_ ?_ ?_) <;> omega) | ((with_reducible refine y_RIu (by with_reducible assumption) ?_ ?_ ?_ ?_ ?_) <;> omega) | ((with_reducible refine y_R1v (by with_reducible assumption) ?_ ?_ ?_ ?_ ?_) <;> omega) | ((with_reducible refine y_R1m (by with_reducible assumption) ?_ ?_ ?_) <;> omega) | ((with_reducible refine y_P_put (by with_reducible assumption) ?_ ?_ ?_ ?_ ?_) <;> omega) | ((with_reducible refine y_PN_put (by with_reducible assumption) ?_ ?_ ?_ ?_ ?_) <;> omega) | ((with_reducible refine y_P1 (by with_reducible assumption) ?_) <;> omega) | (with_reducible exact y_Eq.rf _ _)) (by first | with_reducible assumption | omega | ((with_reducible refine y_Vl ?_ ?_) <;> omega) | ((with_reducible refine y_Eq_cpy ?_) <;> omega) | ((with_reducible refine y_RIm (by with_reducible assumption) ?_ ?_ ?_) <;> omega) | ((with_reducible refine y_RIu (by with_reducible assumption) ?_ ?_ ?_ ?_ ?_) <;> omega) | ((with_reducible refine y_R1v (by with_reducible assumption) ?_ ?_ ?_ ?_ ?_) <;> omega) | ((with_reducible refine y_R1m (by with_reducible assumption) ?_ ?_ ?_) <;> omega) | ((with_reducible refine y_P_put (by with_reducible assumption) ?_ ?_ ?_ ?_ ?_) <;> omega) | ((with_reducible refine y_PN_put (by with_reducible assumption) ?_ ?_ ?_ ?_ ?_) <;> omega) | ((with_reducible refine y_P1 (by with_reducible assumption) ?_) <;> omega) | (with_reducible exact y_Eq.rf _ _)) (by omega) (by omega) (by omega) (by omega)) (fun r_t3 h_r_t3 => ?_)
  obtain ⟨h0_r_t3, h1_r_t3, h2_r_t3⟩ := h_r_t3
  refine ⟨?_, ?_, ?_⟩ <;> (first | with_reducible assumption | omega | ((with_reducible refine y_Vl ?_ ?_) <;> omega) | ((with_reducible refine y_Eq_cpy ?_) <;> omega) | ((with_reducible refine y_RIm (by with_reducible assumption) ?_ ?_ ?_) <;> omega) | ((with_reducible refine y_RIu (by with_reducible assumption) ?_ ?_ ?_ ?_ ?_) <;> omega) | ((with_reducible refine y_R1v (by with_reducible assumption) ?_ ?_ ?_ ?_ ?_) <;> omega) | ((with_reducible refine y_R1m (by with_reducible assumption) ?_ ?_ ?_) <;> omega) | ((with_reducible refine y_P_put (by with_reducible assumption) ?_ ?_ ?_ ?_ ?_) <;> omega) | ((with_reducible refine y_PN_put (by with_reducible assumption) ?_ ?_ ?_ ?_ ?_) <;> omega) | ((with_reducible refine y_P1 (by with_reducible assumption) ?_) <;> omega) | (with_reducible exact y_Eq.rf _ _))
set_option maxHeartbeats 4000000 in
theorem y_X3_isBefore {g1_0 : Nat → Int32} {n1_0 : Nat} {g1_1 : Nat → Int32} {n1_1 : Nat} {g1_2 : Nat → Int32} {n1_2 : Nat} {g3_6 : Nat → Int32} {n3_6 : Nat} {g3_7 : Nat → Int32} {n3_7 : Nat} {p1 : Int32} {p2 : Int32} {v1_5 : Int32} {n1_3 n1_4 : Nat} {n3 : Int} (k0 : n1_1 = n1_0) (k1 : n1_2 = n1_0) (k2 : n1_3 = n1_0) (k3 : n1_4 = n1_0) (k4 : 16 ≤ n1_0) (k5 : n1_0 ≤ 40004) (k6 : 1 ≤ v1_5.toInt) (k7 : v1_5.toInt ≤ n1_0) (k8 : v1_5.toInt ≤ 20002) (hpar : y_P v1_5.toInt g1_0) (k10 : n3_7 = n3_6) (k11 : n3 ≤ n3_6) (hwy : y_RI n3 0 (v1_5.toInt - 1) g3_7) (k13 : 0 ≤ p1.toInt) (k14 : p1.toInt < n3) (k15 : 0 ≤ p2.toInt) (k16 : p2.toInt < n3) : y_Ok (f_X3_isBefore g1_0 n1_0 g1_1 n1_1 g1_2 n1_2 g3_6 n3_6 g3_7 n3_7 p1 p2) (fun r => (True)) := by
  unfold f_X3_isBefore
  refine y_gd (y_gdI (by omega) (by omega)) ?_
  refine y_gd (y_gdI (by omega) (by omega)) ?_
  refine y_if (fun c1 => ?_) (fun c1 => ?_)
  · skip
    try have e2 := @y_cl p1 (by omega)
    try have e3 := @y_cl p2 (by omega)
    have c1' := c1
    rw [← Int32.toInt_inj] at c1'
    refine y_gd (y_gdI (by omega) (by omega)) ?_
    refine y_gd (y_gdI (by omega) (by omega)) ?_
    try have e4 := hwy.at (Int32.toNatClampNeg p1) (by omega)
    try have e5 := hwy.at (Int32.toNatClampNeg p2) (by omega)
    refine y_bi (y_X1_isBefore (v1_5 := v1_5) (n1_3 := n1_3) (n1_4 := n1_4) (by first | with_reducible assumption | omega | ((with_reducible refine y_Vl ?_ ?_) <;> omega)) (by first | with_reducible assumption | omega | ((with_reducible refine y_Vl ?_ ?_) <;> omega)) (by first | with_reducible assumption | omega | ((with_reducible refine y_Vl ?_ ?_) <;> omega)) (by first | with_reducible assumption | omega | ((with_reducible refine y_Vl ?_ ?_) <;> omega)) (by omega) (by omega) (by omega) (by omega) (by omega) (by first | with_reducible assumption | omega | ((with_reducible refine y_Vl ?_ ?_) <;> omega)) (by omega) (by omega) (by omega) (by omega)) (fun r_6 h_r_6 => ?_)
    have h0_r_6 : True := h_r_6
    exact y_some trivial
  · skip
    try have e6 := @y_cl p1 (by omega)
    try have e7 := @y_cl p2 (by omega)
    have c1' := c1
    rw [← Int32.toInt_inj] at c1'
    refine y_gd (y_gdI (by omega) (by omega)) ?_
    refine y_gd (y_gdI (by omega) (by omega)) ?_
    refine y_if (fun c8 => ?_) (fun c8 => ?_)
    · skip
      have c8' := c8
      rw [Int32.le_iff_toInt_le] at c8'
      have e9 : (0 : Int32).toInt = 0 := rfl
      exact y_some trivial
    · skip
      have c8' := c8
      rw [Int32.le_iff_toInt_le] at c8'
      have e10 : (1 : Int32).toInt = 1 := rfl
      exact y_some trivial
set_option maxHeartbeats 4000000 in
theorem y_X3_mergeRuns_L_0_i {g1_0 : Nat → Int32} {n1_0 : Nat} {g1_1 : Nat → Int32} {n1_1 : Nat} {g1_2 : Nat → Int32} {n1_2 : Nat} {v3_4 : Int32} {g3_6 : Nat → Int32} {n3_6 : Nat} {g3_7 : Nat → Int32} {n3_7 : Nat} {g3_15 : Nat → Int32} {n3_15 : Nat} {n3_16 : Nat} {l3 : Int32} {l4 : Int32} {v1_5 : Int32} {n1_3 n1_4 : Nat} (k0 : n1_1 = n1_0) (k1 : n1_2 = n1_0) (k2 : n1_3 = n1_0) (k3 : n1_4 = n1_0) (k4 : 16 ≤ n1_0) (k5 : n1_0 ≤ 40004) (k6 : 1 ≤ v1_5.toInt) (k7 : v1_5.toInt ≤ n1_0) (k8 : v1_5.toInt ≤ 20002) (hpar : y_P v1_5.toInt g1_0) (k10 : n3_7 = n3_6) (k11 : v3_4.toInt ≤ n3_6) (k12 : 0 ≤ v3_4.toInt) (k13 : v3_4.toInt ≤ 20000) (hwy : y_RI v3_4.toInt 0 (v1_5.toInt - 1) g3_7) (k15 : n3_16 = n3_15) (k16 : v3_4.toInt ≤ n3_15) (hord : y_RI v3_4.toInt 0 (v3_4.toInt - 1) g3_15) (k18 : 0 ≤ l3.toInt) (k19 : l3.toInt ≤ l4.toInt) (k20 : l4.toInt ≤ v3_4.toInt) : ∀ (m : Nat) {l5 : Int32} {l6 : Int32} {l7 : Int32} {g3_16 : Nat → Int32}, (0 ≤ l5.toInt) → (l5.toInt ≤ l3.toInt) → (l3.toInt ≤ l6.toInt) → (l6.toInt ≤ l4.toInt) → (l7.toInt = l5.toInt + l6.toInt - l3.toInt) → (y_RI l7.toInt 0 (v3_4.toInt - 1) g3_16) → l4.toInt - l7.toInt < m → y_Ok (f_X3_mergeRuns_L g1_0 n1_0 g1_1 n1_1 g1_2 n1_2 v3_4 g3_6 n3_6 g3_7 n3_7 g3_15 n3_15 n3_16 l3 l4 (0, l5, l6, l7, g3_16)) (fun r => (y_RI l4.toInt 0 (v3_4.toInt - 1) r)) := by
  intro m
  induction m with
  | zero => intro l5 l6 l7 g3_16 k21 k22 k23 k24 k25 hoth hm; exfalso; omega
  | succ m ih =>
    intro l5 l6 l7 g3_16 k21 k22 k23 k24 k25 hoth hm
    rw [f_X3_mergeRuns_L]
    refine y_ip rfl ?_
    refine y_if (fun c1 => ?_) (fun c1 => ?_)
    · skip
      have c1' := c1
      rw [Int32.le_iff_toInt_le] at c1'
      refine y_some ?_
      try dsimp only
      (first | with_reducible assumption | omega | ((with_reducible refine y_Vl ?_ ?_) <;> omega) | ((with_reducible refine y_Eq_cpy ?_) <;> omega) | ((with_reducible refine y_RIm (by with_reducible assumption) ?_ ?_ ?_) <;> omega) | ((with_reducible refine y_RIu (by with_reducible assumption) ?_ ?_ ?_ ?_ ?_) <;> omega) | ((with_reducible refine y_R1v (by with_reducible assumption) ?_ ?_ ?_ ?_ ?_) <;> omega) | ((with_reducible refine y_R1m (by with_reducible assumption) ?_ ?_ ?_) <;> omega) | ((with_reducible refine y_P_put (by with_reducible assumption) ?_ ?_ ?_ ?_ ?_) <;> omega) | ((with_reducible refine y_PN_put (by with_reducible assumption) ?_ ?_ ?_ ?_ ?_) <;> omega) | ((with_reducible refine y_P1 (by with_reducible assumption) ?_) <;> omega) | (with_reducible exact y_Eq.rf _ _) | ((with_reducible refine y_RIs2 (by with_reducible assumption) ?_ ?_ ?_ ?_) <;> omega))
    · skip
      have c1' := c1
      rw [Int32.le_iff_toInt_le] at c1'
      refine y_if (fun c2 => ?_) (fun c2 => ?_)
      · skip
        have c2' := c2
        rw [Int32.le_iff_toInt_le] at c2'
        refine y_gd (y_gdI (by omega) (by omega)) ?_
        refine y_gd (y_gdI (by omega) (by omega)) ?_
        try have e3 := @y_addL l5 (1 : Int32) (1) rfl (by omega) (by omega)
        try have e4 := @y_addL l7 (1 : Int32) (1) rfl (by omega) (by omega)
        try have e5 := @y_cl l7 (by omega)
        try have e6 := @y_cl l5 (by omega)
        try have e7 := hord.at (Int32.toNatClampNeg l5) (by omega)
        try have e8 : y_RI l7.toInt 0 (v3_4.toInt - 1) (upd g3_16 (Int32.toNatClampNeg l7) (g3_15 (Int32.toNatClampNeg l5))) := y_RIu hoth (by omega) (by omega) (by omega) (by omega) (Or.inl (by omega))
        exact ih (l5 := (l5 + 1)) (l6 := l6) (l7 := (l7 + 1)) (g3_16 := (upd g3_16 (Int32.toNatClampNeg l7) (g3_15 (Int32.toNatClampNeg l5)))) (by omega) (by omega) (by omega) (by omega) (by omega) (by first | with_reducible assumption | omega | ((with_reducible refine y_Vl ?_ ?_) <;> omega) | ((with_reducible refine y_Eq_cpy ?_) <;> omega) | ((with_reducible refine y_RIm (by with_reducible assumption) ?_ ?_ ?_) <;> omega) | ((with_reducible refine y_RIu (by with_reducible assumption) ?_ ?_ ?_ ?_ ?_) <;> omega) | ((with_reducible refine y_R1v (by with_reducible assumption) ?_ ?_ ?_ ?_ ?_) <;> omega) | ((with_reducible refine y_R1m (by with_reducible assumption) ?_ ?_ ?_) <;> omega) | ((with_reducible refine y_P_put (by with_reducible assumption) ?_ ?_ ?_ ?_ ?_) <;> omega) | ((with_reducible refine y_PN_put (by with_reducible assumption) ?_ ?_ ?_ ?_ ?_) <;> omega) | ((with_reducible refine y_P1 (by with_reducible assumption) ?_) <;> omega) | (with_reducible exact y_Eq.rf _ _) | ((with_reducible refine y_RIs2 (by with_reducible assumption) ?_ ?_ ?_ ?_) <;> omega)) (by omega)
      · skip
        have c2' := c2
        rw [Int32.le_iff_toInt_le] at c2'
        refine y_if (fun c9 => ?_) (fun c9 => ?_)
        · skip
          have c9' := c9
          rw [Int32.le_iff_toInt_le] at c9'
          refine y_gd (y_gdI (by omega) (by omega)) ?_
          refine y_gd (y_gdI (by omega) (by omega)) ?_
          try have e10 := @y_addL l6 (1 : Int32) (1) rfl (by omega) (by omega)
          try have e11 := @y_addL l7 (1 : Int32) (1) rfl (by omega) (by omega)
          try have e12 := @y_cl l7 (by omega)
          try have e13 := @y_cl l6 (by omega)
          try have e14 := hord.at (Int32.toNatClampNeg l6) (by omega)
          try have e15 : y_RI l7.toInt 0 (v3_4.toInt - 1) (upd g3_16 (Int32.toNatClampNeg l7) (g3_15 (Int32.toNatClampNeg l6))) := y_RIu hoth (by omega) (by omega) (by omega) (by omega) (Or.inl (by omega))
          exact ih (l5 := l5) (l6 := (l6 + 1)) (l7 := (l7 + 1)) (g3_16 := (upd g3_16 (Int32.toNatClampNeg l7) (g3_15 (Int32.toNatClampNeg l6)))) (by omega) (by omega) (by omega) (by omega) (by omega) (by first | with_reducible assumption | omega | ((with_reducible refine y_Vl ?_ ?_) <;> omega) | ((with_reducible refine y_Eq_cpy ?_) <;> omega) | ((with_reducible refine y_RIm (by with_reducible assumption) ?_ ?_ ?_) <;> omega) | ((with_reducible refine y_RIu (by with_reducible assumption) ?_ ?_ ?_ ?_ ?_) <;> omega) | ((with_reducible refine y_R1v (by with_reducible assumption) ?_ ?_ ?_ ?_ ?_) <;> omega) | ((with_reducible refine y_R1m (by with_reducible assumption) ?_ ?_ ?_) <;> omega) | ((with_reducible refine y_P_put (by with_reducible assumption) ?_ ?_ ?_ ?_ ?_) <;> omega) | ((with_reducible refine y_PN_put (by with_reducible assumption) ?_ ?_ ?_ ?_ ?_) <;> omega) | ((with_reducible refine y_P1 (by with_reducible assumption) ?_) <;> omega) | (with_reducible exact y_Eq.rf _ _) | ((with_reducible refine y_RIs2 (by with_reducible assumption) ?_ ?_ ?_ ?_) <;> omega)) (by omega)
        · skip
          have c9' := c9
          rw [Int32.le_iff_toInt_le] at c9'
          refine y_gd (y_gdI (by omega) (by omega)) ?_
          refine y_gd (y_gdI (by omega) (by omega)) ?_
          try have e16 := @y_cl l6 (by omega)
          try have e17 := hord.at (Int32.toNatClampNeg l6) (by omega)
          try have e18 := @y_cl l5 (by omega)
          try have e19 := hord.at (Int32.toNatClampNeg l5) (by omega)
          refine y_bi (y_X3_isBefore (v1_5 := v1_5) (n1_3 := n1_3) (n1_4 := n1_4) (n3 := v3_4.toInt) (by first | with_reducible assumption | omega | ((with_reducible refine y_Vl ?_ ?_) <;> omega) | ((with_reducible refine y_Eq_cpy ?_) <;> omega) | ((with_reducible refine y_RIm (by with_reducible assumption) ?_ ?_ ?_) <;> omega) | ((with_reducible refine y_RIu (by with_reducible assumption) ?_ ?_ ?_ ?_ ?_) <;> omega) | ((with_reducible refine y_R1v (by with_reducible assumption) ?_ ?_ ?_ ?_ ?_) <;> omega) | ((with_reducible refine y_R1m (by with_reducible assumption) ?_ ?_ ?_) <;> omega) | ((with_reducible refine y_P_put (by with_reducible assumption) ?_ ?_ ?_ ?_ ?_) <;> omega) | ((with_reducible refine y_PN_put (by with_reducible assumption) ?_ ?_ ?_ ?_ ?_) <;> omega) | ((with_reducible refine y_P1 (by with_reducible assumption) ?_) <;> omega) | (with_reducible exact y_Eq.rf _ _) | ((with_reducible refine y_RIs2 (by with_reducible assumption) ?_ ?_ ?_ ?_) <;> omega)) (by first | with_reducible assumption | omega | ((with_reducible refine y_Vl ?_ ?_) <;> omega) | ((with_reducible refine y_Eq_cpy ?_) <;> omega) | ((with_reducible refine y_RIm (by with_reducible assumption) ?_ ?_ ?_) <;> omega) | ((with_reducible refine y_RIu (by with_reducible assumption) ?_ ?_ ?_ ?_ ?_) <;> omega) | ((with_reducible refine y_R1v (by with_reducible assumption) ?_ ?_ ?_ ?_ ?_) <;> omega) | ((with_reducible refine y_R1m (by with_reducible assumption) ?_ ?_ ?_) <;> omega) | ((with_reducible refine y_P_put (by with_reducible assumption) ?_ ?_ ?_ ?_ ?_) <;> omega) | ((with_reducible refine y_PN_put (by with_reducible assumption) ?_ ?_ ?_ ?_ ?_) <;> omega) | ((with_reducible refine y_P1 (by with_reducible assumption) ?_) <;> omega) | (with_reducible exact y_Eq.rf _ _) | ((with_reducible refine y_RIs2 (by with_reducible assumption) ?_ ?_ ?_ ?_) <;> omega)) (by first | with_reducible assumption | omega | ((with_reducible refine y_Vl ?_ ?_) <;> omega) | ((with_reducible refine y_Eq_cpy ?_) <;> omega) | ((with_reducible refine y_RIm (by with_reducible assumption) ?_ ?_ ?_) <;> omega) | ((with_reducible refine y_RIu (by with_reducible assumption) ?_ ?_ ?_ ?_ ?_) <;> omega) | ((with_reducible refine y_R1v (by with_reducible assumption) ?_ ?_ ?_ ?_ ?_) <;> omega) | ((with_reducible refine y_R1m (by with_reducible assumption) ?_ ?_ ?_) <;> omega) | ((with_reducible refine y_P_put (by with_reducible assumption) ?_ ?_ ?_ ?_ ?_) <;> omega) | ((with_reducible refine y_PN_put (by with_reducible assumption) ?_ ?_ ?_ ?_ ?_) <;> omega) | ((with_reducible refine y_P1 (by with_reducible assumption) ?_) <;> omega) | (with_reducible exact y_Eq.rf _ _) | ((with_reducible refine y_RIs2 (by with_reducible assumption) ?_ ?_ ?_ ?_) <;> omega)) (by first | with_reducible assumption | omega | ((with_reducible refine y_Vl ?_ ?_) <;> omega) | ((with_reducible refine y_Eq_cpy ?_) <;> omega) | ((with_reducible refine y_RIm (by with_reducible assumption) ?_ ?_ ?_) <;> omega) | ((with_reducible refine y_RIu (by with_reducible assumption) ?_ ?_ ?_ ?_ ?_) <;> omega) | ((with_reducible refine y_R1v (by with_reducible assumption) ?_ ?_ ?_ ?_ ?_) <;> omega) | ((with_reducible refine y_R1m (by with_reducible assumption) ?_ ?_ ?_) <;> omega) | ((with_reducible refine y_P_put (by with_reducible assumption) ?_ ?_ ?_ ?_ ?_) <;> omega) | ((with_reducible refine y_PN_put (by with_reducible assumption) ?_ ?_ ?_ ?_ ?_) <;> omega) | ((with_reducible refine y_P1 (by with_reducible assumption) ?_) <;> omega) | (with_reducible exact y_Eq.rf _ _) | ((with_reducible refine y_RIs2 (by with_reducible assumption) ?_ ?_ ?_ ?_) <;> omega)) (by omega) (by omega) (by omega) (by omega) (by omega) (by first | with_reducible assumption | omega | ((with_reducible refine y_Vl ?_ ?_) <;> omega) | ((with_reducible refine y_Eq_cpy ?_) <;> omega) | ((with_reducible refine y_RIm (by with_reducible assumption) ?_ ?_ ?_) <;> omega) | ((with_reducible refine y_RIu (by with_reducible assumption) ?_ ?_ ?_ ?_ ?_) <;> omega) | ((with_reducible refine y_R1v (by with_reducible assumption) ?_ ?_ ?_ ?_ ?_) <;> omega) | ((with_reducible refine y_R1m (by with_reducible assumption) ?_ ?_ ?_) <;> omega) | ((with_reducible refine y_P_put (by with_reducible assumption) ?_ ?_ ?_ ?_ ?_) <;> omega) | ((with_reducible refine y_PN_put (by with_reducible assumption) ?_ ?_ ?_ ?_ ?_) <;> omega) | ((with_reducible refine y_P1 (by with_reducible assumption) ?_) <;> omega) | (with_reducible exact y_Eq.rf _ _) | ((with_reducible refine y_RIs2 (by with_reducible assumption) ?_ ?_ ?_ ?_) <;> omega)) (by first | with_reducible assumption | omega | ((with_reducible refine y_Vl ?_ ?_) <;> omega) | ((with_reducible refine y_Eq_cpy ?_) <;> omega) | ((with_reducible refine y_RIm (by with_reducible assumption) ?_ ?_ ?_) <;> omega) | ((with_reducible refine y_RIu (by with_reducible assumption) ?_ ?_ ?_ ?_ ?_) <;> omega) | ((with_reducible refine y_R1v (by with_reducible assumption) ?_ ?_ ?_ ?_ ?_) <;> omega) | ((with_reducible refine y_R1m (by with_reducible assumption) ?_ ?_ ?_) <;> omega) | ((with_reducible refine y_P_put (by with_reducible assumption) ?_ ?_ ?_ ?_ ?_) <;> omega) | ((with_reducible refine y_PN_put (by with_reducible assumption) ?_ ?_ ?_ ?_ ?_) <;> omega) | ((with_reducible refine y_P1 (by with_reducible assumption) ?_) <;> omega) | (with_reducible exact y_Eq.rf _ _) | ((with_reducible refine y_RIs2 (by with_reducible assumption) ?_ ?_ ?_ ?_) <;> omega)) (by omega) (by first | with_reducible assumption | omega | ((with_reducible refine y_Vl ?_ ?_) <;> omega) | ((with_reducible refine y_Eq_cpy ?_) <;> omega) | ((with_reducible refine y_RIm (by with_reducible assumption) ?_ ?_ ?_) <;> omega) | ((with_reducible refine y_RIu (by with_reducible assumption) ?_ ?_ ?_ ?_ ?_) <;> omega) | ((with_reducible refine y_R1v (by with_reducible assumption) ?_ ?_ ?_ ?_ ?_) <;> omega) | ((with_reducible refine y_R1m (by with_reducible assumption) ?_ ?_ ?_) <;> omega) | ((with_reducible refine y_P_put (by with_reducible assumption) ?_ ?_ ?_ ?_ ?_) <;> omega) | ((with_reducible refine y_PN_put (by with_reducible assumption) ?_ ?_ ?_ ?_ ?_) <;> omega) | ((with_reducible refine y_P1 (by with_reducible assumption) ?_) <;> omega) | (with_reducible exact y_Eq.rf _ _) | ((with_reducible refine y_RIs2 (by with_reducible assumption) ?_ ?_ ?_ ?_) <;> omega)) (by omega) (by omega) (by omega) (by omega)) (fun r_14 h_r_14 => ?_)
          have h0_r_14 : True := h_r_14
          refine y_if (fun c20 => ?_) (fun c20 => ?_)
          · skip
            have e21 : (0 : Int32).toInt = 0 := rfl
            have c20' := c20
            rw [← Int32.toInt_inj] at c20'
            refine y_gd (y_gdI (by omega) (by omega)) ?_
            refine y_gd (y_gdI (by omega) (by omega)) ?_
            try have e22 := @y_addL l5 (1 : Int32) (1) rfl (by omega) (by omega)
            try have e23 := @y_addL l7 (1 : Int32) (1) rfl (by omega) (by omega)
            try have e24 := @y_cl l7 (by omega)
            try have e25 : y_RI l7.toInt 0 (v3_4.toInt - 1) (upd g3_16 (Int32.toNatClampNeg l7) (g3_15 (Int32.toNatClampNeg l5))) := y_RIu hoth (by omega) (by omega) (by omega) (by omega) (Or.inl (by omega))
            exact ih (l5 := (l5 + 1)) (l6 := l6) (l7 := (l7 + 1)) (g3_16 := (upd g3_16 (Int32.toNatClampNeg l7) (g3_15 (Int32.toNatClampNeg l5)))) (by omega) (by omega) (by omega) (by omega) (by omega) (by first | with_reducible assumption | omega | ((with_reducible refine y_Vl ?_ ?_) <;> omega) | ((with_reducible refine y_Eq_cpy ?_) <;> omega) | ((with_reducible refine y_RIm (by with_reducible assumption) ?_ ?_ ?_) <;> omega) | ((with_reducible refine y_RIu (by with_reducible assumption) ?_ ?_ ?_ ?_ ?_) <;> omega) | ((with_reducible refine y_R1v (by with_reducible assumption) ?_ ?_ ?_ ?_ ?_) <;> omega) | ((with_reducible refine y_R1m (by with_reducible assumption) ?_ ?_ ?_) <;> omega) | ((with_reducible refine y_P_put (by with_reducible assumption) ?_ ?_ ?_ ?_ ?_) <;> omega) | ((with_reducible refine y_PN_put (by with_reducible assumption) ?_ ?_ ?_ ?_ ?_) <;> omega) | ((with_reducible refine y_P1 (by with_reducible assumption) ?_) <;> omega) | (with_reducible exact y_Eq.rf _ _) | ((with_reducible refine y_RIs2 (by with_reducible assumption) ?_ ?_ ?_ ?_) <;> omega)) (by omega)
          · skip
            have e26 : (0 : Int32).toInt = 0 := rfl
            have c20' := c20
            rw [← Int32.toInt_inj] at c20'
            refine y_gd (y_gdI (by omega) (by omega)) ?_
            refine y_gd (y_gdI (by omega) (by omega)) ?_
            try have e27 := @y_addL l6 (1 : Int32) (1) rfl (by omega) (by omega)
            try have e28 := @y_addL l7 (1 : Int32) (1) rfl (by omega) (by omega)
            try have e29 := @y_cl l7 (by omega)
            try have e30 : y_RI l7.toInt 0 (v3_4.toInt - 1) (upd g3_16 (Int32.toNatClampNeg l7) (g3_15 (Int32.toNatClampNeg l6))) := y_RIu hoth (by omega) (by omega) (by omega) (by omega) (Or.inl (by omega))
            exact ih (l5 := l5) (l6 := (l6 + 1)) (l7 := (l7 + 1)) (g3_16 := (upd g3_16 (Int32.toNatClampNeg l7) (g3_15 (Int32.toNatClampNeg l6)))) (by omega) (by omega) (by omega) (by omega) (by omega) (by first | with_reducible assumption | omega | ((with_reducible refine y_Vl ?_ ?_) <;> omega) | ((with_reducible refine y_Eq_cpy ?_) <;> omega) | ((with_reducible refine y_RIm (by with_reducible assumption) ?_ ?_ ?_) <;> omega) | ((with_reducible refine y_RIu (by with_reducible assumption) ?_ ?_ ?_ ?_ ?_) <;> omega) | ((with_reducible refine y_R1v (by with_reducible assumption) ?_ ?_ ?_ ?_ ?_) <;> omega) | ((with_reducible refine y_R1m (by with_reducible assumption) ?_ ?_ ?_) <;> omega) | ((with_reducible refine y_P_put (by with_reducible assumption) ?_ ?_ ?_ ?_ ?_) <;> omega) | ((with_reducible refine y_PN_put (by with_reducible assumption) ?_ ?_ ?_ ?_ ?_) <;> omega) | ((with_reducible refine y_P1 (by with_reducible assumption) ?_) <;> omega) | (with_reducible exact y_Eq.rf _ _) | ((with_reducible refine y_RIs2 (by with_reducible assumption) ?_ ?_ ?_ ?_) <;> omega)) (by omega)
theorem y_X3_mergeRuns_L_0 {g1_0 : Nat → Int32} {n1_0 : Nat} {g1_1 : Nat → Int32} {n1_1 : Nat} {g1_2 : Nat → Int32} {n1_2 : Nat} {v3_4 : Int32} {g3_6 : Nat → Int32} {n3_6 : Nat} {g3_7 : Nat → Int32} {n3_7 : Nat} {g3_15 : Nat → Int32} {n3_15 : Nat} {n3_16 : Nat} {l3 : Int32} {l4 : Int32} {v1_5 : Int32} {n1_3 n1_4 : Nat} {l5 : Int32} {l6 : Int32} {l7 : Int32} {g3_16 : Nat → Int32} (k0 : n1_1 = n1_0) (k1 : n1_2 = n1_0) (k2 : n1_3 = n1_0) (k3 : n1_4 = n1_0) (k4 : 16 ≤ n1_0) (k5 : n1_0 ≤ 40004) (k6 : 1 ≤ v1_5.toInt) (k7 : v1_5.toInt ≤ n1_0) (k8 : v1_5.toInt ≤ 20002) (hpar : y_P v1_5.toInt g1_0) (k10 : n3_7 = n3_6) (k11 : v3_4.toInt ≤ n3_6) (k12 : 0 ≤ v3_4.toInt) (k13 : v3_4.toInt ≤ 20000) (hwy : y_RI v3_4.toInt 0 (v1_5.toInt - 1) g3_7) (k15 : n3_16 = n3_15) (k16 : v3_4.toInt ≤ n3_15) (hord : y_RI v3_4.toInt 0 (v3_4.toInt - 1) g3_15) (k18 : 0 ≤ l3.toInt) (k19 : l3.toInt ≤ l4.toInt) (k20 : l4.toInt ≤ v3_4.toInt) (k21 : 0 ≤ l5.toInt) (k22 : l5.toInt ≤ l3.toInt) (k23 : l3.toInt ≤ l6.toInt) (k24 : l6.toInt ≤ l4.toInt) (k25 : l7.toInt = l5.toInt + l6.toInt - l3.toInt) (hoth : y_RI l7.toInt 0 (v3_4.toInt - 1) g3_16) : y_Ok (f_X3_mergeRuns_L g1_0 n1_0 g1_1 n1_1 g1_2 n1_2 v3_4 g3_6 n3_6 g3_7 n3_7 g3_15 n3_15 n3_16 l3 l4 (0, l5, l6, l7, g3_16)) (fun r => (y_RI l4.toInt 0 (v3_4.toInt - 1) r)) := y_X3_mergeRuns_L_0_i (v1_5 := v1_5) (n1_3 := n1_3) (n1_4 := n1_4) k0 k1 k2 k3 k4 k5 k6 k7 k8 hpar k10 k11 k12 k13 hwy k15 k16 hord k18 k19 k20 (l4.toInt - l7.toInt + 1).toNat k21 k22 k23 k24 k25 hoth (by omega)
set_option maxHeartbeats 4000000 in
theorem y_X3_mergeRuns {g1_0 : Nat → Int32} {n1_0 : Nat} {g1_1 : Nat → Int32} {n1_1 : Nat} {g1_2 : Nat → Int32} {n1_2 : Nat} {v3_4 : Int32} {g3_6 : Nat → Int32} {n3_6 : Nat} {g3_7 : Nat → Int32} {n3_7 : Nat} {g3_15 : Nat → Int32} {n3_15 : Nat} {g3_16 : Nat → Int32} {n3_16 : Nat} {p1 : Int32} {p2 : Int32} {v1_5 : Int32} {n1_3 n1_4 : Nat} (k0 : n1_1 = n1_0) (k1 : n1_2 = n1_0) (k2 : n1_3 = n1_0) (k3 : n1_4 = n1_0) (k4 : 16 ≤ n1_0) (k5 : n1_0 ≤ 40004) (k6 : 1 ≤ v1_5.toInt) (k7 : v1_5.toInt ≤ n1_0) (k8 : v1_5.toInt ≤ 20002) (hpar : y_P v1_5.toInt g1_0) (k10 : n3_7 = n3_6) (k11 : v3_4.toInt ≤ n3_6) (k12 : 0 ≤ v3_4.toInt) (k13 : v3_4.toInt ≤ 20000) (hwy : y_RI v3_4.toInt 0 (v1_5.toInt - 1) g3_7) (k15 : n3_16 = n3_15) (k16 : v3_4.toInt ≤ n3_15) (hord : y_RI v3_4.toInt 0 (v3_4.toInt - 1) g3_15) (k18 : 0 ≤ p1.toInt) (k19 : p1.toInt ≤ v3_4.toInt) (k20 : 1 ≤ p2.toInt) (k21 : p2.toInt ≤ 20000) (hoth : y_RI p1.toInt 0 (v3_4.toInt - 1) g3_16) : y_Ok (f_X3_mergeRuns g1_0 n1_0 g1_1 n1_1 g1_2 n1_2 v3_4 g3_6 n3_6 g3_7 n3_7 g3_15 n3_15 g3_16 n3_16 p1 p2) (fun r => (y_RI v3_4.toInt 0 (v3_4.toInt - 1) r ∨ y_RI (p1.toInt + 2 * p2.toInt) 0 (v3_4.toInt - 1) r)) := by
  unfold f_X3_mergeRuns
  refine y_if (fun c1 => ?_) (fun c1 => ?_)
  · skip
    try have e2 := @y_add p1 p2 (by omega) (by omega)
    have c1' := c1
    rw [Int32.le_iff_toInt_le] at c1'
    refine y_if (fun c3 => ?_) (fun c3 => ?_)
    · skip
      try have e4 := @y_add v3_4 p2 (by omega) (by omega)
      have c3' := c3
      rw [Int32.le_iff_toInt_le] at c3'
      refine y_Ok.mono (y_X3_mergeRuns_L_0 (v1_5 := v1_5) (n1_3 := n1_3) (n1_4 := n1_4) (l5 := p1) (l6 := v3_4) (l7 := p1) (g3_16 := g3_16) (by first | with_reducible assumption | omega | ((with_reducible refine y_Vl ?_ ?_) <;> omega) | ((with_reducible refine y_Eq_cpy ?_) <;> omega) | ((with_reducible refine y_RIm (by with_reducible assumption) ?_ ?_ ?_) <;> omega) | ((with_reducible refine y_RIu (by with_reducible assumption) ?_ ?_ ?_ ?_ ?_) <;> omega) | ((with_reducible refine y_R1v (by with_reducible assumption) ?_ ?_ ?_ ?_ ?_) <;> omega) | ((with_reducible refine y_R1m (by with_reducible assumption) ?_ ?_ ?_) <;> omega) | ((with_reducible refine y_P_put (by with_reducible assumption) ?_ ?_ ?_ ?_ ?_) <;> omega) | ((with_reducible refine y_PN_put (by with_reducible assumption) ?_ ?_ ?_ ?_ ?_) <;> omega) | ((with_reducible refine y_P1 (by with_reducible assumption) ?_) <;> omega) | (with_reducible exact y_Eq.rf _ _) | ((with_reducible refine y_RIs2 (by with_reducible assumption) ?_ ?_ ?_ ?_) <;> omega) | (exact Or.inl (y_RIm (by with_reducible assumption) (by omega) (by omega) (by omega))) | (exact Or.inr (y_RIm (by with_reducible assumption) (by omega) (by omega) (by omega)))) (by first | with_reducible assumption | omega | ((with_reducible refine y_Vl ?_ ?_) <;> omega) | ((with_reducible refine y_Eq_cpy ?_) <;> omega) | ((with_reducible refine y_RIm (by with_reducible assumption) ?_ ?_ ?_) <;> omega) | ((with_reducible refine y_RIu (by with_reducible assumption) ?_ ?_ ?_ ?_ ?_) <;> omega) | ((with_reducible refine y_R1v (by with_reducible assumption) ?_ ?_ ?_ ?_ ?_) <;> omega) | ((with_reducible refine y_R1m (by with_reducible assumption) ?_ ?_ ?_) <;> omega) | ((with_reducible refine y_P_put (by with_reducible assumption) ?_ ?_ ?_ ?_ ?_) <;> omega) | ((with_reducible refine y_PN_put (by with_reducible assumption) ?_ ?_ ?_ ?_ ?_) <;> omega) | ((with_reducible refine y_P1 (by with_reducible assumption) ?_) <;> omega) | (with_reducible exact y_Eq.rf _ _) | ((with_reducible refine y_RIs2 (by with_reducible assumption) ?_ ?_ ?_ ?_) <;> omega) | (exact Or.inl (y_RIm (by with_reducible assumption) (by omega) (by omega) (by omega))) | (exact Or.inr (y_RIm (by with_reducible assumption) (by omega) (by omega) (by omega)))) (by first | with_reducible assumption | omega | ((with_reducible refine y_Vl ?_ ?_) <;> omega) | ((with_reducible refine y_Eq_cpy ?_) <;> omega) | ((with_reducible refine y_RIm (by with_reducible assumption) ?_ ?_ ?_) <;> omega) | ((with_reducible refine y_RIu (by with_reducible assumption) ?_ ?_ ?_ ?_ ?_) <;> omega) | ((with_reducible refine y_R1v (by with_reducible assumption) ?_ ?_ ?_ ?_ ?_) <;> omega) | ((with_reducible refine y_R1m (by with_reducible assumption) ?_ ?_ ?_) <;> omega) | ((with_reducible refine y_P_put (by with_reducible assumption) ?_ ?_ ?_ ?_ ?_) <;> omega) | ((with_reducible refine y_PN_put (by with_reducible assumption) ?_ ?_ ?_ ?_ ?_) <;> omega) | ((with_reducible refine y_P1 (by with_reducible assumption) ?_) <;> omega) | (with_reducible exact y_Eq.rf _ _) | ((with_reducible refine y_RIs2 (by with_reducible assumption) ?_ ?_ ?_ ?_) <;> omega) | (exact Or.inl (y_RIm (by with_reducible assumption) (by omega) (by omega) (by omega))) | (exact Or.inr (y_RIm (by with_reducible assumption) (by omega) (by omega) (by omega)))) (by first | with_reducible assumption | omega | ((with_reducible refine y_Vl ?_ ?_) <;> omega) | ((with_reducible refine y_Eq_cpy ?_) <;> omega) | ((with_reducible refine y_RIm (by with_reducible assumption) ?_ ?_ ?_) <;> omega) | ((with_reducible refine y_RIu (by with_reducible assumption) ?_ ?_ ?_ ?_ ?_) <;> omega) | ((with_reducible refine y_R1v (by with_reducible assumption) ?_ ?_ ?_ ?_ ?_) <;> omega) | ((with_reducible refine y_R1m (by with_reducible assumption) ?_ ?_ ?_) <;> omega) | ((with_reducible refine y_P_put (by with_reducible assumption) ?_ ?_ ?_ ?_ ?_) <;> omega) | ((with_reducible refine y_PN_put (by with_reducible assumption) ?_ ?_ ?_ ?_ ?_) <;> omega) | ((with_reducible refine y_P1 (by with_reducible assumption) ?_) <;> omega) | (with_reducible exact y_Eq.rf _ _) | ((with_reducible refine y_RIs2 (by with_reducible assumption) ?_ ?_ ?_ ?_) <;> omega) | (exact Or.inl (y_RIm (by with_reducible assumption) (by omega) (by omega) (by omega))) | (exact Or.inr (y_RIm (by with_reducible assumption) (by omega) (by omega) (by omega)))) (by omega) (by omega) (by omega) (by omega) (by omega) (by first | with_reducible assumption | omega | ((with_reducible refine y_Vl ?_ ?_) <;> omega) | ((with_reducible refine y_Eq_cpy ?_) <;> omega) | ((with_reducible refine y_RIm (by with_reducible assumption) ?_ ?_ ?_) <;> omega) | ((with_reducible refine y_RIu (by with_reducible assumption) ?_ ?_ ?_ ?_ ?_) <;> omega) | ((with_reducible refine y_R1v (by with_reducible assumption) ?_ ?_ ?_ ?_ ?_) <;> omega) | ((with_reducible refine y_R1m (by with_reducible assumption) ?_ ?_ ?_) <;> omega) | ((with_reducible refine y_P_put (by with_reducible assumption) ?_ ?_ ?_ ?_ ?_) <;> omega) | ((with_reducible refine y_PN_put (by with_reducible assumption) ?_ ?_ ?_ ?_ ?_) <;> omega) | ((with_reducible refine y_P1 (by with_reducible assumption) ?_) <;> omega) | (with_reducible exact y_Eq.rf _ _) | ((with_reducible refine y_RIs2 (by with_reducible assumption) ?_ ?_ ?_ ?_) <;> omega) | (exact Or.inl (y_RIm (by with_reducible assumption) (by omega) (by omega) (by omega))) | (exact Or.inr (y_RIm (by with_reducible assumption) (by omega) (by omega) (by omega)))) (by first | with_reducible assumption | omega | ((with_reducible refine y_Vl ?_ ?_) <;> omega) | ((with_reducible refine y_Eq_cpy ?_) <;> omega) | ((with_reducible refine y_RIm (by with_reducible assumption) ?_ ?_ ?_) <;> omega) | ((with_reducible refine y_RIu (by with_reducible assumption) ?_ ?_ ?_ ?_ ?_) <;> omega) | ((with_reducible refine y_R1v (by with_reducible assumption) ?_ ?_ ?_ ?_ ?_) <;> omega) | ((with_reducible refine y_R1m (by with_reducible assumption) ?_ ?_ ?_) <;> omega) | ((with_reducible refine y_P_put (by with_reducible assumption) ?_ ?_ ?_ ?_ ?_) <;> omega) | ((with_reducible refine y_PN_put (by with_reducible assumption) ?_ ?_ ?_ ?_ ?_) <;> omega) | ((with_reducible refine y_P1 (by with_reducible assumption) ?_) <;> omega) | (with_reducible exact y_Eq.rf _ _) | ((with_reducible refine y_RIs2 (by with_reducible assumption) ?_ ?_ ?_ ?_) <;> omega) | (exact Or.inl (y_RIm (by with_reducible assumption) (by omega) (by omega) (by omega))) | (exact Or.inr (y_RIm (by with_reducible assumption) (by omega) (by omega) (by omega)))) (by omega) (by omega) (by omega) (by first | with_reducible assumption | omega | ((with_reducible refine y_Vl ?_ ?_) <;> omega) | ((with_reducible refine y_Eq_cpy ?_) <;> omega) | ((with_reducible refine y_RIm (by with_reducible assumption) ?_ ?_ ?_) <;> omega) | ((with_reducible refine y_RIu (by with_reducible assumption) ?_ ?_ ?_ ?_ ?_) <;> omega) | ((with_reducible refine y_R1v (by with_reducible assumption) ?_ ?_ ?_ ?_ ?_) <;> omega) | ((with_reducible refine y_R1m (by with_reducible assumption) ?_ ?_ ?_) <;> omega) | ((with_reducible refine y_P_put (by with_reducible assumption) ?_ ?_ ?_ ?_ ?_) <;> omega) | ((with_reducible refine y_PN_put (by with_reducible assumption) ?_ ?_ ?_ ?_ ?_) <;> omega) | ((with_reducible refine y_P1 (by with_reducible assumption) ?_) <;> omega) | (with_reducible exact y_Eq.rf _ _) | ((with_reducible refine y_RIs2 (by with_reducible assumption) ?_ ?_ ?_ ?_) <;> omega) | (exact Or.inl (y_RIm (by with_reducible assumption) (by omega) (by omega) (by omega))) | (exact Or.inr (y_RIm (by with_reducible assumption) (by omega) (by omega) (by omega)))) (by first | with_reducible assumption | omega | ((with_reducible refine y_Vl ?_ ?_) <;> omega) | ((with_reducible refine y_Eq_cpy ?_) <;> omega) | ((with_reducible refine y_RIm (by with_reducible assumption) ?_ ?_ ?_) <;> omega) | ((with_reducible refine y_RIu (by with_reducible assumption) ?_ ?_ ?_ ?_ ?_) <;> omega) | ((with_reducible refine y_R1v (by with_reducible assumption) ?_ ?_ ?_ ?_ ?_) <;> omega) | ((with_reducible refine y_R1m (by with_reducible assumption) ?_ ?_ ?_) <;> omega) | ((with_reducible refine y_P_put (by with_reducible assumption) ?_ ?_ ?_ ?_ ?_) <;> omega) | ((with_reducible refine y_PN_put (by with_reducible assumption) ?_ ?_ ?_ ?_ ?_) <;> omega) | ((with_reducible refine y_P1 (by with_reducible assumption) ?_) <;> omega) | (with_reducible exact y_Eq.rf _ _) | ((with_reducible refine y_RIs2 (by with_reducible assumption) ?_ ?_ ?_ ?_) <;> omega) | (exact Or.inl (y_RIm (by with_reducible assumption) (by omega) (by omega) (by omega))) | (exact Or.inr (y_RIm (by with_reducible assumption) (by omega) (by omega) (by omega)))) (by omega) (by first | with_reducible assumption | omega | ((with_reducible refine y_Vl ?_ ?_) <;> omega) | ((with_reducible refine y_Eq_cpy ?_) <;> omega) | ((with_reducible refine y_RIm (by with_reducible assumption) ?_ ?_ ?_) <;> omega) | ((with_reducible refine y_RIu (by with_reducible assumption) ?_ ?_ ?_ ?_ ?_) <;> omega) | ((with_reducible refine y_R1v (by with_reducible assumption) ?_ ?_ ?_ ?_ ?_) <;> omega) | ((with_reducible refine y_R1m (by with_reducible assumption) ?_ ?_ ?_) <;> omega) | ((with_reducible refine y_P_put (by with_reducible assumption) ?_ ?_ ?_ ?_ ?_) <;> omega) | ((with_reducible refine y_PN_put (by with_reducible assumption) ?_ ?_ ?_ ?_ ?_) <;> omega) | ((with_reducible refine y_P1 (by with_reducible assumption) ?_) <;> omega) | (with_reducible exact y_Eq.rf _ _) | ((with_reducible refine y_RIs2 (by with_reducible assumption) ?_ ?_ ?_ ?_) <;> omega) | (exact Or.inl (y_RIm (by with_reducible assumption) (by omega) (by omega) (by omega))) | (exact Or.inr (y_RIm (by with_reducible assumption) (by omega) (by omega) (by omega)))) (by omega) (by omega) (by omega) (by omega) (by omega) (by omega) (by omega) (by omega) (by first | with_reducible assumption | omega | ((with_reducible refine y_Vl ?_ ?_) <;> omega) | ((with_reducible refine y_Eq_cpy ?_) <;> omega) | ((with_reducible refine y_RIm (by with_reducible assumption) ?_ ?_ ?_) <;> omega) | ((with_reducible refine y_RIu (by with_reducible assumption) ?_ ?_ ?_ ?_ ?_) <;> omega) | ((with_reducible refine y_R1v (by with_reducible assumption) ?_ ?_ ?_ ?_ ?_) <;> omega) | ((with_reducible refine y_R1m (by with_reducible assumption) ?_ ?_ ?_) <;> omega) | ((with_reducible refine y_P_put (by with_reducible assumption) ?_ ?_ ?_ ?_ ?_) <;> omega) | ((with_reducible refine y_PN_put (by with_reducible assumption) ?_ ?_ ?_ ?_ ?_) <;> omega) | ((with_reducible refine y_P1 (by with_reducible assumption) ?_) <;> omega) | (with_reducible exact y_Eq.rf _ _) | ((with_reducible refine y_RIs2 (by with_reducible assumption) ?_ ?_ ?_ ?_) <;> omega) | (exact Or.inl (y_RIm (by with_reducible assumption) (by omega) (by omega) (by omega))) | (exact Or.inr (y_RIm (by with_reducible assumption) (by omega) (by omega) (by omega))))) (fun r_t4 h_r_t4 => ?_)
      (first | with_reducible assumption | omega | ((with_reducible refine y_Vl ?_ ?_) <;> omega) | ((with_reducible refine y_Eq_cpy ?_) <;> omega) | ((with_reducible refine y_RIm (by with_reducible assumption) ?_ ?_ ?_) <;> omega) | ((with_reducible refine y_RIu (by with_reducible assumption) ?_ ?_ ?_ ?_ ?_) <;> omega) | ((with_reducible refine y_R1v (by with_reducible assumption) ?_ ?_ ?_ ?_ ?_) <;> omega) | ((with_reducible refine y_R1m (by with_reducible assumption) ?_ ?_ ?_) <;> omega) | ((with_reducible refine y_P_put (by with_reducible assumption) ?_ ?_ ?_ ?_ ?_) <;> omega) | ((with_reducible refine y_PN_put (by with_reducible assumption) ?_ ?_ ?_ ?_ ?_) <;> omega) | ((with_reducible refine y_P1 (by with_reducible assumption) ?_) <;> omega) | (with_reducible exact y_Eq.rf _ _) | ((with_reducible refine y_RIs2 (by with_reducible assumption) ?_ ?_ ?_ ?_) <;> omega) | (exact Or.inl (y_RIm (by with_reducible assumption) (by omega) (by omega) (by omega))) | (exact Or.inr (y_RIm (by with_reducible assumption) (by omega) (by omega) (by omega))))
    · skip
      try have e6 := @y_add v3_4 p2 (by omega) (by omega)
      have c3' := c3
      rw [Int32.le_iff_toInt_le] at c3'
      refine y_Ok.mono (y_X3_mergeRuns_L_0 (v1_5 := v1_5) (n1_3 := n1_3) (n1_4 := n1_4) (l5 := p1) (l6 := v3_4) (l7 := p1) (g3_16 := g3_16) (by first | with_reducible assumption | omega | ((with_reducible refine y_Vl ?_ ?_) <;> omega) | ((with_reducible refine y_Eq_cpy ?_) <;> omega) | ((with_reducible refine y_RIm (by with_reducible assumption) ?_ ?_ ?_) <;> omega) | ((with_reducible refine y_RIu (by with_reducible assumption) ?_ ?_ ?_ ?_ ?_) <;> omega) | ((with_reducible refine y_R1v (by with_reducible assumption) ?_ ?_ ?_ ?_ ?_) <;> omega) | ((with_reducible refine y_R1m (by with_reducible assumption) ?_ ?_ ?_) <;> omega) | ((with_reducible refine y_P_put (by with_reducible assumption) ?_ ?_ ?_ ?_ ?_) <;> omega) | ((with_reducible refine y_PN_put (by with_reducible assumption) ?_ ?_ ?_ ?_ ?_) <;> omega) | ((with_reducible refine y_P1 (by with_reducible assumption) ?_) <;> omega) | (with_reducible exact y_Eq.rf _ _) | ((with_reducible refine y_RIs2 (by with_reducible assumption) ?_ ?_ ?_ ?_) <;> omega) | (exact Or.inl (y_RIm (by with_reducible assumption) (by omega) (by omega) (by omega))) | (exact Or.inr (y_RIm (by with_reducible assumption) (by omega) (by omega) (by omega)))) (by first | with_reducible assumption | omega | ((with_reducible refine y_Vl ?_ ?_) <;> omega) | ((with_reducible refine y_Eq_cpy ?_) <;> omega) | ((with_reducible refine y_RIm (by with_reducible assumption) ?_ ?_ ?_) <;> omega) | ((with_reducible refine y_RIu (by with_reducible assumption) ?_ ?_ ?_ ?_ ?_) <;> omega) | ((with_reducible refine y_R1v (by with_reducible assumption) ?_ ?_ ?_ ?_ ?_) <;> omega) | ((with_reducible refine y_R1m (by with_reducible assumption) ?_ ?_ ?_) <;> omega) | ((with_reducible refine y_P_put (by with_reducible assumption) ?_ ?_ ?_ ?_ ?_) <;> omega) | ((with_reducible refine y_PN_put (by with_reducible assumption) ?_ ?_ ?_ ?_ ?_) <;> omega) | ((with_reducible refine y_P1 (by with_reducible assumption) ?_) <;> omega) | (with_reducible exact y_Eq.rf _ _) | ((with_reducible refine y_RIs2 (by with_reducible assumption) ?_ ?_ ?_ ?_) <;> omega) | (exact Or.inl (y_RIm (by with_reducible assumption) (by omega) (by omega) (by omega))) | (exact Or.inr (y_RIm (by with_reducible assumption) (by omega) (by omega) (by omega)))) (by first | with_reducible assumption | omega | ((with_reducible refine y_Vl ?_ ?_) <;> omega) | ((with_reducible refine y_Eq_cpy ?_) <;> omega) | ((with_reducible refine y_RIm (by with_reducible assumption) ?_ ?_ ?_) <;> omega) | ((with_reducible refine y_RIu (by with_reducible assumption) ?_ ?_ ?_ ?_ ?_) <;> omega) | ((with_reducible refine y_R1v (by with_reducible assumption) ?_ ?_ ?_ ?_ ?_) <;> omega) | ((with_reducible refine y_R1m (by with_reducible assumption) ?_ ?_ ?_) <;> omega) | ((with_reducible refine y_P_put (by with_reducible assumption) ?_ ?_ ?_ ?_ ?_) <;> omega) | ((with_reducible refine y_PN_put (by with_reducible assumption) ?_ ?_ ?_ ?_ ?_) <;> omega) | ((with_reducible refine y_P1 (by with_reducible assumption) ?_) <;> omega) | (with_reducible exact y_Eq.rf _ _) | ((with_reducible refine y_RIs2 (by with_reducible assumption) ?_ ?_ ?_ ?_) <;> omega) | (exact Or.inl (y_RIm (by with_reducible assumption) (by omega) (by omega) (by omega))) | (exact Or.inr (y_RIm (by with_reducible assumption) (by omega) (by omega) (by omega)))) (by first | with_reducible assumption | omega | ((with_reducible refine y_Vl ?_ ?_) <;> omega) | ((with_reducible refine y_Eq_cpy ?_) <;> omega) | ((with_reducible refine y_RIm (by with_reducible assumption) ?_ ?_ ?_) <;> omega) | ((with_reducible refine y_RIu (by with_reducible assumption) ?_ ?_ ?_ ?_ ?_) <;> omega) | ((with_reducible refine y_R1v (by with_reducible assumption) ?_ ?_ ?_ ?_ ?_) <;> omega) | ((with_reducible refine y_R1m (by with_reducible assumption) ?_ ?_ ?_) <;> omega) | ((with_reducible refine y_P_put (by with_reducible assumption) ?_ ?_ ?_ ?_ ?_) <;> omega) | ((with_reducible refine y_PN_put (by with_reducible assumption) ?_ ?_ ?_ ?_ ?_) <;> omega) | ((with_reducible refine y_P1 (by with_reducible assumption) ?_) <;> omega) | (with_reducible exact y_Eq.rf _ _) | ((with_reducible refine y_RIs2 (by with_reducible assumption) ?_ ?_ ?_ ?_) <;> omega) | (exact Or.inl (y_RIm (by with_reducible assumption) (by omega) (by omega) (by omega))) | (exact Or.inr (y_RIm (by with_reducible assumption) (by omega) (by omega) (by omega)))) (by omega) (by omega) (by omega) (by omega) (by omega) (by first | with_reducible assumption | omega | ((with_reducible refine y_Vl ?_ ?_) <;> omega) | ((with_reducible refine y_Eq_cpy ?_) <;> omega) | ((with_reducible refine y_RIm (by with_reducible assumption) ?_ ?_ ?_) <;> omega) | ((with_reducible refine y_RIu (by with_reducible assumption) ?_ ?_ ?_ ?_ ?_) <;> omega) | ((with_reducible refine y_R1v (by with_reducible assumption) ?_ ?_ ?_ ?_ ?_) <;> omega) | ((with_reducible refine y_R1m (by with_reducible assumption) ?_ ?_ ?_) <;> omega) | ((with_reducible refine y_P_put (by with_reducible assumption) ?_ ?_ ?_ ?_ ?_) <;> omega) | ((with_reducible refine y_PN_put (by with_reducible assumption) ?_ ?_ ?_ ?_ ?_) <;> omega) | ((with_reducible refine y_P1 (by with_reducible assumption) ?_) <;> omega) | (with_reducible exact y_Eq.rf _ _) | ((with_reducible refine y_RIs2 (by with_reducible assumption) ?_ ?_ ?_ ?_) <;> omega) | (exact Or.inl (y_RIm (by with_reducible assumption) (by omega) (by omega) (by omega))) | (exact Or.inr (y_RIm (by with_reducible assumption) (by omega) (by omega) (by omega)))) (by first | with_reducible assumption | omega | ((with_reducible refine y_Vl ?_ ?_) <;> omega) | ((with_reducible refine y_Eq_cpy ?_) <;> omega) | ((with_reducible refine y_RIm (by with_reducible assumption) ?_ ?_ ?_) <;> omega) | ((with_reducible refine y_RIu (by with_reducible assumption) ?_ ?_ ?_ ?_ ?_) <;> omega) | ((with_reducible refine y_R1v (by with_reducible assumption) ?_ ?_ ?_ ?_ ?_) <;> omega) | ((with_reducible refine y_R1m (by with_reducible assumption) ?_ ?_ ?_) <;> omega) | ((with_reducible refine y_P_put (by with_reducible assumption) ?_ ?_ ?_ ?_ ?_) <;> omega) | ((with_reducible refine y_PN_put (by with_reducible assumption) ?_ ?_ ?_ ?_ ?_) <;> omega) | ((with_reducible refine y_P1 (by with_reducible assumption) ?_) <;> omega) | (with_reducible exact y_Eq.rf _ _) | ((with_reducible refine y_RIs2 (by with_reducible assumption) ?_ ?_ ?_ ?_) <;> omega) | (exact Or.inl (y_RIm (by with_reducible assumption) (by omega) (by omega) (by omega))) | (exact Or.inr (y_RIm (by with_reducible assumption) (by omega) (by omega) (by omega)))) (by omega) (by omega) (by omega) (by first | with_reducible assumption | omega | ((with_reducible refine y_Vl ?_ ?_) <;> omega) | ((with_reducible refine y_Eq_cpy ?_) <;> omega) | ((with_reducible refine y_RIm (by with_reducible assumption) ?_ ?_ ?_) <;> omega) | ((with_reducible refine y_RIu (by with_reducible assumption) ?_ ?_ ?_ ?_ ?_) <;> omega) | ((with_reducible refine y_R1v (by with_reducible assumption) ?_ ?_ ?_ ?_ ?_) <;> omega) | ((with_reducible refine y_R1m (by with_reducible assumption) ?_ ?_ ?_) <;> omega) | ((with_reducible refine y_P_put (by with_reducible assumption) ?_ ?_ ?_ ?_ ?_) <;> omega) | ((with_reducible refine y_PN_put (by with_reducible assumption) ?_ ?_ ?_ ?_ ?_) <;> omega) | ((with_reducible refine y_P1 (by with_reducible assumption) ?_) <;> omega) | (with_reducible exact y_Eq.rf _ _) | ((with_reducible refine y_RIs2 (by with_reducible assumption) ?_ ?_ ?_ ?_) <;> omega) | (exact Or.inl (y_RIm (by with_reducible assumption) (by omega) (by omega) (by omega))) | (exact Or.inr (y_RIm (by with_reducible assumption) (by omega) (by omega) (by omega)))) (by first | with_reducible assumption | omega | ((with_reducible refine y_Vl ?_ ?_) <;> omega) | ((with_reducible refine y_Eq_cpy ?_) <;> omega) | ((with_reducible refine y_RIm (by with_reducible assumption) ?_ ?_ ?_) <;> omega) | ((with_reducible refine y_RIu (by with_reducible assumption) ?_ ?_ ?_ ?_ ?_) <;> omega) | ((with_reducible refine y_R1v (by with_reducible assumption) ?_ ?_ ?_ ?_ ?_) <;> omega) | ((with_reducible refine y_R1m (by with_reducible assumption) ?_ ?_ ?_) <;> omega) | ((with_reducible refine y_P_put (by with_reducible assumption) ?_ ?_ ?_ ?_ ?_) <;> omega) | ((with_reducible refine y_PN_put (by with_reducible assumption) ?_ ?_ ?_ ?_ ?_) <;> omega) | ((with_reducible refine y_P1 (by with_reducible assumption) ?_) <;> omega) | (with_reducible exact y_Eq.rf _ _) | ((with_reducible refine y_RIs2 (by with_reducible assumption) ?_ ?_ ?_ ?_) <;> omega) | (exact Or.inl (y_RIm (by with_reducible assumption) (by omega) (by omega) (by omega))) | (exact Or.inr (y_RIm (by with_reducible assumption) (by omega) (by omega) (by omega)))) (by omega) (by first | with_reducible assumption | omega | ((with_reducible refine y_Vl ?_ ?_) <;> omega) | ((with_reducible refine y_Eq_cpy ?_) <;> omega) | ((with_reducible refine y_RIm (by with_reducible assumption) ?_ ?_ ?_) <;> omega) | ((with_reducible refine y_RIu (by with_reducible assumption) ?_ ?_ ?_ ?_ ?_) <;> omega) | ((with_reducible refine y_R1v (by with_reducible assumption) ?_ ?_ ?_ ?_ ?_) <;> omega) | ((with_reducible refine y_R1m (by with_reducible assumption) ?_ ?_ ?_) <;> omega) | ((with_reducible refine y_P_put (by with_reducible assumption) ?_ ?_ ?_ ?_ ?_) <;> omega) | ((with_reducible refine y_PN_put (by with_reducible assumption) ?_ ?_ ?_ ?_ ?_) <;> omega) | ((with_reducible refine y_P1 (by with_reducible assumption) ?_) <;> omega) | (with_reducible exact y_Eq.rf _ _) | ((with_reducible refine y_RIs2 (by with_reducible assumption) ?_ ?_ ?_ ?_) <;> omega) | (exact Or.inl (y_RIm (by with_reducible assumption) (by omega) (by omega) (by omega))) | (exact Or.inr (y_RIm (by with_reducible assumption) (by omega) (by omega) (by omega)))) (by omega) (by omega) (by omega) (by omega) (by omega) (by omega) (by omega) (by omega) (by first | with_reducible assumption | omega | ((with_reducible refine y_Vl ?_ ?_) <;> omega) | ((with_reducible refine y_Eq_cpy ?_) <;> omega) | ((with_reducible refine y_RIm (by with_reducible assumption) ?_ ?_ ?_) <;> omega) | ((with_reducible refine y_RIu (by with_reducible assumption) ?_ ?_ ?_ ?_ ?_) <;> omega) | ((with_reducible refine y_R1v (by with_reducible assumption) ?_ ?_ ?_ ?_ ?_) <;> omega) | ((with_reducible refine y_R1m (by with_reducible assumption) ?_ ?_ ?_) <;> omega) | ((with_reducible refine y_P_put (by with_reducible assumption) ?_ ?_ ?_ ?_ ?_) <;> omega) | ((with_reducible refine y_PN_put (by with_reducible assumption) ?_ ?_ ?_ ?_ ?_) <;> omega) | ((with_reducible refine y_P1 (by with_reducible assumption) ?_) <;> omega) | (with_reducible exact y_Eq.rf _ _) | ((with_reducible refine y_RIs2 (by with_reducible assumption) ?_ ?_ ?_ ?_) <;> omega) | (exact Or.inl (y_RIm (by with_reducible assumption) (by omega) (by omega) (by omega))) | (exact Or.inr (y_RIm (by with_reducible assumption) (by omega) (by omega) (by omega))))) (fun r_t6 h_r_t6 => ?_)
      (first | with_reducible assumption | omega | ((with_reducible refine y_Vl ?_ ?_) <;> omega) | ((with_reducible refine y_Eq_cpy ?_) <;> omega) | ((with_reducible refine y_RIm (by with_reducible assumption) ?_ ?_ ?_) <;> omega) | ((with_reducible refine y_RIu (by with_reducible assumption) ?_ ?_ ?_ ?_ ?_) <;> omega) | ((with_reducible refine y_R1v (by with_reducible assumption) ?_ ?_ ?_ ?_ ?_) <;> omega) | ((with_reducible refine y_R1m (by with_reducible assumption) ?_ ?_ ?_) <;> omega) | ((with_reducible refine y_P_put (by with_reducible assumption) ?_ ?_ ?_ ?_ ?_) <;> omega) | ((with_reducible refine y_PN_put (by with_reducible assumption) ?_ ?_ ?_ ?_ ?_) <;> omega) | ((with_reducible refine y_P1 (by with_reducible assumption) ?_) <;> omega) | (with_reducible exact y_Eq.rf _ _) | ((with_reducible refine y_RIs2 (by with_reducible assumption) ?_ ?_ ?_ ?_) <;> omega) | (exact Or.inl (y_RIm (by with_reducible assumption) (by omega) (by omega) (by omega))) | (exact Or.inr (y_RIm (by with_reducible assumption) (by omega) (by omega) (by omega))))
  · skip
    try have e8 := @y_add p1 p2 (by omega) (by omega)
    have c1' := c1
    rw [Int32.le_iff_toInt_le] at c1'
    refine y_if (fun c9 => ?_) (fun c9 => ?_)
    · skip
      try have e10 := @y_add (p1 + p2) p2 (by omega) (by omega)
      have c9' := c9
      rw [Int32.le_iff_toInt_le] at c9'
      refine y_Ok.mono (y_X3_mergeRuns_L_0 (v1_5 := v1_5) (n1_3 := n1_3) (n1_4 := n1_4) (l5 := p1) (l6 := (p1 + p2)) (l7 := p1) (g3_16 := g3_16) (by first | with_reducible assumption | omega | ((with_reducible refine y_Vl ?_ ?_) <;> omega) | ((with_reducible refine y_Eq_cpy ?_) <;> omega) | ((with_reducible refine y_RIm (by with_reducible assumption) ?_ ?_ ?_) <;> omega) | ((with_reducible refine y_RIu (by with_reducible assumption) ?_ ?_ ?_ ?_ ?_) <;> omega) | ((with_reducible refine y_R1v (by with_reducible assumption) ?_ ?_ ?_ ?_ ?_) <;> omega) | ((with_reducible refine y_R1m (by with_reducible assumption) ?_ ?_ ?_) <;> omega) | ((with_reducible refine y_P_put (by with_reducible assumption) ?_ ?_ ?_ ?_ ?_) <;> omega) | ((with_reducible refine y_PN_put (by with_reducible assumption) ?_ ?_ ?_ ?_ ?_) <;> omega) | ((with_reducible refine y_P1 (by with_reducible assumption) ?_) <;> omega) | (with_reducible exact y_Eq.rf _ _) | ((with_reducible refine y_RIs2 (by with_reducible assumption) ?_ ?_ ?_ ?_) <;> omega) | (exact Or.inl (y_RIm (by with_reducible assumption) (by omega) (by omega) (by omega))) | (exact Or.inr (y_RIm (by with_reducible assumption) (by omega) (by omega) (by omega)))) (by first | with_reducible assumption | omega | ((with_reducible refine y_Vl ?_ ?_) <;> omega) | ((with_reducible refine y_Eq_cpy ?_) <;> omega) | ((with_reducible refine y_RIm (by with_reducible assumption) ?_ ?_ ?_) <;> omega) | ((with_reducible refine y_RIu (by with_reducible assumption) ?_ ?_ ?_ ?_ ?_) <;> omega) | ((with_reducible refine y_R1v (by with_reducible assumption) ?_ ?_ ?_ ?_ ?_) <;> omega) | ((with_reducible refine y_R1m (by with_reducible assumption) ?_ ?_ ?_) <;> omega) | ((with_reducible refine y_P_put (by with_reducible assumption) ?_ ?_ ?_ ?_ ?_) <;> omega) | ((with_reducible refine y_PN_put (by with_reducible assumption) ?_ ?_ ?_ ?_ ?_) <;> omega) | ((with_reducible refine y_P1 (by with_reducible assumption) ?_) <;> omega) | (with_reducible exact y_Eq.rf _ _) | ((with_reducible refine y_RIs2 (by with_reducible assumption) ?_ ?_ ?_ ?_) <;> omega) | (exact Or.inl (y_RIm (by with_reducible assumption) (by omega) (by omega) (by omega))) | (exact Or.inr (y_RIm (by with_reducible assumption) (by omega) (by omega) (by omega)))) (by first | with_reducible assumption | omega | ((with_reducible refine y_Vl ?_ ?_) <;> omega) | ((with_reducible refine y_Eq_cpy ?_) <;> omega) | ((with_reducible refine y_RIm (by with_reducible assumption) ?_ ?_ ?_) <;> omega) | ((with_reducible refine y_RIu (by with_reducible assumption) ?_ ?_ ?_ ?_ ?_) <;> omega) | ((with_reducible refine y_R1v (by with_reducible assumption) ?_ ?_ ?_ ?_ ?_) <;> omega) | ((with_reducible refine y_R1m (by with_reducible assumption) ?_ ?_ ?_) <;> omega) | ((with_reducible refine y_P_put (by with_reducible assumption) ?_ ?_ ?_ ?_ ?_) <;> omega) | ((with_reducible refine y_PN_put (by with_reducible assumption) ?_ ?_ ?_ ?_ ?_) <;> omega) | ((with_reducible refine y_P1 (by with_reducible assumption) ?_) <;> omega) | (with_reducible exact y_Eq.rf _ _) | ((with_reducible refine y_RIs2 (by with_reducible assumption) ?_ ?_ ?_ ?_) <;> omega) | (exact Or.inl (y_RIm (by with_reducible assumption) (by omega) (by omega) (by omega))) | (exact Or.inr (y_RIm (by with_reducible assumption) (by omega) (by omega) (by omega)))) (by first | with_reducible assumption | omega | ((with_reducible refine y_Vl ?_ ?_) <;> omega) | ((with_reducible refine y_Eq_cpy ?_) <;> omega) | ((with_reducible refine y_RIm (by with_reducible assumption) ?_ ?_ ?_) <;> omega) | ((with_reducible refine y_RIu (by with_reducible assumption) ?_ ?_ ?_ ?_ ?_) <;> omega) | ((with_reducible refine y_R1v (by with_reducible assumption) ?_ ?_ ?_ ?_ ?_) <;> omega) | ((with_reducible refine y_R1m (by with_reducible assumption) ?_ ?_ ?_) <;> omega) | ((with_reducible refine y_P_put (by with_reducible assumption) ?_ ?_ ?_ ?_ ?_) <;> omega) | ((with_reducible refine y_PN_put (by with_reducible assumption) ?_ ?_ ?_ ?_ ?_) <;> omega) | ((with_reducible refine y_P1 (by with_reducible assumption) ?_) <;> omega) | (with_reducible exact y_Eq.rf _ _) | ((with_reducible refine y_RIs2 (by with_reducible assumption) ?_ ?_ ?_ ?_) <;> omega) | (exact Or.inl (y_RIm (by with_reducible assumption) (by omega) (by omega) (by omega))) | (exact Or.inr (y_RIm (by with_reducible assumption) (by omega) (by omega) (by omega)))) (by omega) (by omega) (by omega) (by omega) (by omega) (by first | with_reducible assumption | omega | ((with_reducible refine y_Vl ?_ ?_) <;> omega) | ((with_reducible refine y_Eq_cpy ?_) <;> omega) | ((with_reducible refine y_RIm (by with_reducible assumption) ?_ ?_ ?_) <;> omega) | ((with_reducible refine y_RIu (by with_reducible assumption) ?_ ?_ ?_ ?_ ?_) <;> omega) | ((with_reducible refine y_R1v (by with_reducible assumption) ?_ ?_ ?_ ?_ ?_) <;> omega) | ((with_reducible refine y_R1m (by with_reducible assumption) ?_ ?_ ?_) <;> omega) | ((with_reducible refine y_P_put (by with_reducible assumption) ?_ ?_ ?_ ?_ ?_) <;> omega) | ((with_reducible refine y_PN_put (by with_reducible assumption) ?_ ?_ ?_ ?_ ?_) <;> omega) | ((with_reducible refine y_P1 (by with_reducible assumption) ?_) <;> omega) | (with_reducible exact y_Eq.rf _ _) | ((with_reducible refine y_RIs2 (by with_reducible assumption) ?_ ?_ ?_ ?_) <;> omega) | (exact Or.inl (y_RIm (by with_reducible assumption) (by omega) (by omega) (by omega))) | (exact Or.inr (y_RIm (by with_reducible assumption) (by omega) (by omega) (by omega)))) (by first | with_reducible assumption | omega | ((with_reducible refine y_Vl ?_ ?_) <;> omega) | ((with_reducible refine y_Eq_cpy ?_) <;> omega) | ((with_reducible refine y_RIm (by with_reducible assumption) ?_ ?_ ?_) <;> omega) | ((with_reducible refine y_RIu (by with_reducible assumption) ?_ ?_ ?_ ?_ ?_) <;> omega) | ((with_reducible refine y_R1v (by with_reducible assumption) ?_ ?_ ?_ ?_ ?_) <;> omega) | ((with_reducible refine y_R1m (by with_reducible assumption) ?_ ?_ ?_) <;> omega) | ((with_reducible refine y_P_put (by with_reducible assumption) ?_ ?_ ?_ ?_ ?_) <;> omega) | ((with_reducible refine y_PN_put (by with_reducible assumption) ?_ ?_ ?_ ?_ ?_) <;> omega) | ((with_reducible refine y_P1 (by with_reducible assumption) ?_) <;> omega) | (with_reducible exact y_Eq.rf _ _) | ((with_reducible refine y_RIs2 (by with_reducible assumption) ?_ ?_ ?_ ?_) <;> omega) | (exact Or.inl (y_RIm (by with_reducible assumption) (by omega) (by omega) (by omega))) | (exact Or.inr (y_RIm (by with_reducible assumption) (by omega) (by omega) (by omega)))) (by omega) (by omega) (by omega) (by first | with_reducible assumption | omega | ((with_reducible refine y_Vl ?_ ?_) <;> omega) | ((with_reducible refine y_Eq_cpy ?_) <;> omega) | ((with_reducible refine y_RIm (by with_reducible assumption) ?_ ?_ ?_) <;> omega) | ((with_reducible refine y_RIu (by with_reducible assumption) ?_ ?_ ?_ ?_ ?_) <;> omega) | ((with_reducible refine y_R1v (by with_reducible assumption) ?_ ?_ ?_ ?_ ?_) <;> omega) | ((with_reducible refine y_R1m (by with_reducible assumption) ?_ ?_ ?_) <;> omega) | ((with_reducible refine y_P_put (by with_reducible assumption) ?_ ?_ ?_ ?_ ?_) <;> omega) | ((with_reducible refine y_PN_put (by with_reducible assumption) ?_ ?_ ?_ ?_ ?_) <;> omega) | ((with_reducible refine y_P1 (by with_reducible assumption) ?_) <;> omega) | (with_reducible exact y_Eq.rf _ _) | ((with_reducible refine y_RIs2 (by with_reducible assumption) ?_ ?_ ?_ ?_) <;> omega) | (exact Or.inl (y_RIm (by with_reducible assumption) (by omega) (by omega) (by omega))) | (exact Or.inr (y_RIm (by with_reducible assumption) (by omega) (by omega) (by omega)))) (by first | with_reducible assumption | omega | ((with_reducible refine y_Vl ?_ ?_) <;> omega) | ((with_reducible refine y_Eq_cpy ?_) <;> omega) | ((with_reducible refine y_RIm (by with_reducible assumption) ?_ ?_ ?_) <;> omega) | ((with_reducible refine y_RIu (by with_reducible assumption) ?_ ?_ ?_ ?_ ?_) <;> omega) | ((with_reducible refine y_R1v (by with_reducible assumption) ?_ ?_ ?_ ?_ ?_) <;> omega) | ((with_reducible refine y_R1m (by with_reducible assumption) ?_ ?_ ?_) <;> omega) | ((with_reducible refine y_P_put (by with_reducible assumption) ?_ ?_ ?_ ?_ ?_) <;> omega) | ((with_reducible refine y_PN_put (by with_reducible assumption) ?_ ?_ ?_ ?_ ?_) <;> omega) | ((with_reducible refine y_P1 (by with_reducible assumption) ?_) <;> omega) | (with_reducible exact y_Eq.rf _ _) | ((with_reducible refine y_RIs2 (by with_reducible assumption) ?_ ?_ ?_ ?_) <;> omega) | (exact Or.inl (y_RIm (by with_reducible assumption) (by omega) (by omega) (by omega))) | (exact Or.inr (y_RIm (by with_reducible assumption) (by omega) (by omega) (by omega)))) (by omega) (by first | with_reducible assumption | omega | ((with_reducible refine y_Vl ?_ ?_) <;> omega) | ((with_reducible refine y_Eq_cpy ?_) <;> omega) | ((with_reducible refine y_RIm (by with_reducible assumption) ?_ ?_ ?_) <;> omega) | ((with_reducible refine y_RIu (by with_reducible assumption) ?_ ?_ ?_ ?_ ?_) <;> omega) | ((with_reducible refine y_R1v (by with_reducible assumption) ?_ ?_ ?_ ?_ ?_) <;> omega) | ((with_reducible refine y_R1m (by with_reducible assumption) ?_ ?_ ?_) <;> omega) | ((with_reducible refine y_P_put (by with_reducible assumption) ?_ ?_ ?_ ?_ ?_) <;> omega) | ((with_reducible refine y_PN_put (by with_reducible assumption) ?_ ?_ ?_ ?_ ?_) <;> omega) | ((with_reducible refine y_P1 (by with_reducible assumption) ?_) <;> omega) | (with_reducible exact y_Eq.rf _ _) | ((with_reducible refine y_RIs2 (by with_reducible assumption) ?_ ?_ ?_ ?_) <;> omega) | (exact Or.inl (y_RIm (by with_reducible assumption) (by omega) (by omega) (by omega))) | (exact Or.inr (y_RIm (by with_reducible assumption) (by omega) (by omega) (by omega)))) (by omega) (by omega) (by omega) (by omega) (by omega) (by omega) (by omega) (by omega) (by first | with_reducible assumption | omega | ((with_reducible refine y_Vl ?_ ?_) <;> omega) | ((with_reducible refine y_Eq_cpy ?_) <;> omega) | ((with_reducible refine y_RIm (by with_reducible assumption) ?_ ?_ ?_) <;> omega) | ((with_reducible refine y_RIu (by with_reducible assumption) ?_ ?_ ?_ ?_ ?_) <;> omega) | ((with_reducible refine y_R1v (by with_reducible assumption) ?_ ?_ ?_ ?_ ?_) <;> omega) | ((with_reducible refine y_R1m (by with_reducible assumption) ?_ ?_ ?_) <;> omega) | ((with_reducible refine y_P_put (by with_reducible assumption) ?_ ?_ ?_ ?_ ?_) <;> omega) | ((with_reducible refine y_PN_put (by with_reducible assumption) ?_ ?_ ?_ ?_ ?_) <;> omega) | ((with_reducible refine y_P1 (by with_reducible assumption) ?_) <;> omega) | (with_reducible exact y_Eq.rf _ _) | ((with_reducible refine y_RIs2 (by with_reducible assumption) ?_ ?_ ?_ ?_) <;> omega) | (exact Or.inl (y_RIm (by with_reducible assumption) (by omega) (by omega) (by omega))) | (exact Or.inr (y_RIm (by with_reducible assumption) (by omega) (by omega) (by omega))))) (fun r_t10 h_r_t10 => ?_)
      (first | with_reducible assumption | omega | ((with_reducible refine y_Vl ?_ ?_) <;> omega) | ((with_reducible refine y_Eq_cpy ?_) <;> omega) | ((with_reducible refine y_RIm (by with_reducible assumption) ?_ ?_ ?_) <;> omega) | ((with_reducible refine y_RIu (by with_reducible assumption) ?_ ?_ ?_ ?_ ?_) <;> omega) | ((with_reducible refine y_R1v (by with_reducible assumption) ?_ ?_ ?_ ?_ ?_) <;> omega) | ((with_reducible refine y_R1m (by with_reducible assumption) ?_ ?_ ?_) <;> omega) | ((with_reducible refine y_P_put (by with_reducible assumption) ?_ ?_ ?_ ?_ ?_) <;> omega) | ((with_reducible refine y_PN_put (by with_reducible assumption) ?_ ?_ ?_ ?_ ?_) <;> omega) | ((with_reducible refine y_P1 (by with_reducible assumption) ?_) <;> omega) | (with_reducible exact y_Eq.rf _ _) | ((with_reducible refine y_RIs2 (by with_reducible assumption) ?_ ?_ ?_ ?_) <;> omega) | (exact Or.inl (y_RIm (by with_reducible assumption) (by omega) (by omega) (by omega))) | (exact Or.inr (y_RIm (by with_reducible assumption) (by omega) (by omega) (by omega))))
    · skip
      try have e12 := @y_add (p1 + p2) p2 (by omega) (by omega)
      have c9' := c9
      rw [Int32.le_iff_toInt_le] at c9'
      refine y_Ok.mono (y_X3_mergeRuns_L_0 (v1_5 := v1_5) (n1_3 := n1_3) (n1_4 := n1_4) (l5 := p1) (l6 := (p1 + p2)) (l7 := p1) (g3_16 := g3_16) (by first | with_reducible assumption | omega | ((with_reducible refine y_Vl ?_ ?_) <;> omega) | ((with_reducible refine y_Eq_cpy ?_) <;> omega) | ((with_reducible refine y_RIm (by with_reducible assumption) ?_ ?_ ?_) <;> omega) | ((with_reducible refine y_RIu (by with_reducible assumption) ?_ ?_ ?_ ?_ ?_) <;> omega) | ((with_reducible refine y_R1v (by with_reducible assumption) ?_ ?_ ?_ ?_ ?_) <;> omega) | ((with_reducible refine y_R1m (by with_reducible assumption) ?_ ?_ ?_) <;> omega) | ((with_reducible refine y_P_put (by with_reducible assumption) ?_ ?_ ?_ ?_ ?_) <;> omega) | ((with_reducible refine y_PN_put (by with_reducible assumption) ?_ ?_ ?_ ?_ ?_) <;> omega) | ((with_reducible refine y_P1 (by with_reducible assumption) ?_) <;> omega) | (with_reducible exact y_Eq.rf _ _) | ((with_reducible refine y_RIs2 (by with_reducible assumption) ?_ ?_ ?_ ?_) <;> omega) | (exact Or.inl (y_RIm (by with_reducible assumption) (by omega) (by omega) (by omega))) | (exact Or.inr (y_RIm (by with_reducible assumption) (by omega) (by omega) (by omega)))) (by first | with_reducible assumption | omega | ((with_reducible refine y_Vl ?_ ?_) <;> omega) | ((with_reducible refine y_Eq_cpy ?_) <;> omega) | ((with_reducible refine y_RIm (by with_reducible assumption) ?_ ?_ ?_) <;> omega) | ((with_reducible refine y_RIu (by with_reducible assumption) ?_ ?_ ?_ ?_ ?_) <;> omega) | ((with_reducible refine y_R1v (by with_reducible assumption) ?_ ?_ ?_ ?_ ?_) <;> omega) | ((with_reducible refine y_R1m (by with_reducible assumption) ?_ ?_ ?_) <;> omega) | ((with_reducible refine y_P_put (by with_reducible assumption) ?_ ?_ ?_ ?_ ?_) <;> omega) | ((with_reducible refine y_PN_put (by with_reducible assumption) ?_ ?_ ?_ ?_ ?_) <;> omega) | ((with_reducible refine y_P1 (by with_reducible assumption) ?_) <;> omega) | (with_reducible exact y_Eq.rf _ _) | ((with_reducible refine y_RIs2 (by with_reducible assumption) ?_ ?_ ?_ ?_) <;> omega) | (exact Or.inl (y_RIm (by with_reducible assumption) (by omega) (by omega) (by omega))) | (exact Or.inr (y_RIm (by with_reducible assumption) (by omega) (by omega) (by omega)))) (by first | with_reducible assumption | omega | ((with_reducible refine y_Vl ?_ ?_) <;> omega) | ((with_reducible refine y_Eq_cpy ?_) <;> omega) | ((with_reducible refine y_RIm (by with_reducible assumption) ?_ ?_ ?_) <;> omega) | ((with_reducible refine y_RIu (by with_reducible assumption) ?_ ?_ ?_ ?_ ?_) <;> omega) | ((with_reducible refine y_R1v (by with_reducible assumption) ?_ ?_ ?_ ?_ ?_) <;> omega) | ((with_reducible refine y_R1m (by with_reducible assumption) ?_ ?_ ?_) <;> omega) | ((with_reducible refine y_P_put (by with_reducible assumption) ?_ ?_ ?_ ?_ ?_) <;> omega) | ((with_reducible refine y_PN_put (by with_reducible assumption) ?_ ?_ ?_ ?_ ?_) <;> omega) | ((with_reducible refine y_P1 (by with_reducible assumption) ?_) <;> omega) | (with_reducible exact y_Eq.rf _ _) | ((with_reducible refine y_RIs2 (by with_reducible assumption) ?_ ?_ ?_ ?_) <;> omega) | (exact Or.inl (y_RIm (by with_reducible assumption) (by omega) (by omega) (by omega))) | (exact Or.inr (y_RIm (by with_reducible assumption) (by omega) (by omega) (by omega)))) (by first | with_reducible assumption | omega | ((with_reducible refine y_Vl ?_ ?_) <;> omega) | ((with_reducible refine y_Eq_cpy ?_) <;> omega) | ((with_reducible refine y_RIm (by with_reducible assumption) ?_ ?_ ?_) <;> omega) | ((with_reducible refine y_RIu (by with_reducible assumption) ?_ ?_ ?_ ?_ ?_) <;> omega) | ((with_reducible refine y_R1v (by with_reducible assumption) ?_ ?_ ?_ ?_ ?_) <;> omega) | ((with_reducible refine y_R1m (by with_reducible assumption) ?_ ?_ ?_) <;> omega) | ((with_reducible refine y_P_put (by with_reducible assumption) ?_ ?_ ?_ ?_ ?_) <;> omega) | ((with_reducible refine y_PN_put (by with_reducible assumption) ?_ ?_ ?_ ?_ ?_) <;> omega) | ((with_reducible refine y_P1 (by with_reducible assumption) ?_) <;> omega) | (with_reducible exact y_Eq.rf _ _) | ((with_reducible refine y_RIs2 (by with_reducible assumption) ?_ ?_ ?_ ?_) <;> omega) | (exact Or.inl (y_RIm (by with_reducible assumption) (by omega) (by omega) (by omega))) | (exact Or.inr (y_RIm (by with_reducible assumption) (by omega) (by omega) (by omega)))) (by omega) (by omega) (by omega) (by omega) (by omega) (by first | with_reducible assumption | omega | ((with_reducible refine y_Vl ?_ ?_) <;> omega) | ((with_reducible refine y_Eq_cpy ?_) <;> omega) | ((with_reducible refine y_RIm (by with_reducible assumption) ?_ ?_ ?_) <;> omega) | ((with_reducible refine y_RIu (by with_reducible assumption) ?_ ?_ ?_ ?_ ?_) <;> omega) | ((with_reducible refine y_R1v (by with_reducible assumption) ?_ ?_ ?_ ?_ ?_) <;> omega) | ((with_reducible refine y_R1m (by with_reducible assumption) ?_ ?_ ?_) <;> omega) | ((with_reducible refine y_P_put (by with_reducible assumption) ?_ ?_ ?_ ?_ ?_) <;> omega) | ((with_reducible refine y_PN_put (by with_reducible assumption) ?_ ?_ ?_ ?_ ?_) <;> omega) | ((with_reducible refine y_P1 (by with_reducible assumption) ?_) <;> omega) | (with_reducible exact y_Eq.rf _ _) | ((with_reducible refine y_RIs2 (by with_reducible assumption) ?_ ?_ ?_ ?_) <;> omega) | (exact Or.inl (y_RIm (by with_reducible assumption) (by omega) (by omega) (by omega))) | (exact Or.inr (y_RIm (by with_reducible assumption) (by omega) (by omega) (by omega)))) (by first | with_reducible assumption | omega | ((with_reducible refine y_Vl ?_ ?_) <;> omega) | ((with_reducible refine y_Eq_cpy ?_) <;> omega) | ((with_reducible refine y_RIm (by with_reducible assumption) ?_ ?_ ?_) <;> omega) | ((with_reducible refine y_RIu (by with_reducible assumption) ?_ ?_ ?_ ?_ ?_) <;> omega) | ((with_reducible refine y_R1v (by with_reducible assumption) ?_ ?_ ?_ ?_ ?_) <;> omega) | ((with_reducible refine y_R1m (by with_reducible assumption) ?_ ?_ ?_) <;> omega) | ((with_reducible refine y_P_put (by with_reducible assumption) ?_ ?_ ?_ ?_ ?_) <;> omega) | ((with_reducible refine y_PN_put (by with_reducible assumption) ?_ ?_ ?_ ?_ ?_) <;> omega) | ((with_reducible refine y_P1 (by with_reducible assumption) ?_) <;> omega) | (with_reducible exact y_Eq.rf _ _) | ((with_reducible refine y_RIs2 (by with_reducible assumption) ?_ ?_ ?_ ?_) <;> omega) | (exact Or.inl (y_RIm (by with_reducible assumption) (by omega) (by omega) (by omega))) | (exact Or.inr (y_RIm (by with_reducible assumption) (by omega) (by omega) (by omega)))) (by omega) (by omega) (by omega) (by first | with_reducible assumption | omega | ((with_reducible refine y_Vl ?_ ?_) <;> omega) | ((with_reducible refine y_Eq_cpy ?_) <;> omega) | ((with_reducible refine y_RIm (by with_reducible assumption) ?_ ?_ ?_) <;> omega) | ((with_reducible refine y_RIu (by with_reducible assumption) ?_ ?_ ?_ ?_ ?_) <;> omega) | ((with_reducible refine y_R1v (by with_reducible assumption) ?_ ?_ ?_ ?_ ?_) <;> omega) | ((with_reducible refine y_R1m (by with_reducible assumption) ?_ ?_ ?_) <;> omega) | ((with_reducible refine y_P_put (by with_reducible assumption) ?_ ?_ ?_ ?_ ?_) <;> omega) | ((with_reducible refine y_PN_put (by with_reducible assumption) ?_ ?_ ?_ ?_ ?_) <;> omega) | ((with_reducible refine y_P1 (by with_reducible assumption) ?_) <;> omega) | (with_reducible exact y_Eq.rf _ _) | ((with_reducible refine y_RIs2 (by with_reducible assumption) ?_ ?_ ?_ ?_) <;> omega) | (exact Or.inl (y_RIm (by with_reducible assumption) (by omega) (by omega) (by omega))) | (exact Or.inr (y_RIm (by with_reducible assumption) (by omega) (by omega) (by omega)))) (by first | with_reducible assumption | omega | ((with_reducible refine y_Vl ?_ ?_) <;> omega) | ((with_reducible refine y_Eq_cpy ?_) <;> omega) | ((with_reducible refine y_RIm (by with_reducible assumption) ?_ ?_ ?_) <;> omega) | ((with_reducible refine y_RIu (by with_reducible assumption) ?_ ?_ ?_ ?_ ?_) <;> omega) | ((with_reducible refine y_R1v (by with_reducible assumption) ?_ ?_ ?_ ?_ ?_) <;> omega) | ((with_reducible refine y_R1m (by with_reducible assumption) ?_ ?_ ?_) <;> omega) | ((with_reducible refine y_P_put (by with_reducible assumption) ?_ ?_ ?_ ?_ ?_) <;> omega) | ((with_reducible refine y_PN_put (by with_reducible assumption) ?_ ?_ ?_ ?_ ?_) <;> omega) | ((with_reducible refine y_P1 (by with_reducible assumption) ?_) <;> omega) | (with_reducible exact y_Eq.rf _ _) | ((with_reducible refine y_RIs2 (by with_reducible assumption) ?_ ?_ ?_ ?_) <;> omega) | (exact Or.inl (y_RIm (by with_reducible assumption) (by omega) (by omega) (by omega))) | (exact Or.inr (y_RIm (by with_reducible assumption) (by omega) (by omega) (by omega)))) (by omega) (by first | with_reducible assumption | omega | ((with_reducible refine y_Vl ?_ ?_) <;> omega) | ((with_reducible refine y_Eq_cpy ?_) <;> omega) | ((with_reducible refine y_RIm (by with_reducible assumption) ?_ ?_ ?_) <;> omega) | ((with_reducible refine y_RIu (by with_reducible assumption) ?_ ?_ ?_ ?_ ?_) <;> omega) | ((with_reducible refine y_R1v (by with_reducible assumption) ?_ ?_ ?_ ?_ ?_) <;> omega) | ((with_reducible refine y_R1m (by with_reducible assumption) ?_ ?_ ?_) <;> omega) | ((with_reducible refine y_P_put (by with_reducible assumption) ?_ ?_ ?_ ?_ ?_) <;> omega) | ((with_reducible refine y_PN_put (by with_reducible assumption) ?_ ?_ ?_ ?_ ?_) <;> omega) | ((with_reducible refine y_P1 (by with_reducible assumption) ?_) <;> omega) | (with_reducible exact y_Eq.rf _ _) | ((with_reducible refine y_RIs2 (by with_reducible assumption) ?_ ?_ ?_ ?_) <;> omega) | (exact Or.inl (y_RIm (by with_reducible assumption) (by omega) (by omega) (by omega))) | (exact Or.inr (y_RIm (by with_reducible assumption) (by omega) (by omega) (by omega)))) (by omega) (by omega) (by omega) (by omega) (by omega) (by omega) (by omega) (by omega) (by first | with_reducible assumption | omega | ((with_reducible refine y_Vl ?_ ?_) <;> omega) | ((with_reducible refine y_Eq_cpy ?_) <;> omega) | ((with_reducible refine y_RIm (by with_reducible assumption) ?_ ?_ ?_) <;> omega) | ((with_reducible refine y_RIu (by with_reducible assumption) ?_ ?_ ?_ ?_ ?_) <;> omega) | ((with_reducible refine y_R1v (by with_reducible assumption) ?_ ?_ ?_ ?_ ?_) <;> omega) | ((with_reducible refine y_R1m (by with_reducible assumption) ?_ ?_ ?_) <;> omega) | ((with_reducible refine y_P_put (by with_reducible assumption) ?_ ?_ ?_ ?_ ?_) <;> omega) | ((with_reducible refine y_PN_put (by with_reducible assumption) ?_ ?_ ?_ ?_ ?_) <;> omega) | ((with_reducible refine y_P1 (by with_reducible assumption) ?_) <;> omega) | (with_reducible exact y_Eq.rf _ _) | ((with_reducible refine y_RIs2 (by with_reducible assumption) ?_ ?_ ?_ ?_) <;> omega) | (exact Or.inl (y_RIm (by with_reducible assumption) (by omega) (by omega) (by omega))) | (exact Or.inr (y_RIm (by with_reducible assumption) (by omega) (by omega) (by omega))))) (fun r_t12 h_r_t12 => ?_)
      (first | with_reducible assumption | omega | ((with_reducible refine y_Vl ?_ ?_) <;> omega) | ((with_reducible refine y_Eq_cpy ?_) <;> omega) | ((with_reducible refine y_RIm (by with_reducible assumption) ?_ ?_ ?_) <;> omega) | ((with_reducible refine y_RIu (by with_reducible assumption) ?_ ?_ ?_ ?_ ?_) <;> omega) | ((with_reducible refine y_R1v (by with_reducible assumption) ?_ ?_ ?_ ?_ ?_) <;> omega) | ((with_reducible refine y_R1m (by with_reducible assumption) ?_ ?_ ?_) <;> omega) | ((with_reducible refine y_P_put (by with_reducible assumption) ?_ ?_ ?_ ?_ ?_) <;> omega) | ((with_reducible refine y_PN_put (by with_reducible assumption) ?_ ?_ ?_ ?_ ?_) <;> omega) | ((with_reducible refine y_P1 (by with_reducible assumption) ?_) <;> omega) | (with_reducible exact y_Eq.rf _ _) | ((with_reducible refine y_RIs2 (by with_reducible assumption) ?_ ?_ ?_ ?_) <;> omega) | (exact Or.inl (y_RIm (by with_reducible assumption) (by omega) (by omega) (by omega))) | (exact Or.inr (y_RIm (by with_reducible assumption) (by omega) (by omega) (by omega))))
set_option maxHeartbeats 4000000 in
theorem y_X3_arrange_L_2_i {g1_0 : Nat → Int32} {n1_0 : Nat} {g1_1 : Nat → Int32} {n1_1 : Nat} {g1_2 : Nat → Int32} {n1_2 : Nat} {v3_4 : Int32} {g3_6 : Nat → Int32} {n3_6 : Nat} {g3_7 : Nat → Int32} {n3_7 : Nat} {v1_5 : Int32} {n1_3 n1_4 : Nat} {M5 : Nat} (k0 : n1_1 = n1_0) (k1 : n1_2 = n1_0) (k2 : n1_3 = n1_0) (k3 : n1_4 = n1_0) (k4 : 16 ≤ n1_0) (k5 : n1_0 ≤ 40004) (k6 : 1 ≤ v1_5.toInt) (k7 : v1_5.toInt ≤ n1_0) (k8 : v1_5.toInt ≤ 20002) (hpar : y_P v1_5.toInt g1_0) (k10 : n3_7 = n3_6) (k11 : v3_4.toInt ≤ n3_6) (k12 : 0 ≤ v3_4.toInt) (k13 : v3_4.toInt ≤ 20000) (hwy : y_RI v3_4.toInt 0 (v1_5.toInt - 1) g3_7) : ∀ (m : Nat) {l1 : Int32} {l2 : Int32} {g3_15 : Nat → Int32} {n3_15 : Nat} {g3_16 : Nat → Int32} {n3_16 : Nat}, (n3_16 = n3_15) → (v3_4.toInt ≤ n3_15) → (y_RI v3_4.toInt 0 (v3_4.toInt - 1) g3_15) → (n3_15 = M5) → (∀ (g3_15 : Nat → Int32) (n3_15 : Nat) (g3_16 : Nat → Int32) (n3_16 : Nat), n3_16 = n3_15 → v3_4.toInt ≤ n3_15 → y_RI v3_4.toInt 0 (v3_4.toInt - 1) g3_15 → n3_15 = M5 → y_Ok (f_X3_arrange_L g1_0 n1_0 g1_1 n1_1 g1_2 n1_2 v3_4 g3_6 n3_6 g3_7 n3_7 (1, l1 * 2, 0, g3_15, n3_15, g3_16, n3_16)) (fun r => (y_RI v3_4.toInt 0 (v3_4.toInt - 1) r.1) ∧ (v3_4.toInt ≤ r.2.1) ∧ (r.2.2.2.1 = r.2.1) ∧ (r.2.1 = M5) ∧ (r.2.2.2.2.1 = 0) ∧ (r.2.2.2.2.2 = 0))) → (1 ≤ l1.toInt) → (l1.toInt ≤ 20000) → (0 ≤ l2.toInt) → (l2.toInt ≤ 60000) → (y_RI l2.toInt 0 (v3_4.toInt - 1) g3_16 ∨ y_RI v3_4.toInt 0 (v3_4.toInt - 1) g3_16) → 60000 - l2.toInt < m → y_Ok (f_X3_arrange_L g1_0 n1_0 g1_1 n1_1 g1_2 n1_2 v3_4 g3_6 n3_6 g3_7 n3_7 (2, l1, l2, g3_15, n3_15, g3_16, n3_16)) (fun r => (y_RI v3_4.toInt 0 (v3_4.toInt - 1) r.1) ∧ (v3_4.toInt ≤ r.2.1) ∧ (r.2.2.2.1 = r.2.1) ∧ (r.2.1 = M5) ∧ (r.2.2.2.2.1 = 0) ∧ (r.2.2.2.2.2 = 0)) := by
  intro m
  induction m with
  | zero => intro l1 l2 g3_15 n3_15 g3_16 n3_16 k15 k16 hord k18 ih1 k20 k21 k22 k23 hoth hm; exfalso; omega
  | succ m ih =>
    intro l1 l2 g3_15 n3_15 g3_16 n3_16 k15 k16 hord k18 ih1 k20 k21 k22 k23 hoth hm
    rw [f_X3_arrange_L]
    refine y_in (by decide) ?_
    refine y_in (by decide) ?_
    refine y_ip rfl ?_
    refine y_if (fun c1 => ?_) (fun c1 => ?_)
    · skip
      have c1' := c1
      rw [Int32.le_iff_toInt_le] at c1'
      have e2 : (2 : Int32).toInt = 2 := rfl
      try have e3 := @y_mulR l1 (2 : Int32) 2 rfl (by omega) (by omega)
      have e4 : (0 : Int32).toInt = 0 := rfl
      exact ih1 _ _ _ _ (by omega) (by omega) (by rcases hoth with hz | hz; exact y_RIm hz (by omega) (by omega) (by omega); exact hz) (by omega)
    · skip
      have c1' := c1
      rw [Int32.le_iff_toInt_le] at c1'
      refine y_bi (y_X3_mergeRuns (v1_5 := v1_5) (n1_3 := n1_3) (n1_4 := n1_4) (by first | with_reducible assumption | omega | ((with_reducible refine y_Vl ?_ ?_) <;> omega) | ((with_reducible refine y_Eq_cpy ?_) <;> omega) | ((with_reducible refine y_RIm (by with_reducible assumption) ?_ ?_ ?_) <;> omega) | ((with_reducible refine y_RIu (by with_reducible assumption) ?_ ?_ ?_ ?_ ?_) <;> omega) | ((with_reducible refine y_R1v (by with_reducible assumption) ?_ ?_ ?_ ?_ ?_) <;> omega) | ((with_reducible refine y_R1m (by with_reducible assumption) ?_ ?_ ?_) <;> omega) | ((with_reducible refine y_P_put (by with_reducible assumption) ?_ ?_ ?_ ?_ ?_) <;> omega) | ((with_reducible refine y_PN_put (by with_reducible assumption) ?_ ?_ ?_ ?_ ?_) <;> omega) | ((with_reducible refine y_P1 (by with_reducible assumption) ?_) <;> omega) | (with_reducible exact y_Eq.rf _ _) | ((with_reducible refine y_RIs2 (by with_reducible assumption) ?_ ?_ ?_ ?_) <;> omega) | (rcases hoth with hz | hz; exact y_RIm hz (by omega) (by omega) (by omega); exact y_RIm hz (by omega) (by omega) (by omega)) | (rcases h0_r_5 with hz | hz; exact Or.inr hz; exact Or.inl (y_RIm hz (by omega) (by omega) (by omega)))) (by first | with_reducible assumption | omega | ((with_reducible refine y_Vl ?_ ?_) <;> omega) | ((with_reducible refine y_Eq_cpy ?_) <;> omega) | ((with_reducible refine y_RIm (by with_reducible assumption) ?_ ?_ ?_) <;> omega) | ((with_reducible refine y_RIu (by with_reducible assumption) ?_ ?_ ?_ ?_ ?_) <;> omega) | ((with_reducible refine y_R1v (by with_reducible assumption) ?_ ?_ ?_ ?_ ?_) <;> omega) | ((with_reducible refine y_R1m (by with_reducible assumption) ?_ ?_ ?_) <;> omega) | ((with_reducible refine y_P_put (by with_reducible assumption) ?_ ?_ ?_ ?_ ?_) <;> omega) | ((with_reducible refine y_PN_put (by with_reducible assumption) ?_ ?_ ?_ ?_ ?_) <;> omega) | ((with_reducible refine y_P1 (by with_reducible assumption) ?_) <;> omega) | (with_reducible exact y_Eq.rf _ _) | ((with_reducible refine y_RIs2 (by with_reducible assumption) ?_ ?_ ?_ ?_) <;> omega) | (rcases hoth with hz | hz; exact y_RIm hz (by omega) (by omega) (by omega); exact y_RIm hz (by omega) (by omega) (by omega)) | (rcases h0_r_5 with hz | hz; exact Or.inr hz; exact Or.inl (y_RIm hz (by omega) (by omega) (by omega)))) (by first | with_reducible assumption | omega | ((with_reducible refine y_Vl ?_ ?_) <;> omega) | ((with_reducible refine y_Eq_cpy ?_) <;> omega) | ((with_reducible refine y_RIm (by with_reducible assumption) ?_ ?_ ?_) <;> omega) | ((with_reducible refine y_RIu (by with_reducible assumption) ?_ ?_ ?_ ?_ ?_) <;> omega) | ((with_reducible refine y_R1v (by with_reducible assumption) ?_ ?_ ?_ ?_ ?_) <;> omega) | ((with_reducible refine y_R1m (by with_reducible assumption) ?_ ?_ ?_) <;> omega) | ((with_reducible refine y_P_put (by with_reducible assumption) ?_ ?_ ?_ ?_ ?_) <;> omega) | ((with_reducible refine y_PN_put (by with_reducible assumption) ?_ ?_ ?_ ?_ ?_) <;> omega) | ((with_reducible refine y_P1 (by with_reducible assumption) ?_) <;> omega) | (with_reducible exact y_Eq.rf _ _) | ((with_reducible refine y_RIs2 (by with_reducible assumption) ?_ ?_ ?_ ?_) <;> omega) | (rcases hoth with hz | hz; exact y_RIm hz (by omega) (by omega) (by omega); exact y_RIm hz (by omega) (by omega) (by omega)) | (rcases h0_r_5 with hz | hz; exact Or.inr hz; exact Or.inl (y_RIm hz (by omega) (by omega) (by omega)))) (by first | with_reducible assumption | omega | ((with_reducible refine y_Vl ?_ ?_) <;> omega) | ((with_reducible refine y_Eq_cpy ?_) <;> omega) | ((with_reducible refine y_RIm (by with_reducible assumption) ?_ ?_ ?_) <;> omega) | ((with_reducible refine y_RIu (by with_reducible assumption) ?_ ?_ ?_ ?_ ?_) <;> omega) | ((with_reducible refine y_R1v (by with_reducible assumption) ?_ ?_ ?_ ?_ ?_) <;> omega) | ((with_reducible refine y_R1m (by with_reducible assumption) ?_ ?_ ?_) <;> omega) | ((with_reducible refine y_P_put (by with_reducible assumption) ?_ ?_ ?_ ?_ ?_) <;> omega) | ((with_reducible refine y_PN_put (by with_reducible assumption) ?_ ?_ ?_ ?_ ?_) <;> omega) | ((with_reducible refine y_P1 (by with_reducible assumption) ?_) <;> omega) | (with_reducible exact y_Eq.rf _ _) | ((with_reducible refine y_RIs2 (by with_reducible assumption) ?_ ?_ ?_ ?_) <;> omega) | (rcases hoth with hz | hz; exact y_RIm hz (by omega) (by omega) (by omega); exact y_RIm hz (by omega) (by omega) (by omega)) | (rcases h0_r_5 with hz | hz; exact Or.inr hz; exact Or.inl (y_RIm hz (by omega) (by omega) (by omega)))) (by omega) (by omega) (by omega) (by omega) (by omega) (by first | with_reducible assumption | omega | ((with_reducible refine y_Vl ?_ ?_) <;> omega) | ((with_reducible refine y_Eq_cpy ?_) <;> omega) | ((with_reducible refine y_RIm (by with_reducible assumption) ?_ ?_ ?_) <;> omega) | ((with_reducible refine y_RIu (by with_reducible assumption) ?_ ?_ ?_ ?_ ?_) <;> omega) | ((with_reducible refine y_R1v (by with_reducible assumption) ?_ ?_ ?_ ?_ ?_) <;> omega) | ((with_reducible refine y_R1m (by with_reducible assumption) ?_ ?_ ?_) <;> omega) | ((with_reducible refine y_P_put (by with_reducible assumption) ?_ ?_ ?_ ?_ ?_) <;> omega) | ((with_reducible refine y_PN_put (by with_reducible assumption) ?_ ?_ ?_ ?_ ?_) <;> omega) | ((with_reducible refine y_P1 (by with_reducible assumption) ?_) <;> omega) | (with_reducible exact y_Eq.rf _ _) | ((with_reducible refine y_RIs2 (by with_reducible assumption) ?_ ?_ ?_ ?_) <;> omega) | (rcases hoth with hz | hz; exact y_RIm hz (by omega) (by omega) (by omega); exact y_RIm hz (by omega) (by omega) (by omega)) | (rcases h0_r_5 with hz | hz; exact Or.inr hz; exact Or.inl (y_RIm hz (by omega) (by omega) (by omega)))) (by first | with_reducible assumption | omega | ((with_reducible refine y_Vl ?_ ?_) <;> omega) | ((with_reducible refine y_Eq_cpy ?_) <;> omega) | ((with_reducible refine y_RIm (by with_reducible assumption) ?_ ?_ ?_) <;> omega) | ((with_reducible refine y_RIu (by with_reducible assumption) ?_ ?_ ?_ ?_ ?_) <;> omega) | ((with_reducible refine y_R1v (by with_reducible assumption) ?_ ?_ ?_ ?_ ?_) <;> omega) | ((with_reducible refine y_R1m (by with_reducible assumption) ?_ ?_ ?_) <;> omega) | ((with_reducible refine y_P_put (by with_reducible assumption) ?_ ?_ ?_ ?_ ?_) <;> omega) | ((with_reducible refine y_PN_put (by with_reducible assumption) ?_ ?_ ?_ ?_ ?_) <;> omega) | ((with_reducible refine y_P1 (by with_reducible assumption) ?_) <;> omega) | (with_reducible exact y_Eq.rf _ _) | ((with_reducible refine y_RIs2 (by with_reducible assumption) ?_ ?_ ?_ ?_) <;> omega) | (rcases hoth with hz | hz; exact y_RIm hz (by omega) (by omega) (by omega); exact y_RIm hz (by omega) (by omega) (by omega)) | (rcases h0_r_5 with hz | hz; exact Or.inr hz; exact Or.inl (y_RIm hz (by omega) (by omega) (by omega)))) (by omega) (by omega) (by omega) (by first | with_reducible assumption | omega | ((with_reducible refine y_Vl ?_ ?_) <;> omega) | ((with_reducible refine y_Eq_cpy ?_) <;> omega) | ((with_reducible refine y_RIm (by with_reducible assumption) ?_ ?_ ?_) <;> omega) | ((with_reducible refine y_RIu (by with_reducible assumption) ?_ ?_ ?_ ?_ ?_) <;> omega) | ((with_reducible refine y_R1v (by with_reducible assumption) ?_ ?_ ?_ ?_ ?_) <;> omega) | ((with_reducible refine y_R1m (by with_reducible assumption) ?_ ?_ ?_) <;> omega) | ((with_reducible refine y_P_put (by with_reducible assumption) ?_ ?_ ?_ ?_ ?_) <;> omega) | ((with_reducible refine y_PN_put (by with_reducible assumption) ?_ ?_ ?_ ?_ ?_) <;> omega) | ((with_reducible refine y_P1 (by with_reducible assumption) ?_) <;> omega) | (with_reducible exact y_Eq.rf _ _) | ((with_reducible refine y_RIs2 (by with_reducible assumption) ?_ ?_ ?_ ?_) <;> omega) | (rcases hoth with hz | hz; exact y_RIm hz (by omega) (by omega) (by omega); exact y_RIm hz (by omega) (by omega) (by omega)) | (rcases h0_r_5 with hz | hz; exact Or.inr hz; exact Or.inl (y_RIm hz (by omega) (by omega) (by omega)))) (by first | with_reducible assumption | omega | ((with_reducible refine y_Vl ?_ ?_) <;> omega) | ((with_reducible refine y_Eq_cpy ?_) <;> omega) | ((with_reducible refine y_RIm (by with_reducible assumption) ?_ ?_ ?_) <;> omega) | ((with_reducible refine y_RIu (by with_reducible assumption) ?_ ?_ ?_ ?_ ?_) <;> omega) | ((with_reducible refine y_R1v (by with_reducible assumption) ?_ ?_ ?_ ?_ ?_) <;> omega) | ((with_reducible refine y_R1m (by with_reducible assumption) ?_ ?_ ?_) <;> omega) | ((with_reducible refine y_P_put (by with_reducible assumption) ?_ ?_ ?_ ?_ ?_) <;> omega) | ((with_reducible refine y_PN_put (by with_reducible assumption) ?_ ?_ ?_ ?_ ?_) <;> omega) | ((with_reducible refine y_P1 (by with_reducible assumption) ?_) <;> omega) | (with_reducible exact y_Eq.rf _ _) | ((with_reducible refine y_RIs2 (by with_reducible assumption) ?_ ?_ ?_ ?_) <;> omega) | (rcases hoth with hz | hz; exact y_RIm hz (by omega) (by omega) (by omega); exact y_RIm hz (by omega) (by omega) (by omega)) | (rcases h0_r_5 with hz | hz; exact Or.inr hz; exact Or.inl (y_RIm hz (by omega) (by omega) (by omega)))) (by omega) (by first | with_reducible assumption | omega | ((with_reducible refine y_Vl ?_ ?_) <;> omega) | ((with_reducible refine y_Eq_cpy ?_) <;> omega) | ((with_reducible refine y_RIm (by with_reducible assumption) ?_ ?_ ?_) <;> omega) | ((with_reducible refine y_RIu (by with_reducible assumption) ?_ ?_ ?_ ?_ ?_) <;> omega) | ((with_reducible refine y_R1v (by with_reducible assumption) ?_ ?_ ?_ ?_ ?_) <;> omega) | ((with_reducible refine y_R1m (by with_reducible assumption) ?_ ?_ ?_) <;> omega) | ((with_reducible refine y_P_put (by with_reducible assumption) ?_ ?_ ?_ ?_ ?_) <;> omega) | ((with_reducible refine y_PN_put (by with_reducible assumption) ?_ ?_ ?_ ?_ ?_) <;> omega) | ((with_reducible refine y_P1 (by with_reducible assumption) ?_) <;> omega) | (with_reducible exact y_Eq.rf _ _) | ((with_reducible refine y_RIs2 (by with_reducible assumption) ?_ ?_ ?_ ?_) <;> omega) | (rcases hoth with hz | hz; exact y_RIm hz (by omega) (by omega) (by omega); exact y_RIm hz (by omega) (by omega) (by omega)) | (rcases h0_r_5 with hz | hz; exact Or.inr hz; exact Or.inl (y_RIm hz (by omega) (by omega) (by omega)))) (by omega) (by omega) (by omega) (by omega) (by first | with_reducible assumption | omega | ((with_reducible refine y_Vl ?_ ?_) <;> omega) | ((with_reducible refine y_Eq_cpy ?_) <;> omega) | ((with_reducible refine y_RIm (by with_reducible assumption) ?_ ?_ ?_) <;> omega) | ((with_reducible refine y_RIu (by with_reducible assumption) ?_ ?_ ?_ ?_ ?_) <;> omega) | ((with_reducible refine y_R1v (by with_reducible assumption) ?_ ?_ ?_ ?_ ?_) <;> omega) | ((with_reducible refine y_R1m (by with_reducible assumption) ?_ ?_ ?_) <;> omega) | ((with_reducible refine y_P_put (by with_reducible assumption) ?_ ?_ ?_ ?_ ?_) <;> omega) | ((with_reducible refine y_PN_put (by with_reducible assumption) ?_ ?_ ?_ ?_ ?_) <;> omega) | ((with_reducible refine y_P1 (by with_reducible assumption) ?_) <;> omega) | (with_reducible exact y_Eq.rf _ _) | ((with_reducible refine y_RIs2 (by with_reducible assumption) ?_ ?_ ?_ ?_) <;> omega) | (rcases hoth with hz | hz; exact y_RIm hz (by omega) (by omega) (by omega); exact y_RIm hz (by omega) (by omega) (by omega)) | (rcases h0_r_5 with hz | hz; exact Or.inr hz; exact Or.inl (y_RIm hz (by omega) (by omega) (by omega))))) (fun r_5 h_r_5 => ?_)
      have h0_r_5 : y_RI v3_4.toInt 0 (v3_4.toInt - 1) r_5 ∨ y_RI (l2.toInt + 2 * l1.toInt) 0 (v3_4.toInt - 1) r_5 := h_r_5
      have e5 : (2 : Int32).toInt = 2 := rfl
      try have e6 := @y_mulL (2 : Int32) l1 2 rfl (by omega) (by omega)
      try have e7 := @y_add l2 ((2 : Int32) * l1) (by omega) (by omega)
      exact ih (l1 := l1) (l2 := (l2 + ((2 : Int32) * l1))) (g3_15 := g3_15) (n3_15 := n3_15) (g3_16 := r_5) (n3_16 := n3_16) (by first | with_reducible assumption | omega | ((with_reducible refine y_Vl ?_ ?_) <;> omega) | ((with_reducible refine y_Eq_cpy ?_) <;> omega) | ((with_reducible refine y_RIm (by with_reducible assumption) ?_ ?_ ?_) <;> omega) | ((with_reducible refine y_RIu (by with_reducible assumption) ?_ ?_ ?_ ?_ ?_) <;> omega) | ((with_reducible refine y_R1v (by with_reducible assumption) ?_ ?_ ?_ ?_ ?_) <;> omega) | ((with_reducible refine y_R1m (by with_reducible assumption) ?_ ?_ ?_) <;> omega) | ((with_reducible refine y_P_put (by with_reducible assumption) ?_ ?_ ?_ ?_ ?_) <;> omega) | ((with_reducible refine y_PN_put (by with_reducible assumption) ?_ ?_ ?_ ?_ ?_) <;> omega) | ((with_reducible refine y_P1 (by with_reducible assumption) ?_) <;> omega) | (with_reducible exact y_Eq.rf _ _) | ((with_reducible refine y_RIs2 (by with_reducible assumption) ?_ ?_ ?_ ?_) <;> omega) | (rcases hoth with hz | hz; exact y_RIm hz (by omega) (by omega) (by omega); exact y_RIm hz (by omega) (by omega) (by omega)) | (rcases h0_r_5 with hz | hz; exact Or.inr hz; exact Or.inl (y_RIm hz (by omega) (by omega) (by omega)))) (by omega) (by first | with_reducible assumption | omega | ((with_reducible refine y_Vl ?_ ?_) <;> omega) | ((with_reducible refine y_Eq_cpy ?_) <;> omega) | ((with_reducible refine y_RIm (by with_reducible assumption) ?_ ?_ ?_) <;> omega) | ((with_reducible refine y_RIu (by with_reducible assumption) ?_ ?_ ?_ ?_ ?_) <;> omega) | ((with_reducible refine y_R1v (by with_reducible assumption) ?_ ?_ ?_ ?_ ?_) <;> omega) | ((with_reducible refine y_R1m (by with_reducible assumption) ?_ ?_ ?_) <;> omega) | ((with_reducible refine y_P_put (by with_reducible assumption) ?_ ?_ ?_ ?_ ?_) <;> omega) | ((with_reducible refine y_PN_put (by with_reducible assumption) ?_ ?_ ?_ ?_ ?_) <;> omega) | ((with_reducible refine y_P1 (by with_reducible assumption) ?_) <;> omega) | (with_reducible exact y_Eq.rf _ _) | ((with_reducible refine y_RIs2 (by with_reducible assumption) ?_ ?_ ?_ ?_) <;> omega) | (rcases hoth with hz | hz; exact y_RIm hz (by omega) (by omega) (by omega); exact y_RIm hz (by omega) (by omega) (by omega)) | (rcases h0_r_5 with hz | hz; exact Or.inr hz; exact Or.inl (y_RIm hz (by omega) (by omega) (by omega)))) (by first | with_reducible assumption | omega | ((with_reducible refine y_Vl ?_ ?_) <;> omega) | ((with_reducible refine y_Eq_cpy ?_) <;> omega) | ((with_reducible refine y_RIm (by with_reducible assumption) ?_ ?_ ?_) <;> omega) | ((with_reducible refine y_RIu (by with_reducible assumption) ?_ ?_ ?_ ?_ ?_) <;> omega) | ((with_reducible refine y_R1v (by with_reducible assumption) ?_ ?_ ?_ ?_ ?_) <;> omega) | ((with_reducible refine y_R1m (by with_reducible assumption) ?_ ?_ ?_) <;> omega) | ((with_reducible refine y_P_put (by with_reducible assumption) ?_ ?_ ?_ ?_ ?_) <;> omega) | ((with_reducible refine y_PN_put (by with_reducible assumption) ?_ ?_ ?_ ?_ ?_) <;> omega) | ((with_reducible refine y_P1 (by with_reducible assumption) ?_) <;> omega) | (with_reducible exact y_Eq.rf _ _) | ((with_reducible refine y_RIs2 (by with_reducible assumption) ?_ ?_ ?_ ?_) <;> omega) | (rcases hoth with hz | hz; exact y_RIm hz (by omega) (by omega) (by omega); exact y_RIm hz (by omega) (by omega) (by omega)) | (rcases h0_r_5 with hz | hz; exact Or.inr hz; exact Or.inl (y_RIm hz (by omega) (by omega) (by omega)))) (by first | with_reducible assumption | omega | ((with_reducible refine y_Vl ?_ ?_) <;> omega) | ((with_reducible refine y_Eq_cpy ?_) <;> omega) | ((with_reducible refine y_RIm (by with_reducible assumption) ?_ ?_ ?_) <;> omega) | ((with_reducible refine y_RIu (by with_reducible assumption) ?_ ?_ ?_ ?_ ?_) <;> omega) | ((with_reducible refine y_R1v (by with_reducible assumption) ?_ ?_ ?_ ?_ ?_) <;> omega) | ((with_reducible refine y_R1m (by with_reducible assumption) ?_ ?_ ?_) <;> omega) | ((with_reducible refine y_P_put (by with_reducible assumption) ?_ ?_ ?_ ?_ ?_) <;> omega) | ((with_reducible refine y_PN_put (by with_reducible assumption) ?_ ?_ ?_ ?_ ?_) <;> omega) | ((with_reducible refine y_P1 (by with_reducible assumption) ?_) <;> omega) | (with_reducible exact y_Eq.rf _ _) | ((with_reducible refine y_RIs2 (by with_reducible assumption) ?_ ?_ ?_ ?_) <;> omega) | (rcases hoth with hz | hz; exact y_RIm hz (by omega) (by omega) (by omega); exact y_RIm hz (by omega) (by omega) (by omega)) | (rcases h0_r_5 with hz | hz; exact Or.inr hz; exact Or.inl (y_RIm hz (by omega) (by omega) (by omega)))) (by omega) (by omega) (by omega) (by omega) (by first | with_reducible assumption | omega | ((with_reducible refine y_Vl ?_ ?_) <;> omega) | ((with_reducible refine y_Eq_cpy ?_) <;> omega) | ((with_reducible refine y_RIm (by with_reducible assumption) ?_ ?_ ?_) <;> omega) | ((with_reducible refine y_RIu (by with_reducible assumption) ?_ ?_ ?_ ?_ ?_) <;> omega) | ((with_reducible refine y_R1v (by with_reducible assumption) ?_ ?_ ?_ ?_ ?_) <;> omega) | ((with_reducible refine y_R1m (by with_reducible assumption) ?_ ?_ ?_) <;> omega) | ((with_reducible refine y_P_put (by with_reducible assumption) ?_ ?_ ?_ ?_ ?_) <;> omega) | ((with_reducible refine y_PN_put (by with_reducible assumption) ?_ ?_ ?_ ?_ ?_) <;> omega) | ((with_reducible refine y_P1 (by with_reducible assumption) ?_) <;> omega) | (with_reducible exact y_Eq.rf _ _) | ((with_reducible refine y_RIs2 (by with_reducible assumption) ?_ ?_ ?_ ?_) <;> omega) | (rcases hoth with hz | hz; exact y_RIm hz (by omega) (by omega) (by omega); exact y_RIm hz (by omega) (by omega) (by omega)) | (rcases h0_r_5 with hz | hz; exact Or.inr hz; exact Or.inl (y_RIm hz (by omega) (by omega) (by omega)))) (by omega)
theorem y_X3_arrange_L_2 {g1_0 : Nat → Int32} {n1_0 : Nat} {g1_1 : Nat → Int32} {n1_1 : Nat} {g1_2 : Nat → Int32} {n1_2 : Nat} {v3_4 : Int32} {g3_6 : Nat → Int32} {n3_6 : Nat} {g3_7 : Nat → Int32} {n3_7 : Nat} {v1_5 : Int32} {n1_3 n1_4 : Nat} {M5 : Nat} {l1 : Int32} {l2 : Int32} {g3_15 : Nat → Int32} {n3_15 : Nat} {g3_16 : Nat → Int32} {n3_16 : Nat} (k0 : n1_1 = n1_0) (k1 : n1_2 = n1_0) (k2 : n1_3 = n1_0) (k3 : n1_4 = n1_0) (k4 : 16 ≤ n1_0) (k5 : n1_0 ≤ 40004) (k6 : 1 ≤ v1_5.toInt) (k7 : v1_5.toInt ≤ n1_0) (k8 : v1_5.toInt ≤ 20002) (hpar : y_P v1_5.toInt g1_0) (k10 : n3_7 = n3_6) (k11 : v3_4.toInt ≤ n3_6) (k12 : 0 ≤ v3_4.toInt) (k13 : v3_4.toInt ≤ 20000) (hwy : y_RI v3_4.toInt 0 (v1_5.toInt - 1) g3_7) (k15 : n3_16 = n3_15) (k16 : v3_4.toInt ≤ n3_15) (hord : y_RI v3_4.toInt 0 (v3_4.toInt - 1) g3_15) (k18 : n3_15 = M5) (ih1 : ∀ (g3_15 : Nat → Int32) (n3_15 : Nat) (g3_16 : Nat → Int32) (n3_16 : Nat), n3_16 = n3_15 → v3_4.toInt ≤ n3_15 → y_RI v3_4.toInt 0 (v3_4.toInt - 1) g3_15 → n3_15 = M5 → y_Ok (f_X3_arrange_L g1_0 n1_0 g1_1 n1_1 g1_2 n1_2 v3_4 g3_6 n3_6 g3_7 n3_7 (1, l1 * 2, 0, g3_15, n3_15, g3_16, n3_16)) (fun r => (y_RI v3_4.toInt 0 (v3_4.toInt - 1) r.1) ∧ (v3_4.toInt ≤ r.2.1) ∧ (r.2.2.2.1 = r.2.1) ∧ (r.2.1 = M5) ∧ (r.2.2.2.2.1 = 0) ∧ (r.2.2.2.2.2 = 0))) (k20 : 1 ≤ l1.toInt) (k21 : l1.toInt ≤ 20000) (k22 : 0 ≤ l2.toInt) (k23 : l2.toInt ≤ 60000) (hoth : y_RI l2.toInt 0 (v3_4.toInt - 1) g3_16 ∨ y_RI v3_4.toInt 0 (v3_4.toInt - 1) g3_16) : y_Ok (f_X3_arrange_L g1_0 n1_0 g1_1 n1_1 g1_2 n1_2 v3_4 g3_6 n3_6 g3_7 n3_7 (2, l1, l2, g3_15, n3_15, g3_16, n3_16)) (fun r => (y_RI v3_4.toInt 0 (v3_4.toInt - 1) r.1) ∧ (v3_4.toInt ≤ r.2.1) ∧ (r.2.2.2.1 = r.2.1) ∧ (r.2.1 = M5) ∧ (r.2.2.2.2.1 = 0) ∧ (r.2.2.2.2.2 = 0)) := y_X3_arrange_L_2_i (v1_5 := v1_5) (n1_3 := n1_3) (n1_4 := n1_4) (M5 := M5) k0 k1 k2 k3 k4 k5 k6 k7 k8 hpar k10 k11 k12 k13 hwy (60000 - l2.toInt + 1).toNat k15 k16 hord k18 ih1 k20 k21 k22 k23 hoth (by omega)
set_option maxHeartbeats 4000000 in
theorem y_X3_arrange_L_1_i {g1_0 : Nat → Int32} {n1_0 : Nat} {g1_1 : Nat → Int32} {n1_1 : Nat} {g1_2 : Nat → Int32} {n1_2 : Nat} {v3_4 : Int32} {g3_6 : Nat → Int32} {n3_6 : Nat} {g3_7 : Nat → Int32} {n3_7 : Nat} {v1_5 : Int32} {n1_3 n1_4 : Nat} {M5 : Nat} (k0 : n1_1 = n1_0) (k1 : n1_2 = n1_0) (k2 : n1_3 = n1_0) (k3 : n1_4 = n1_0) (k4 : 16 ≤ n1_0) (k5 : n1_0 ≤ 40004) (k6 : 1 ≤ v1_5.toInt) (k7 : v1_5.toInt ≤ n1_0) (k8 : v1_5.toInt ≤ 20002) (hpar : y_P v1_5.toInt g1_0) (k10 : n3_7 = n3_6) (k11 : v3_4.toInt ≤ n3_6) (k12 : 0 ≤ v3_4.toInt) (k13 : v3_4.toInt ≤ 20000) (hwy : y_RI v3_4.toInt 0 (v1_5.toInt - 1) g3_7) : ∀ (m : Nat) {l1 : Int32} {l2 : Int32} {g3_15 : Nat → Int32} {n3_15 : Nat} {g3_16 : Nat → Int32} {n3_16 : Nat}, (n3_16 = n3_15) → (v3_4.toInt ≤ n3_15) → (y_RI v3_4.toInt 0 (v3_4.toInt - 1) g3_15) → (n3_15 = M5) → (1 ≤ l1.toInt) → (l1.toInt ≤ 40000) → 40000 - l1.toInt < m → y_Ok (f_X3_arrange_L g1_0 n1_0 g1_1 n1_1 g1_2 n1_2 v3_4 g3_6 n3_6 g3_7 n3_7 (1, l1, l2, g3_15, n3_15, g3_16, n3_16)) (fun r => (y_RI v3_4.toInt 0 (v3_4.toInt - 1) r.1) ∧ (v3_4.toInt ≤ r.2.1) ∧ (r.2.2.2.1 = r.2.1) ∧ (r.2.1 = M5) ∧ (r.2.2.2.2.1 = 0) ∧ (r.2.2.2.2.2 = 0)) := by
  intro m
  induction m with
  | zero => intro l1 l2 g3_15 n3_15 g3_16 n3_16 k15 k16 hord k18 k19 k20 hm; exfalso; omega
  | succ m ih =>
    intro l1 l2 g3_15 n3_15 g3_16 n3_16 k15 k16 hord k18 k19 k20 hm
    have hd := fun (h : l1.toInt < 20000) => @y_mulR l1 2 2 rfl (by omega) (by omega)
    rw [f_X3_arrange_L]
    refine y_in (by decide) ?_
    refine y_ip rfl ?_
    refine y_if (fun c1 => ?_) (fun c1 => ?_)
    · skip
      have c1' := c1
      rw [Int32.le_iff_toInt_le] at c1'
      have e2 : (0 : Int32).toInt = 0 := rfl
      refine y_some ?_
      try dsimp only
      refine ⟨?_, ?_, ?_, ?_, ?_, ?_⟩ <;> (first | with_reducible assumption | omega | ((with_reducible refine y_Vl ?_ ?_) <;> omega) | ((with_reducible refine y_Eq_cpy ?_) <;> omega) | ((with_reducible refine y_RIm (by with_reducible assumption) ?_ ?_ ?_) <;> omega) | ((with_reducible refine y_RIu (by with_reducible assumption) ?_ ?_ ?_ ?_ ?_) <;> omega) | ((with_reducible refine y_R1v (by with_reducible assumption) ?_ ?_ ?_ ?_ ?_) <;> omega) | ((with_reducible refine y_R1m (by with_reducible assumption) ?_ ?_ ?_) <;> omega) | ((with_reducible refine y_P_put (by with_reducible assumption) ?_ ?_ ?_ ?_ ?_) <;> omega) | ((with_reducible refine y_PN_put (by with_reducible assumption) ?_ ?_ ?_ ?_ ?_) <;> omega) | ((with_reducible refine y_P1 (by with_reducible assumption) ?_) <;> omega) | (with_reducible exact y_Eq.rf _ _) | ((with_reducible refine y_RIs2 (by with_reducible assumption) ?_ ?_ ?_ ?_) <;> omega) | (intro z1 z2 z3 z4 z5 z6 z7 z8; exact ih (l1 := l1 * 2) (l2 := 0) (g3_15 := z1) (n3_15 := z2) (g3_16 := z3) (n3_16 := z4) z5 z6 z7 z8 (by omega) (by omega) (by omega)) | (exact Or.inl (y_RI0 (by omega))))
    · skip
      have c1' := c1
      rw [Int32.le_iff_toInt_le] at c1'
      have hd2 := hd (by omega)
      have e3 : (0 : Int32).toInt = 0 := rfl
      refine y_Ok.mono (y_X3_arrange_L_2 (v1_5 := v1_5) (n1_3 := n1_3) (n1_4 := n1_4) (M5 := M5) (l1 := l1) (l2 := 0) (g3_15 := g3_15) (n3_15 := n3_15) (g3_16 := g3_16) (n3_16 := n3_16) (by first | with_reducible assumption | omega | ((with_reducible refine y_Vl ?_ ?_) <;> omega) | ((with_reducible refine y_Eq_cpy ?_) <;> omega) | ((with_reducible refine y_RIm (by with_reducible assumption) ?_ ?_ ?_) <;> omega) | ((with_reducible refine y_RIu (by with_reducible assumption) ?_ ?_ ?_ ?_ ?_) <;> omega) | ((with_reducible refine y_R1v (by with_reducible assumption) ?_ ?_ ?_ ?_ ?_) <;> omega) | ((with_reducible refine y_R1m (by with_reducible assumption) ?_ ?_ ?_) <;> omega) | ((with_reducible refine y_P_put (by with_reducible assumption) ?_ ?_ ?_ ?_ ?_) <;> omega) | ((with_reducible refine y_PN_put (by with_reducible assumption) ?_ ?_ ?_ ?_ ?_) <;> omega) | ((with_reducible refine y_P1 (by with_reducible assumption) ?_) <;> omega) | (with_reducible exact y_Eq.rf _ _) | ((with_reducible refine y_RIs2 (by with_reducible assumption) ?_ ?_ ?_ ?_) <;> omega) | (intro z1 z2 z3 z4 z5 z6 z7 z8; exact ih (l1 := l1 * 2) (l2 := 0) (g3_15 := z1) (n3_15 := z2) (g3_16 := z3) (n3_16 := z4) z5 z6 z7 z8 (by omega) (by omega) (by omega)) | (exact Or.inl (y_RI0 (by omega)))) (by first | with_reducible assumption | omega | ((with_reducible refine y_Vl ?_ ?_) <;> omega) | ((with_reducible refine y_Eq_cpy ?_) <;> omega) | ((with_reducible refine y_RIm (by with_reducible assumption) ?_ ?_ ?_) <;> omega) | ((with_reducible refine y_RIu (by with_reducible assumption) ?_ ?_ ?_ ?_ ?_) <;> omega) | ((with_reducible refine y_R1v (by with_reducible assumption) ?_ ?_ ?_ ?_ ?_) <;> omega) | ((with_reducible refine y_R1m (by with_reducible assumption) ?_ ?_ ?_) <;> omega) | ((with_reducible refine y_P_put (by with_reducible assumption) ?_ ?_ ?_ ?_ ?_) <;> omega) | ((with_reducible refine y_PN_put (by with_reducible assumption) ?_ ?_ ?_ ?_ ?_) <;> omega) | ((with_reducible refine y_P1 (by with_reducible assumption) ?_) <;> omega) | (with_reducible exact y_Eq.rf _ _) | ((with_reducible refine y_RIs2 (by with_reducible assumption) ?_ ?_ ?_ ?_) <;> omega) | (intro z1 z2 z3 z4 z5 z6 z7 z8; exact ih (l1 := l1 * 2) (l2 := 0) (g3_15 := z1) (n3_15 := z2) (g3_16 := z3) (n3_16 := z4) z5 z6 z7 z8 (by omega) (by omega) (by omega)) | (exact Or.inl (y_RI0 (by omega)))) (by first | with_reducible assumption | omega | ((with_reducible refine y_Vl ?_ ?_) <;> omega) | ((with_reducible refine y_Eq_cpy ?_) <;> omega) | ((with_reducible refine y_RIm (by with_reducible assumption) ?_ ?_ ?_) <;> omega) | ((with_reducible refine y_RIu (by with_reducible assumption) ?_ ?_ ?_ ?_ ?_) <;> omega) | ((with_reducible refine y_R1v (by with_reducible assumption) ?_ ?_ ?_ ?_ ?_) <;> omega) | ((with_reducible refine y_R1m (by with_reducible assumption) ?_ ?_ ?_) <;> omega) | ((with_reducible refine y_P_put (by with_reducible assumption) ?_ ?_ ?_ ?_ ?_) <;> omega) | ((with_reducible refine y_PN_put (by with_reducible assumption) ?_ ?_ ?_ ?_ ?_) <;> omega) | ((with_reducible refine y_P1 (by with_reducible assumption) ?_) <;> omega) | (with_reducible exact y_Eq.rf _ _) | ((with_reducible refine y_RIs2 (by with_reducible assumption) ?_ ?_ ?_ ?_) <;> omega) | (intro z1 z2 z3 z4 z5 z6 z7 z8; exact ih (l1 := l1 * 2) (l2 := 0) (g3_15 := z1) (n3_15 := z2) (g3_16 := z3) (n3_16 := z4) z5 z6 z7 z8 (by omega) (by omega) (by omega)) | (exact Or.inl (y_RI0 (by omega)))) (by first | with_reducible assumption | omega | ((with_reducible refine y_Vl ?_ ?_) <;> omega) | ((with_reducible refine y_Eq_cpy ?_) <;> omega) | ((with_reducible refine y_RIm (by with_reducible assumption) ?_ ?_ ?_) <;> omega) | ((with_reducible refine y_RIu (by with_reducible assumption) ?_ ?_ ?_ ?_ ?_) <;> omega) | ((with_reducible refine y_R1v (by with_reducible assumption) ?_ ?_ ?_ ?_ ?_) <;> omega) | ((with_reducible refine y_R1m (by with_reducible assumption) ?_ ?_ ?_) <;> omega) | ((with_reducible refine y_P_put (by with_reducible assumption) ?_ ?_ ?_ ?_ ?_) <;> omega) | ((with_reducible refine y_PN_put (by with_reducible assumption) ?_ ?_ ?_ ?_ ?_) <;> omega) | ((with_reducible refine y_P1 (by with_reducible assumption) ?_) <;> omega) | (with_reducible exact y_Eq.rf _ _) | ((with_reducible refine y_RIs2 (by with_reducible assumption) ?_ ?_ ?_ ?_) <;> omega) | (intro z1 z2 z3 z4 z5 z6 z7 z8; exact ih (l1 := l1 * 2) (l2 := 0) (g3_15 := z1) (n3_15 := z2) (g3_16 := z3) (n3_16 := z4) z5 z6 z7 z8 (by omega) (by omega) (by omega)) | (exact Or.inl (y_RI0 (by omega)))) (by omega) (by omega) (by omega) (by omega) (by omega) (by first | with_reducible assumption | omega | ((with_reducible refine y_Vl ?_ ?_) <;> omega) | ((with_reducible refine y_Eq_cpy ?_) <;> omega) | ((with_reducible refine y_RIm (by with_reducible assumption) ?_ ?_ ?_) <;> omega) | ((with_reducible refine y_RIu (by with_reducible assumption) ?_ ?_ ?_ ?_ ?_) <;> omega) | ((with_reducible refine y_R1v (by with_reducible assumption) ?_ ?_ ?_ ?_ ?_) <;> omega) | ((with_reducible refine y_R1m (by with_reducible assumption) ?_ ?_ ?_) <;> omega) | ((with_reducible refine y_P_put (by with_reducible assumption) ?_ ?_ ?_ ?_ ?_) <;> omega) | ((with_reducible refine y_PN_put (by with_reducible assumption) ?_ ?_ ?_ ?_ ?_) <;> omega) | ((with_reducible refine y_P1 (by with_reducible assumption) ?_) <;> omega) | (with_reducible exact y_Eq.rf _ _) | ((with_reducible refine y_RIs2 (by with_reducible assumption) ?_ ?_ ?_ ?_) <;> omega) | (intro z1 z2 z3 z4 z5 z6 z7 z8; exact ih (l1 := l1 * 2) (l2 := 0) (g3_15 := z1) (n3_15 := z2) (g3_16 := z3) (n3_16 := z4) z5 z6 z7 z8 (by omega) (by omega) (by omega)) | (exact Or.inl (y_RI0 (by omega)))) (by first | with_reducible assumption | omega | ((with_reducible refine y_Vl ?_ ?_) <;> omega) | ((with_reducible refine y_Eq_cpy ?_) <;> omega) | ((with_reducible refine y_RIm (by with_reducible assumption) ?_ ?_ ?_) <;> omega) | ((with_reducible refine y_RIu (by with_reducible assumption) ?_ ?_ ?_ ?_ ?_) <;> omega) | ((with_reducible refine y_R1v (by with_reducible assumption) ?_ ?_ ?_ ?_ ?_) <;> omega) | ((with_reducible refine y_R1m (by with_reducible assumption) ?_ ?_ ?_) <;> omega) | ((with_reducible refine y_P_put (by with_reducible assumption) ?_ ?_ ?_ ?_ ?_) <;> omega) | ((with_reducible refine y_PN_put (by with_reducible assumption) ?_ ?_ ?_ ?_ ?_) <;> omega) | ((with_reducible refine y_P1 (by with_reducible assumption) ?_) <;> omega) | (with_reducible exact y_Eq.rf _ _) | ((with_reducible refine y_RIs2 (by with_reducible assumption) ?_ ?_ ?_ ?_) <;> omega) | (intro z1 z2 z3 z4 z5 z6 z7 z8; exact ih (l1 := l1 * 2) (l2 := 0) (g3_15 := z1) (n3_15 := z2) (g3_16 := z3) (n3_16 := z4) z5 z6 z7 z8 (by omega) (by omega) (by omega)) | (exact Or.inl (y_RI0 (by omega)))) (by omega) (by omega) (by omega) (by first | with_reducible assumption | omega | ((with_reducible refine y_Vl ?_ ?_) <;> omega) | ((with_reducible refine y_Eq_cpy ?_) <;> omega) | ((with_reducible refine y_RIm (by with_reducible assumption) ?_ ?_ ?_) <;> omega) | ((with_reducible refine y_RIu (by with_reducible assumption) ?_ ?_ ?_ ?_ ?_) <;> omega) | ((with_reducible refine y_R1v (by with_reducible assumption) ?_ ?_ ?_ ?_ ?_) <;> omega) | ((with_reducible refine y_R1m (by with_reducible assumption) ?_ ?_ ?_) <;> omega) | ((with_reducible refine y_P_put (by with_reducible assumption) ?_ ?_ ?_ ?_ ?_) <;> omega) | ((with_reducible refine y_PN_put (by with_reducible assumption) ?_ ?_ ?_ ?_ ?_) <;> omega) | ((with_reducible refine y_P1 (by with_reducible assumption) ?_) <;> omega) | (with_reducible exact y_Eq.rf _ _) | ((with_reducible refine y_RIs2 (by with_reducible assumption) ?_ ?_ ?_ ?_) <;> omega) | (intro z1 z2 z3 z4 z5 z6 z7 z8; exact ih (l1 := l1 * 2) (l2 := 0) (g3_15 := z1) (n3_15 := z2) (g3_16 := z3) (n3_16 := z4) z5 z6 z7 z8 (by omega) (by omega) (by omega)) | (exact Or.inl (y_RI0 (by omega)))) (by first | with_reducible assumption | omega | ((with_reducible refine y_Vl ?_ ?_) <;> omega) | ((with_reducible refine y_Eq_cpy ?_) <;> omega) | ((with_reducible refine y_RIm (by with_reducible assumption) ?_ ?_ ?_) <;> omega) | ((with_reducible refine y_RIu (by with_reducible assumption) ?_ ?_ ?_ ?_ ?_) <;> omega) | ((with_reducible refine y_R1v (by with_reducible assumption) ?_ ?_ ?_ ?_ ?_) <;> omega) | ((with_reducible refine y_R1m (by with_reducible assumption) ?_ ?_ ?_) <;> omega) | ((with_reducible refine y_P_put (by with_reducible assumption) ?_ ?_ ?_ ?_ ?_) <;> omega) | ((with_reducible refine y_PN_put (by with_reducible assumption) ?_ ?_ ?_ ?_ ?_) <;> omega) | ((with_reducible refine y_P1 (by with_reducible assumption) ?_) <;> omega) | (with_reducible exact y_Eq.rf _ _) | ((with_reducible refine y_RIs2 (by with_reducible assumption) ?_ ?_ ?_ ?_) <;> omega) | (intro z1 z2 z3 z4 z5 z6 z7 z8; exact ih (l1 := l1 * 2) (l2 := 0) (g3_15 := z1) (n3_15 := z2) (g3_16 := z3) (n3_16 := z4) z5 z6 z7 z8 (by omega) (by omega) (by omega)) | (exact Or.inl (y_RI0 (by omega)))) (by omega) (by first | with_reducible assumption | omega | ((with_reducible refine y_Vl ?_ ?_) <;> omega) | ((with_reducible refine y_Eq_cpy ?_) <;> omega) | ((with_reducible refine y_RIm (by with_reducible assumption) ?_ ?_ ?_) <;> omega) | ((with_reducible refine y_RIu (by with_reducible assumption) ?_ ?_ ?_ ?_ ?_) <;> omega) | ((with_reducible refine y_R1v (by with_reducible assumption) ?_ ?_ ?_ ?_ ?_) <;> omega) | ((with_reducible refine y_R1m (by with_reducible assumption) ?_ ?_ ?_) <;> omega) | ((with_reducible refine y_P_put (by with_reducible assumption) ?_ ?_ ?_ ?_ ?_) <;> omega) | ((with_reducible refine y_PN_put (by with_reducible assumption) ?_ ?_ ?_ ?_ ?_) <;> omega) | ((with_reducible refine y_P1 (by with_reducible assumption) ?_) <;> omega) | (with_reducible exact y_Eq.rf _ _) | ((with_reducible refine y_RIs2 (by with_reducible assumption) ?_ ?_ ?_ ?_) <;> omega) | (intro z1 z2 z3 z4 z5 z6 z7 z8; exact ih (l1 := l1 * 2) (l2 := 0) (g3_15 := z1) (n3_15 := z2) (g3_16 := z3) (n3_16 := z4) z5 z6 z7 z8 (by omega) (by omega) (by omega)) | (exact Or.inl (y_RI0 (by omega)))) (by first | with_reducible assumption | omega | ((with_reducible refine y_Vl ?_ ?_) <;> omega) | ((with_reducible refine y_Eq_cpy ?_) <;> omega) | ((with_reducible refine y_RIm (by with_reducible assumption) ?_ ?_ ?_) <;> omega) | ((with_reducible refine y_RIu (by with_reducible assumption) ?_ ?_ ?_ ?_ ?_) <;> omega) | ((with_reducible refine y_R1v (by with_reducible assumption) ?_ ?_ ?_ ?_ ?_) <;> omega) | ((with_reducible refine y_R1m (by with_reducible assumption) ?_ ?_ ?_) <;> omega) | ((with_reducible refine y_P_put (by with_reducible assumption) ?_ ?_ ?_ ?_ ?_) <;> omega) | ((with_reducible refine y_PN_put (by with_reducible assumption) ?_ ?_ ?_ ?_ ?_) <;> omega) | ((with_reducible refine y_P1 (by with_reducible assumption) ?_) <;> omega) | (with_reducible exact y_Eq.rf _ _) | ((with_reducible refine y_RIs2 (by with_reducible assumption) ?_ ?_ ?_ ?_) <;> omega) | (intro z1 z2 z3 z4 z5 z6 z7 z8; exact ih (l1 := l1 * 2) (l2 := 0) (g3_15 := z1) (n3_15 := z2) (g3_16 := z3) (n3_16 := z4) z5 z6 z7 z8 (by omega) (by omega) (by omega)) | (exact Or.inl (y_RI0 (by omega)))) (by first | with_reducible assumption | omega | ((with_reducible refine y_Vl ?_ ?_) <;> omega) | ((with_reducible refine y_Eq_cpy ?_) <;> omega) | ((with_reducible refine y_RIm (by with_reducible assumption) ?_ ?_ ?_) <;> omega) | ((with_reducible refine y_RIu (by with_reducible assumption) ?_ ?_ ?_ ?_ ?_) <;> omega) | ((with_reducible refine y_R1v (by with_reducible assumption) ?_ ?_ ?_ ?_ ?_) <;> omega) | ((with_reducible refine y_R1m (by with_reducible assumption) ?_ ?_ ?_) <;> omega) | ((with_reducible refine y_P_put (by with_reducible assumption) ?_ ?_ ?_ ?_ ?_) <;> omega) | ((with_reducible refine y_PN_put (by with_reducible assumption) ?_ ?_ ?_ ?_ ?_) <;> omega) | ((with_reducible refine y_P1 (by with_reducible assumption) ?_) <;> omega) | (with_reducible exact y_Eq.rf _ _) | ((with_reducible refine y_RIs2 (by with_reducible assumption) ?_ ?_ ?_ ?_) <;> omega) | (intro z1 z2 z3 z4 z5 z6 z7 z8; exact ih (l1 := l1 * 2) (l2 := 0) (g3_15 := z1) (n3_15 := z2) (g3_16 := z3) (n3_16 := z4) z5 z6 z7 z8 (by omega) (by omega) (by omega)) | (exact Or.inl (y_RI0 (by omega)))) (by omega) (by omega) (by omega) (by omega) (by first | with_reducible assumption | omega | ((with_reducible refine y_Vl ?_ ?_) <;> omega) | ((with_reducible refine y_Eq_cpy ?_) <;> omega) | ((with_reducible refine y_RIm (by with_reducible assumption) ?_ ?_ ?_) <;> omega) | ((with_reducible refine y_RIu (by with_reducible assumption) ?_ ?_ ?_ ?_ ?_) <;> omega) | ((with_reducible refine y_R1v (by with_reducible assumption) ?_ ?_ ?_ ?_ ?_) <;> omega) | ((with_reducible refine y_R1m (by with_reducible assumption) ?_ ?_ ?_) <;> omega) | ((with_reducible refine y_P_put (by with_reducible assumption) ?_ ?_ ?_ ?_ ?_) <;> omega) | ((with_reducible refine y_PN_put (by with_reducible assumption) ?_ ?_ ?_ ?_ ?_) <;> omega) | ((with_reducible refine y_P1 (by with_reducible assumption) ?_) <;> omega) | (with_reducible exact y_Eq.rf _ _) | ((with_reducible refine y_RIs2 (by with_reducible assumption) ?_ ?_ ?_ ?_) <;> omega) | (intro z1 z2 z3 z4 z5 z6 z7 z8; exact ih (l1 := l1 * 2) (l2 := 0) (g3_15 := z1) (n3_15 := z2) (g3_16 := z3) (n3_16 := z4) z5 z6 z7 z8 (by omega) (by omega) (by omega)) | (exact Or.inl (y_RI0 (by omega))))) (fun r_t3 h_r_t3 => ?_)
      obtain ⟨h0_r_t3, h1_r_t3, h2_r_t3, h3_r_t3, h4_r_t3, h5_r_t3⟩ := h_r_t3
      refine ⟨?_, ?_, ?_, ?_, ?_, ?_⟩ <;> (first | with_reducible assumption | omega | ((with_reducible refine y_Vl ?_ ?_) <;> omega) | ((with_reducible refine y_Eq_cpy ?_) <;> omega) | ((with_reducible refine y_RIm (by with_reducible assumption) ?_ ?_ ?_) <;> omega) | ((with_reducible refine y_RIu (by with_reducible assumption) ?_ ?_ ?_ ?_ ?_) <;> omega) | ((with_reducible refine y_R1v (by with_reducible assumption) ?_ ?_ ?_ ?_ ?_) <;> omega) | ((with_reducible refine y_R1m (by with_reducible assumption) ?_ ?_ ?_) <;> omega) | ((with_reducible refine y_P_put (by with_reducible assumption) ?_ ?_ ?_ ?_ ?_) <;> omega) | ((with_reducible refine y_PN_put (by with_reducible assumption) ?_ ?_ ?_ ?_ ?_) <;> omega) | ((with_reducible refine y_P1 (by with_reducible assumption) ?_) <;> omega) | (with_reducible exact y_Eq.rf _ _) | ((with_reducible refine y_RIs2 (by with_reducible assumption) ?_ ?_ ?_ ?_) <;> omega) | (intro z1 z2 z3 z4 z5 z6 z7 z8; exact ih (l1 := l1 * 2) (l2 := 0) (g3_15 := z1) (n3_15 := z2) (g3_16 := z3) (n3_16 := z4) z5 z6 z7 z8 (by omega) (by omega) (by omega)) | (exact Or.inl (y_RI0 (by omega))))
theorem y_X3_arrange_L_1 {g1_0 : Nat → Int32} {n1_0 : Nat} {g1_1 : Nat → Int32} {n1_1 : Nat} {g1_2 : Nat → Int32} {n1_2 : Nat} {v3_4 : Int32} {g3_6 : Nat → Int32} {n3_6 : Nat} {g3_7 : Nat → Int32} {n3_7 : Nat} {v1_5 : Int32} {n1_3 n1_4 : Nat} {M5 : Nat} {l1 : Int32} {l2 : Int32} {g3_15 : Nat → Int32} {n3_15 : Nat} {g3_16 : Nat → Int32} {n3_16 : Nat} (k0 : n1_1 = n1_0) (k1 : n1_2 = n1_0) (k2 : n1_3 = n1_0) (k3 : n1_4 = n1_0) (k4 : 16 ≤ n1_0) (k5 : n1_0 ≤ 40004) (k6 : 1 ≤ v1_5.toInt) (k7 : v1_5.toInt ≤ n1_0) (k8 : v1_5.toInt ≤ 20002) (hpar : y_P v1_5.toInt g1_0) (k10 : n3_7 = n3_6) (k11 : v3_4.toInt ≤ n3_6) (k12 : 0 ≤ v3_4.toInt) (k13 : v3_4.toInt ≤ 20000) (hwy : y_RI v3_4.toInt 0 (v1_5.toInt - 1) g3_7) (k15 : n3_16 = n3_15) (k16 : v3_4.toInt ≤ n3_15) (hord : y_RI v3_4.toInt 0 (v3_4.toInt - 1) g3_15) (k18 : n3_15 = M5) (k19 : 1 ≤ l1.toInt) (k20 : l1.toInt ≤ 40000) : y_Ok (f_X3_arrange_L g1_0 n1_0 g1_1 n1_1 g1_2 n1_2 v3_4 g3_6 n3_6 g3_7 n3_7 (1, l1, l2, g3_15, n3_15, g3_16, n3_16)) (fun r => (y_RI v3_4.toInt 0 (v3_4.toInt - 1) r.1) ∧ (v3_4.toInt ≤ r.2.1) ∧ (r.2.2.2.1 = r.2.1) ∧ (r.2.1 = M5) ∧ (r.2.2.2.2.1 = 0) ∧ (r.2.2.2.2.2 = 0)) := y_X3_arrange_L_1_i (v1_5 := v1_5) (n1_3 := n1_3) (n1_4 := n1_4) (M5 := M5) k0 k1 k2 k3 k4 k5 k6 k7 k8 hpar k10 k11 k12 k13 hwy (40000 - l1.toInt + 1).toNat k15 k16 hord k18 k19 k20 (by omega)
set_option maxHeartbeats 4000000 in
theorem y_X3_arrange_L_0_i {g1_0 : Nat → Int32} {n1_0 : Nat} {g1_1 : Nat → Int32} {n1_1 : Nat} {g1_2 : Nat → Int32} {n1_2 : Nat} {v3_4 : Int32} {g3_6 : Nat → Int32} {n3_6 : Nat} {g3_7 : Nat → Int32} {n3_7 : Nat} {v1_5 : Int32} {n1_3 n1_4 : Nat} {M5 : Nat} (k0 : n1_1 = n1_0) (k1 : n1_2 = n1_0) (k2 : n1_3 = n1_0) (k3 : n1_4 = n1_0) (k4 : 16 ≤ n1_0) (k5 : n1_0 ≤ 40004) (k6 : 1 ≤ v1_5.toInt) (k7 : v1_5.toInt ≤ n1_0) (k8 : v1_5.toInt ≤ 20002) (hpar : y_P v1_5.toInt g1_0) (k10 : n3_7 = n3_6) (k11 : v3_4.toInt ≤ n3_6) (k12 : 0 ≤ v3_4.toInt) (k13 : v3_4.toInt ≤ 20000) (hwy : y_RI v3_4.toInt 0 (v1_5.toInt - 1) g3_7) : ∀ (m : Nat) {l1 : Int32} {l2 : Int32} {g3_15 : Nat → Int32} {n3_15 : Nat} {g3_16 : Nat → Int32} {n3_16 : Nat}, (n3_16 = n3_15) → (v3_4.toInt ≤ n3_15) → (n3_15 = M5) → (0 ≤ l1.toInt) → (l1.toInt ≤ v3_4.toInt) → (y_RI l1.toInt 0 (v3_4.toInt - 1) g3_15) → v3_4.toInt - l1.toInt < m → y_Ok (f_X3_arrange_L g1_0 n1_0 g1_1 n1_1 g1_2 n1_2 v3_4 g3_6 n3_6 g3_7 n3_7 (0, l1, l2, g3_15, n3_15, g3_16, n3_16)) (fun r => (y_RI v3_4.toInt 0 (v3_4.toInt - 1) r.1) ∧ (v3_4.toInt ≤ r.2.1) ∧ (r.2.2.2.1 = r.2.1) ∧ (r.2.1 = M5) ∧ (r.2.2.2.2.1 = 0) ∧ (r.2.2.2.2.2 = 0)) := by
  intro m
  induction m with
  | zero => intro l1 l2 g3_15 n3_15 g3_16 n3_16 k15 k16 k17 k18 k19 hord hm; exfalso; omega
  | succ m ih =>
    intro l1 l2 g3_15 n3_15 g3_16 n3_16 k15 k16 k17 k18 k19 hord hm
    rw [f_X3_arrange_L]
    refine y_ip rfl ?_
    refine y_if (fun c1 => ?_) (fun c1 => ?_)
    · skip
      have c1' := c1
      rw [Int32.le_iff_toInt_le] at c1'
      have e2 : (1 : Int32).toInt = 1 := rfl
      have e3 : (0 : Int32).toInt = 0 := rfl
      refine y_Ok.mono (y_X3_arrange_L_1 (v1_5 := v1_5) (n1_3 := n1_3) (n1_4 := n1_4) (M5 := M5) (l1 := 1) (l2 := 0) (g3_15 := g3_15) (n3_15 := n3_15) (g3_16 := g3_16) (n3_16 := n3_16) (by first | with_reducible assumption | omega | ((with_reducible refine y_Vl ?_ ?_) <;> omega) | ((with_reducible refine y_Eq_cpy ?_) <;> omega) | ((with_reducible refine y_RIm (by with_reducible assumption) ?_ ?_ ?_) <;> omega) | ((with_reducible refine y_RIu (by with_reducible assumption) ?_ ?_ ?_ ?_ ?_) <;> omega) | ((with_reducible refine y_R1v (by with_reducible assumption) ?_ ?_ ?_ ?_ ?_) <;> omega) | ((with_reducible refine y_R1m (by with_reducible assumption) ?_ ?_ ?_) <;> omega) | ((with_reducible refine y_P_put (by with_reducible assumption) ?_ ?_ ?_ ?_ ?_) <;> omega) | ((with_reducible refine y_PN_put (by with_reducible assumption) ?_ ?_ ?_ ?_ ?_) <;> omega) | ((with_reducible refine y_P1 (by with_reducible assumption) ?_) <;> omega) | (with_reducible exact y_Eq.rf _ _) | ((with_reducible refine y_RIs2 (by with_reducible assumption) ?_ ?_ ?_ ?_) <;> omega)) (by first | with_reducible assumption | omega | ((with_reducible refine y_Vl ?_ ?_) <;> omega) | ((with_reducible refine y_Eq_cpy ?_) <;> omega) | ((with_reducible refine y_RIm (by with_reducible assumption) ?_ ?_ ?_) <;> omega) | ((with_reducible refine y_RIu (by with_reducible assumption) ?_ ?_ ?_ ?_ ?_) <;> omega) | ((with_reducible refine y_R1v (by with_reducible assumption) ?_ ?_ ?_ ?_ ?_) <;> omega) | ((with_reducible refine y_R1m (by with_reducible assumption) ?_ ?_ ?_) <;> omega) | ((with_reducible refine y_P_put (by with_reducible assumption) ?_ ?_ ?_ ?_ ?_) <;> omega) | ((with_reducible refine y_PN_put (by with_reducible assumption) ?_ ?_ ?_ ?_ ?_) <;> omega) | ((with_reducible refine y_P1 (by with_reducible assumption) ?_) <;> omega) | (with_reducible exact y_Eq.rf _ _) | ((with_reducible refine y_RIs2 (by with_reducible assumption) ?_ ?_ ?_ ?_) <;> omega)) (by first | with_reducible assumption | omega | ((with_reducible refine y_Vl ?_ ?_) <;> omega) | ((with_reducible refine y_Eq_cpy ?_) <;> omega) | ((with_reducible refine y_RIm (by with_reducible assumption) ?_ ?_ ?_) <;> omega) | ((with_reducible refine y_RIu (by with_reducible assumption) ?_ ?_ ?_ ?_ ?_) <;> omega) | ((with_reducible refine y_R1v (by with_reducible assumption) ?_ ?_ ?_ ?_ ?_) <;> omega) | ((with_reducible refine y_R1m (by with_reducible assumption) ?_ ?_ ?_) <;> omega) | ((with_reducible refine y_P_put (by with_reducible assumption) ?_ ?_ ?_ ?_ ?_) <;> omega) | ((with_reducible refine y_PN_put (by with_reducible assumption) ?_ ?_ ?_ ?_ ?_) <;> omega) | ((with_reducible refine y_P1 (by with_reducible assumption) ?_) <;> omega) | (with_reducible exact y_Eq.rf _ _) | ((with_reducible refine y_RIs2 (by with_reducible assumption) ?_ ?_ ?_ ?_) <;> omega)) (by first | with_reducible assumption | omega | ((with_reducible refine y_Vl ?_ ?_) <;> omega) | ((with_reducible refine y_Eq_cpy ?_) <;> omega) | ((with_reducible refine y_RIm (by with_reducible assumption) ?_ ?_ ?_) <;> omega) | ((with_reducible refine y_RIu (by with_reducible assumption) ?_ ?_ ?_ ?_ ?_) <;> omega) | ((with_reducible refine y_R1v (by with_reducible assumption) ?_ ?_ ?_ ?_ ?_) <;> omega) | ((with_reducible refine y_R1m (by with_reducible assumption) ?_ ?_ ?_) <;> omega) | ((with_reducible refine y_P_put (by with_reducible assumption) ?_ ?_ ?_ ?_ ?_) <;> omega) | ((with_reducible refine y_PN_put (by with_reducible assumption) ?_ ?_ ?_ ?_ ?_) <;> omega) | ((with_reducible refine y_P1 (by with_reducible assumption) ?_) <;> omega) | (with_reducible exact y_Eq.rf _ _) | ((with_reducible refine y_RIs2 (by with_reducible assumption) ?_ ?_ ?_ ?_) <;> omega)) (by omega) (by omega) (by omega) (by omega) (by omega) (by first | with_reducible assumption | omega | ((with_reducible refine y_Vl ?_ ?_) <;> omega) | ((with_reducible refine y_Eq_cpy ?_) <;> omega) | ((with_reducible refine y_RIm (by with_reducible assumption) ?_ ?_ ?_) <;> omega) | ((with_reducible refine y_RIu (by with_reducible assumption) ?_ ?_ ?_ ?_ ?_) <;> omega) | ((with_reducible refine y_R1v (by with_reducible assumption) ?_ ?_ ?_ ?_ ?_) <;> omega) | ((with_reducible refine y_R1m (by with_reducible assumption) ?_ ?_ ?_) <;> omega) | ((with_reducible refine y_P_put (by with_reducible assumption) ?_ ?_ ?_ ?_ ?_) <;> omega) | ((with_reducible refine y_PN_put (by with_reducible assumption) ?_ ?_ ?_ ?_ ?_) <;> omega) | ((with_reducible refine y_P1 (by with_reducible assumption) ?_) <;> omega) | (with_reducible exact y_Eq.rf _ _) | ((with_reducible refine y_RIs2 (by with_reducible assumption) ?_ ?_ ?_ ?_) <;> omega)) (by first | with_reducible assumption | omega | ((with_reducible refine y_Vl ?_ ?_) <;> omega) | ((with_reducible refine y_Eq_cpy ?_) <;> omega) | ((with_reducible refine y_RIm (by with_reducible assumption) ?_ ?_ ?_) <;> omega) | ((with_reducible refine y_RIu (by with_reducible assumption) ?_ ?_ ?_ ?_ ?_) <;> omega) | ((with_reducible refine y_R1v (by with_reducible assumption) ?_ ?_ ?_ ?_ ?_) <;> omega) | ((with_reducible refine y_R1m (by with_reducible assumption) ?_ ?_ ?_) <;> omega) | ((with_reducible refine y_P_put (by with_reducible assumption) ?_ ?_ ?_ ?_ ?_) <;> omega) | ((with_reducible refine y_PN_put (by with_reducible assumption) ?_ ?_ ?_ ?_ ?_) <;> omega) | ((with_reducible refine y_P1 (by with_reducible assumption) ?_) <;> omega) | (with_reducible exact y_Eq.rf _ _) | ((with_reducible refine y_RIs2 (by with_reducible assumption) ?_ ?_ ?_ ?_) <;> omega)) (by omega) (by omega) (by omega) (by first | with_reducible assumption | omega | ((with_reducible refine y_Vl ?_ ?_) <;> omega) | ((with_reducible refine y_Eq_cpy ?_) <;> omega) | ((with_reducible refine y_RIm (by with_reducible assumption) ?_ ?_ ?_) <;> omega) | ((with_reducible refine y_RIu (by with_reducible assumption) ?_ ?_ ?_ ?_ ?_) <;> omega) | ((with_reducible refine y_R1v (by with_reducible assumption) ?_ ?_ ?_ ?_ ?_) <;> omega) | ((with_reducible refine y_R1m (by with_reducible assumption) ?_ ?_ ?_) <;> omega) | ((with_reducible refine y_P_put (by with_reducible assumption) ?_ ?_ ?_ ?_ ?_) <;> omega) | ((with_reducible refine y_PN_put (by with_reducible assumption) ?_ ?_ ?_ ?_ ?_) <;> omega) | ((with_reducible refine y_P1 (by with_reducible assumption) ?_) <;> omega) | (with_reducible exact y_Eq.rf _ _) | ((with_reducible refine y_RIs2 (by with_reducible assumption) ?_ ?_ ?_ ?_) <;> omega)) (by first | with_reducible assumption | omega | ((with_reducible refine y_Vl ?_ ?_) <;> omega) | ((with_reducible refine y_Eq_cpy ?_) <;> omega) | ((with_reducible refine y_RIm (by with_reducible assumption) ?_ ?_ ?_) <;> omega) | ((with_reducible refine y_RIu (by with_reducible assumption) ?_ ?_ ?_ ?_ ?_) <;> omega) | ((with_reducible refine y_R1v (by with_reducible assumption) ?_ ?_ ?_ ?_ ?_) <;> omega) | ((with_reducible refine y_R1m (by with_reducible assumption) ?_ ?_ ?_) <;> omega) | ((with_reducible refine y_P_put (by with_reducible assumption) ?_ ?_ ?_ ?_ ?_) <;> omega) | ((with_reducible refine y_PN_put (by with_reducible assumption) ?_ ?_ ?_ ?_ ?_) <;> omega) | ((with_reducible refine y_P1 (by with_reducible assumption) ?_) <;> omega) | (with_reducible exact y_Eq.rf _ _) | ((with_reducible refine y_RIs2 (by with_reducible assumption) ?_ ?_ ?_ ?_) <;> omega)) (by omega) (by first | with_reducible assumption | omega | ((with_reducible refine y_Vl ?_ ?_) <;> omega) | ((with_reducible refine y_Eq_cpy ?_) <;> omega) | ((with_reducible refine y_RIm (by with_reducible assumption) ?_ ?_ ?_) <;> omega) | ((with_reducible refine y_RIu (by with_reducible assumption) ?_ ?_ ?_ ?_ ?_) <;> omega) | ((with_reducible refine y_R1v (by with_reducible assumption) ?_ ?_ ?_ ?_ ?_) <;> omega) | ((with_reducible refine y_R1m (by with_reducible assumption) ?_ ?_ ?_) <;> omega) | ((with_reducible refine y_P_put (by with_reducible assumption) ?_ ?_ ?_ ?_ ?_) <;> omega) | ((with_reducible refine y_PN_put (by with_reducible assumption) ?_ ?_ ?_ ?_ ?_) <;> omega) | ((with_reducible refine y_P1 (by with_reducible assumption) ?_) <;> omega) | (with_reducible exact y_Eq.rf _ _) | ((with_reducible refine y_RIs2 (by with_reducible assumption) ?_ ?_ ?_ ?_) <;> omega)) (by first | with_reducible assumption | omega | ((with_reducible refine y_Vl ?_ ?_) <;> omega) | ((with_reducible refine y_Eq_cpy ?_) <;> omega) | ((with_reducible refine y_RIm (by with_reducible assumption) ?_ ?_ ?_) <;> omega) | ((with_reducible refine y_RIu (by with_reducible assumption) ?_ ?_ ?_ ?_ ?_) <;> omega) | ((with_reducible refine y_R1v (by with_reducible assumption) ?_ ?_ ?_ ?_ ?_) <;> omega) | ((with_reducible refine y_R1m (by with_reducible assumption) ?_ ?_ ?_) <;> omega) | ((with_reducible refine y_P_put (by with_reducible assumption) ?_ ?_ ?_ ?_ ?_) <;> omega) | ((with_reducible refine y_PN_put (by with_reducible assumption) ?_ ?_ ?_ ?_ ?_) <;> omega) | ((with_reducible refine y_P1 (by with_reducible assumption) ?_) <;> omega) | (with_reducible exact y_Eq.rf _ _) | ((with_reducible refine y_RIs2 (by with_reducible assumption) ?_ ?_ ?_ ?_) <;> omega)) (by omega) (by omega)) (fun r_t3 h_r_t3 => ?_)
      obtain ⟨h0_r_t3, h1_r_t3, h2_r_t3, h3_r_t3, h4_r_t3, h5_r_t3⟩ := h_r_t3
      refine ⟨?_, ?_, ?_, ?_, ?_, ?_⟩ <;> (first | with_reducible assumption | omega | ((with_reducible refine y_Vl ?_ ?_) <;> omega) | ((with_reducible refine y_Eq_cpy ?_) <;> omega) | ((with_reducible refine y_RIm (by with_reducible assumption) ?_ ?_ ?_) <;> omega) | ((with_reducible refine y_RIu (by with_reducible assumption) ?_ ?_ ?_ ?_ ?_) <;> omega) | ((with_reducible refine y_R1v (by with_reducible assumption) ?_ ?_ ?_ ?_ ?_) <;> omega) | ((with_reducible refine y_R1m (by with_reducible assumption) ?_ ?_ ?_) <;> omega) | ((with_reducible refine y_P_put (by with_reducible assumption) ?_ ?_ ?_ ?_ ?_) <;> omega) | ((with_reducible refine y_PN_put (by with_reducible assumption) ?_ ?_ ?_ ?_ ?_) <;> omega) | ((with_reducible refine y_P1 (by with_reducible assumption) ?_) <;> omega) | (with_reducible exact y_Eq.rf _ _) | ((with_reducible refine y_RIs2 (by with_reducible assumption) ?_ ?_ ?_ ?_) <;> omega))
    · skip
      have c1' := c1
      rw [Int32.le_iff_toInt_le] at c1'
      refine y_gd (y_gdI (by omega) (by omega)) ?_
      try have e5 := @y_addL l1 (1 : Int32) (1) rfl (by omega) (by omega)
      have e6 : (0 : Int32).toInt = 0 := rfl
      try have e7 := @y_cl l1 (by omega)
      try have e8 : y_RI l1.toInt 0 (v3_4.toInt - 1) (upd g3_15 (Int32.toNatClampNeg l1) l1) := y_RIu hord (by omega) (by omega) (by omega) (by omega) (Or.inl (by omega))
      exact ih (l1 := (l1 + 1)) (l2 := 0) (g3_15 := (upd g3_15 (Int32.toNatClampNeg l1) l1)) (n3_15 := n3_15) (g3_16 := g3_16) (n3_16 := n3_16) (by first | with_reducible assumption | omega | ((with_reducible refine y_Vl ?_ ?_) <;> omega) | ((with_reducible refine y_Eq_cpy ?_) <;> omega) | ((with_reducible refine y_RIm (by with_reducible assumption) ?_ ?_ ?_) <;> omega) | ((with_reducible refine y_RIu (by with_reducible assumption) ?_ ?_ ?_ ?_ ?_) <;> omega) | ((with_reducible refine y_R1v (by with_reducible assumption) ?_ ?_ ?_ ?_ ?_) <;> omega) | ((with_reducible refine y_R1m (by with_reducible assumption) ?_ ?_ ?_) <;> omega) | ((with_reducible refine y_P_put (by with_reducible assumption) ?_ ?_ ?_ ?_ ?_) <;> omega) | ((with_reducible refine y_PN_put (by with_reducible assumption) ?_ ?_ ?_ ?_ ?_) <;> omega) | ((with_reducible refine y_P1 (by with_reducible assumption) ?_) <;> omega) | (with_reducible exact y_Eq.rf _ _) | ((with_reducible refine y_RIs2 (by with_reducible assumption) ?_ ?_ ?_ ?_) <;> omega)) (by omega) (by first | with_reducible assumption | omega | ((with_reducible refine y_Vl ?_ ?_) <;> omega) | ((with_reducible refine y_Eq_cpy ?_) <;> omega) | ((with_reducible refine y_RIm (by with_reducible assumption) ?_ ?_ ?_) <;> omega) | ((with_reducible refine y_RIu (by with_reducible assumption) ?_ ?_ ?_ ?_ ?_) <;> omega) | ((with_reducible refine y_R1v (by with_reducible assumption) ?_ ?_ ?_ ?_ ?_) <;> omega) | ((with_reducible refine y_R1m (by with_reducible assumption) ?_ ?_ ?_) <;> omega) | ((with_reducible refine y_P_put (by with_reducible assumption) ?_ ?_ ?_ ?_ ?_) <;> omega) | ((with_reducible refine y_PN_put (by with_reducible assumption) ?_ ?_ ?_ ?_ ?_) <;> omega) | ((with_reducible refine y_P1 (by with_reducible assumption) ?_) <;> omega) | (with_reducible exact y_Eq.rf _ _) | ((with_reducible refine y_RIs2 (by with_reducible assumption) ?_ ?_ ?_ ?_) <;> omega)) (by omega) (by omega) (by first | with_reducible assumption | omega | ((with_reducible refine y_Vl ?_ ?_) <;> omega) | ((with_reducible refine y_Eq_cpy ?_) <;> omega) | ((with_reducible refine y_RIm (by with_reducible assumption) ?_ ?_ ?_) <;> omega) | ((with_reducible refine y_RIu (by with_reducible assumption) ?_ ?_ ?_ ?_ ?_) <;> omega) | ((with_reducible refine y_R1v (by with_reducible assumption) ?_ ?_ ?_ ?_ ?_) <;> omega) | ((with_reducible refine y_R1m (by with_reducible assumption) ?_ ?_ ?_) <;> omega) | ((with_reducible refine y_P_put (by with_reducible assumption) ?_ ?_ ?_ ?_ ?_) <;> omega) | ((with_reducible refine y_PN_put (by with_reducible assumption) ?_ ?_ ?_ ?_ ?_) <;> omega) | ((with_reducible refine y_P1 (by with_reducible assumption) ?_) <;> omega) | (with_reducible exact y_Eq.rf _ _) | ((with_reducible refine y_RIs2 (by with_reducible assumption) ?_ ?_ ?_ ?_) <;> omega)) (by omega)
theorem y_X3_arrange_L_0 {g1_0 : Nat → Int32} {n1_0 : Nat} {g1_1 : Nat → Int32} {n1_1 : Nat} {g1_2 : Nat → Int32} {n1_2 : Nat} {v3_4 : Int32} {g3_6 : Nat → Int32} {n3_6 : Nat} {g3_7 : Nat → Int32} {n3_7 : Nat} {v1_5 : Int32} {n1_3 n1_4 : Nat} {M5 : Nat} {l1 : Int32} {l2 : Int32} {g3_15 : Nat → Int32} {n3_15 : Nat} {g3_16 : Nat → Int32} {n3_16 : Nat} (k0 : n1_1 = n1_0) (k1 : n1_2 = n1_0) (k2 : n1_3 = n1_0) (k3 : n1_4 = n1_0) (k4 : 16 ≤ n1_0) (k5 : n1_0 ≤ 40004) (k6 : 1 ≤ v1_5.toInt) (k7 : v1_5.toInt ≤ n1_0) (k8 : v1_5.toInt ≤ 20002) (hpar : y_P v1_5.toInt g1_0) (k10 : n3_7 = n3_6) (k11 : v3_4.toInt ≤ n3_6) (k12 : 0 ≤ v3_4.toInt) (k13 : v3_4.toInt ≤ 20000) (hwy : y_RI v3_4.toInt 0 (v1_5.toInt - 1) g3_7) (k15 : n3_16 = n3_15) (k16 : v3_4.toInt ≤ n3_15) (k17 : n3_15 = M5) (k18 : 0 ≤ l1.toInt) (k19 : l1.toInt ≤ v3_4.toInt) (hord : y_RI l1.toInt 0 (v3_4.toInt - 1) g3_15) : y_Ok (f_X3_arrange_L g1_0 n1_0 g1_1 n1_1 g1_2 n1_2 v3_4 g3_6 n3_6 g3_7 n3_7 (0, l1, l2, g3_15, n3_15, g3_16, n3_16)) (fun r => (y_RI v3_4.toInt 0 (v3_4.toInt - 1) r.1) ∧ (v3_4.toInt ≤ r.2.1) ∧ (r.2.2.2.1 = r.2.1) ∧ (r.2.1 = M5) ∧ (r.2.2.2.2.1 = 0) ∧ (r.2.2.2.2.2 = 0)) := y_X3_arrange_L_0_i (v1_5 := v1_5) (n1_3 := n1_3) (n1_4 := n1_4) (M5 := M5) k0 k1 k2 k3 k4 k5 k6 k7 k8 hpar k10 k11 k12 k13 hwy (v3_4.toInt - l1.toInt + 1).toNat k15 k16 k17 k18 k19 hord (by omega)
set_option maxHeartbeats 4000000 in
theorem y_X3_factOf {g1_2 : Nat → Int32} {n1_2 : Nat} {v3_4 : Int32} {g3_6 : Nat → Int32} {n3_6 : Nat} {g3_7 : Nat → Int32} {n3_7 : Nat} {g3_8 : Nat → Int32} {n3_8 : Nat} {g3_9 : Nat → Int32} {n3_9 : Nat} {g3_15 : Nat → Int32} {n3_15 : Nat} {p1 : Int32} {p2 : Int32} {v1_5 : Int32} {n1_0 n1_1 n1_3 n1_4 : Nat} {g1_0 : Nat → Int32} (k0 : n1_1 = n1_0) (k1 : n1_2 = n1_0) (k2 : n1_3 = n1_0) (k3 : n1_4 = n1_0) (k4 : 16 ≤ n1_0) (k5 : n1_0 ≤ 40004) (k6 : 1 ≤ v1_5.toInt) (k7 : v1_5.toInt ≤ n1_0) (k8 : v1_5.toInt ≤ 20002) (hpar : y_P v1_5.toInt g1_0) (k10 : n3_7 = n3_6) (k11 : v3_4.toInt ≤ n3_6) (k12 : 0 ≤ v3_4.toInt) (k13 : v3_4.toInt ≤ 20000) (k14 : n3_8 = n3_6) (k15 : n3_9 = n3_6) (hwy : y_RI v3_4.toInt 0 (v1_5.toInt - 1) g3_7) (hord : y_RI v3_4.toInt 0 (v3_4.toInt - 1) g3_15) (k18 : v3_4.toInt ≤ n3_15) : y_Ok (f_X3_factOf g1_2 n1_2 v3_4 g3_6 n3_6 g3_7 n3_7 g3_8 n3_8 g3_9 n3_9 g3_15 n3_15 p1 p2) (fun r => (True)) := by
  unfold f_X3_factOf
  refine y_if (fun c1 => ?_) (fun c1 => ?_)
  · skip
    have e2 : (0 : Int32).toInt = 0 := rfl
    have c1' := c1
    rw [Int32.lt_iff_toInt_lt] at c1'
    have e3 : (-1 : Int32).toInt = -1 := rfl
    exact y_some trivial
  · skip
    have e4 : (0 : Int32).toInt = 0 := rfl
    have c1' := c1
    rw [Int32.lt_iff_toInt_lt] at c1'
    refine y_if (fun c5 => ?_) (fun c5 => ?_)
    · skip
      have c5' := c5
      rw [Int32.lt_iff_toInt_lt] at c5'
      refine y_gd (y_gdI (by omega) (by omega)) ?_
      refine y_if (fun c6 => ?_) (fun c6 => ?_)
      · skip
        have c6' := c6
        rw [← Int32.toInt_inj] at c6'
        try have e7 := @y_cl p1 (by omega)
        try have e8 := hord.at (Int32.toNatClampNeg p1) (by omega)
        refine y_gd (y_gdI (by omega) (by omega)) ?_
        try have e9 := @y_cl (g3_15 (Int32.toNatClampNeg p1)) (by omega)
        exact y_some trivial
      · skip
        have c6' := c6
        rw [← Int32.toInt_inj] at c6'
        refine y_if (fun c10 => ?_) (fun c10 => ?_)
        · skip
          have e11 : (1 : Int32).toInt = 1 := rfl
          have c10' := c10
          rw [← Int32.toInt_inj] at c10'
          try have e12 := @y_cl p1 (by omega)
          try have e13 := hord.at (Int32.toNatClampNeg p1) (by omega)
          refine y_gd (y_gdI (by omega) (by omega)) ?_
          try have e14 := @y_cl (g3_15 (Int32.toNatClampNeg p1)) (by omega)
          try have e15 := hwy.at (Int32.toNatClampNeg (g3_15 (Int32.toNatClampNeg p1))) (by omega)
          refine y_gd (y_gdI (by omega) (by omega)) ?_
          try have e16 := @y_cl (g3_7 (Int32.toNatClampNeg (g3_15 (Int32.toNatClampNeg p1)))) (by omega)
          exact y_some trivial
        · skip
          have e17 : (1 : Int32).toInt = 1 := rfl
          have c10' := c10
          rw [← Int32.toInt_inj] at c10'
          refine y_if (fun c18 => ?_) (fun c18 => ?_)
          · skip
            have e19 : (2 : Int32).toInt = 2 := rfl
            have c18' := c18
            rw [← Int32.toInt_inj] at c18'
            try have e20 := @y_cl p1 (by omega)
            try have e21 := hord.at (Int32.toNatClampNeg p1) (by omega)
            refine y_gd (y_gdI (by omega) (by omega)) ?_
            try have e22 := @y_cl (g3_15 (Int32.toNatClampNeg p1)) (by omega)
            exact y_some trivial
          · skip
            have e23 : (2 : Int32).toInt = 2 := rfl
            have c18' := c18
            rw [← Int32.toInt_inj] at c18'
            try have e24 := @y_cl p1 (by omega)
            try have e25 := hord.at (Int32.toNatClampNeg p1) (by omega)
            refine y_gd (y_gdI (by omega) (by omega)) ?_
            try have e26 := @y_cl (g3_15 (Int32.toNatClampNeg p1)) (by omega)
            exact y_some trivial
    · skip
      have c5' := c5
      rw [Int32.lt_iff_toInt_lt] at c5'
      have e27 : (-1 : Int32).toInt = -1 := rfl
      exact y_some trivial
set_option maxHeartbeats 4000000 in
theorem y_X3_addressOf {g1_0 : Nat → Int32} {n1_0 : Nat} {g1_1 : Nat → Int32} {n1_1 : Nat} {g1_2 : Nat → Int32} {n1_2 : Nat} {v3_4 : Int32} {g3_7 : Nat → Int32} {n3_7 : Nat} {g3_15 : Nat → Int32} {n3_15 : Nat} {p1 : Int32} {p2 : Int32} {v1_5 : Int32} {n3_6 n1_3 n1_4 : Nat} (k0 : n1_1 = n1_0) (k1 : n1_2 = n1_0) (k2 : n1_3 = n1_0) (k3 : n1_4 = n1_0) (k4 : 16 ≤ n1_0) (k5 : n1_0 ≤ 40004) (k6 : 1 ≤ v1_5.toInt) (k7 : v1_5.toInt ≤ n1_0) (k8 : v1_5.toInt ≤ 20002) (hpar : y_P v1_5.toInt g1_0) (k10 : n3_7 = n3_6) (k11 : v3_4.toInt ≤ n3_6) (k12 : 0 ≤ v3_4.toInt) (k13 : v3_4.toInt ≤ 20000) (hwy : y_RI v3_4.toInt 0 (v1_5.toInt - 1) g3_7) (hord : y_RI v3_4.toInt 0 (v3_4.toInt - 1) g3_15) (k16 : v3_4.toInt ≤ n3_15) : y_Ok (f_X3_addressOf g1_0 n1_0 g1_1 n1_1 g1_2 n1_2 v3_4 g3_7 n3_7 g3_15 n3_15 p1 p2) (fun r => (True)) := by
  unfold f_X3_addressOf
  refine y_if (fun c1 => ?_) (fun c1 => ?_)
  · skip
    have e2 : (0 : Int32).toInt = 0 := rfl
    have c1' := c1
    rw [Int32.lt_iff_toInt_lt] at c1'
    have e3 : (-1 : Int32).toInt = -1 := rfl
    exact y_some trivial
  · skip
    have e4 : (0 : Int32).toInt = 0 := rfl
    have c1' := c1
    rw [Int32.lt_iff_toInt_lt] at c1'
    refine y_if (fun c5 => ?_) (fun c5 => ?_)
    · skip
      have c5' := c5
      rw [Int32.le_iff_toInt_le] at c5'
      have e6 : (-1 : Int32).toInt = -1 := rfl
      exact y_some trivial
    · skip
      have c5' := c5
      rw [Int32.le_iff_toInt_le] at c5'
      refine y_if (fun c7 => ?_) (fun c7 => ?_)
      · skip
        have c7' := c7
        rw [Int32.le_iff_toInt_le] at c7'
        refine y_gd (y_gdI (by omega) (by omega)) ?_
        try have e8 := @y_cl p1 (by omega)
        try have e9 := hord.at (Int32.toNatClampNeg p1) (by omega)
        refine y_gd (y_gdI (by omega) (by omega)) ?_
        try have e10 := @y_cl (g3_15 (Int32.toNatClampNeg p1)) (by omega)
        try have e11 := hwy.at (Int32.toNatClampNeg (g3_15 (Int32.toNatClampNeg p1))) (by omega)
        refine y_gd (y_gdI (by omega) (by omega)) ?_
        refine y_if (fun c12 => ?_) (fun c12 => ?_)
        · skip
          try have e13 := @y_cl (g3_7 (Int32.toNatClampNeg (g3_15 (Int32.toNatClampNeg p1)))) (by omega)
          have c12' := c12
          rw [Int32.le_iff_toInt_le] at c12'
          have e14 : (-1 : Int32).toInt = -1 := rfl
          exact y_some trivial
        · skip
          try have e15 := @y_cl (g3_7 (Int32.toNatClampNeg (g3_15 (Int32.toNatClampNeg p1)))) (by omega)
          have c12' := c12
          rw [Int32.le_iff_toInt_le] at c12'
          refine y_bi (y_X1_addressAt (v1_5 := v1_5) (n1_3 := n1_3) (n1_4 := n1_4) (by first | with_reducible assumption | omega | ((with_reducible refine y_Vl ?_ ?_) <;> omega)) (by first | with_reducible assumption | omega | ((with_reducible refine y_Vl ?_ ?_) <;> omega)) (by first | with_reducible assumption | omega | ((with_reducible refine y_Vl ?_ ?_) <;> omega)) (by first | with_reducible assumption | omega | ((with_reducible refine y_Vl ?_ ?_) <;> omega)) (by omega) (by omega) (by omega) (by omega) (by omega) (by first | with_reducible assumption | omega | ((with_reducible refine y_Vl ?_ ?_) <;> omega)) (by omega) (by omega)) (fun r_8 h_r_8 => ?_)
          have h0_r_8 : True := h_r_8
          exact y_some trivial
      · skip
        have c7' := c7
        rw [Int32.le_iff_toInt_le] at c7'
        have e16 : (-1 : Int32).toInt = -1 := rfl
        exact y_some trivial
