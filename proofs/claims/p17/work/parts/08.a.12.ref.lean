set_option maxHeartbeats 4000000 in
theorem y_X9_addresses_a9_59_L_0_i {g9_37 : Nat → Int32} {g9_38 : Nat → Int32} {g9_39 : Nat → Int32} {cx : Int} (hx1 : 1 ≤ cx) (hx2 : cx ≤ 20001) (hx38 : y_BI cx g9_38) (hx39 : y_NI cx g9_39) : ∀ (m : Nat) {l3 : Int32} {g9_59 : Nat → Int32}, (0 ≤ l3.toInt) → (l3.toInt < cx) → l3.toInt < m → y_Ok (f_X9_addresses_a9_59_L g9_37 g9_38 g9_39 (0, l3, g9_59)) (fun r => (True)) := by
  intro m
  induction m with
  | zero => intro l3 g9_59 k4 k5 hm; exfalso; omega
  | succ m ih =>
    intro l3 g9_59 k4 k5 hm
    rw [f_X9_addresses_a9_59_L]
    refine y_ip rfl ?_
    refine y_if (fun c1 => ?_) (fun c1 => ?_)
    · skip
      have e2 : (0 : Int32).toInt = 0 := rfl
      have c1' := c1
      rw [Int32.le_iff_toInt_le] at c1'
      exact y_some trivial
    · skip
      have e3 : (0 : Int32).toInt = 0 := rfl
      have c1' := c1
      rw [Int32.le_iff_toInt_le] at c1'
      refine y_gd (y_gdI (by omega) (by omega)) ?_
      refine y_gd (y_gdI (by omega) (by omega)) ?_
      try have e4 := @y_cl l3 (by omega)
      try have e5 := hx39.at (Int32.toNatClampNeg l3) (by omega)
      try have e6 := @y_subL (g9_39 (Int32.toNatClampNeg l3)) (1 : Int32) (1) rfl (by omega) (by omega)
      refine y_gd (y_gdI (by omega) (by omega)) ?_
      refine y_gd (y_gdI (by omega) (by omega)) ?_
      try have e7 := hx38.at (Int32.toNatClampNeg l3) (by omega)
      try have e8 := @y_cl ((g9_39 (Int32.toNatClampNeg l3)) - (1 : Int32)) (by omega)
      exact y_Ok.mono (ih (l3 := (g9_38 (Int32.toNatClampNeg l3))) (g9_59 := (upd g9_59 (Int32.toNatClampNeg ((g9_39 (Int32.toNatClampNeg l3)) - (1 : Int32))) (g9_37 (Int32.toNatClampNeg l3)))) (by omega) (by omega) (by omega)) (fun _ _ => trivial)
theorem y_X9_addresses_a9_59_L_0 {g9_37 : Nat → Int32} {g9_38 : Nat → Int32} {g9_39 : Nat → Int32} {cx : Int} {l3 : Int32} {g9_59 : Nat → Int32} (hx1 : 1 ≤ cx) (hx2 : cx ≤ 20001) (hx38 : y_BI cx g9_38) (hx39 : y_NI cx g9_39) (k4 : 0 ≤ l3.toInt) (k5 : l3.toInt < cx) : y_Ok (f_X9_addresses_a9_59_L g9_37 g9_38 g9_39 (0, l3, g9_59)) (fun r => (True)) := y_X9_addresses_a9_59_L_0_i (cx := cx) hx1 hx2 hx38 hx39 (l3.toInt + 1).toNat k4 k5 (by omega)
set_option maxHeartbeats 4000000 in
theorem y_X9_addresses_a9_59 {g9_37 : Nat → Int32} {g9_38 : Nat → Int32} {g9_39 : Nat → Int32} {g9_59 : Nat → Int32} {p1 : Int32} {cx : Int} (hx1 : 1 ≤ cx) (hx2 : cx ≤ 20001) (hx38 : y_BI cx g9_38) (hx39 : y_NI cx g9_39) (k4 : 0 ≤ p1.toInt) (k5 : p1.toInt < cx) : y_Ok (f_X9_addresses_a9_59 g9_37 g9_38 g9_39 g9_59 p1) (fun r => (True)) := by
  unfold f_X9_addresses_a9_59
  exact y_Ok.mono (y_X9_addresses_a9_59_L_0 (cx := cx) (l3 := p1) (g9_59 := g9_59) (by omega) (by omega) (by first | trivial | first | with_reducible assumption | omega | ((with_reducible refine y_Vl ?_ ?_) <;> omega)) (by first | trivial | first | with_reducible assumption | omega | ((with_reducible refine y_Vl ?_ ?_) <;> omega)) (by omega) (by omega)) (fun _ _ => trivial)
set_option maxHeartbeats 4000000 in
theorem y_X9_addresses_a9_60_L_0_i {g9_37 : Nat → Int32} {g9_38 : Nat → Int32} {g9_39 : Nat → Int32} {cx : Int} (hx1 : 1 ≤ cx) (hx2 : cx ≤ 20001) (hx38 : y_BI cx g9_38) (hx39 : y_NI cx g9_39) : ∀ (m : Nat) {l3 : Int32} {g9_60 : Nat → Int32}, (0 ≤ l3.toInt) → (l3.toInt < cx) → l3.toInt < m → y_Ok (f_X9_addresses_a9_60_L g9_37 g9_38 g9_39 (0, l3, g9_60)) (fun r => (True)) := by
  intro m
  induction m with
  | zero => intro l3 g9_60 k4 k5 hm; exfalso; omega
  | succ m ih =>
    intro l3 g9_60 k4 k5 hm
    rw [f_X9_addresses_a9_60_L]
    refine y_ip rfl ?_
    refine y_if (fun c1 => ?_) (fun c1 => ?_)
    · skip
      have e2 : (0 : Int32).toInt = 0 := rfl
      have c1' := c1
      rw [Int32.le_iff_toInt_le] at c1'
      exact y_some trivial
    · skip
      have e3 : (0 : Int32).toInt = 0 := rfl
      have c1' := c1
      rw [Int32.le_iff_toInt_le] at c1'
      refine y_gd (y_gdI (by omega) (by omega)) ?_
      refine y_gd (y_gdI (by omega) (by omega)) ?_
      try have e4 := @y_cl l3 (by omega)
      try have e5 := hx39.at (Int32.toNatClampNeg l3) (by omega)
      try have e6 := @y_subL (g9_39 (Int32.toNatClampNeg l3)) (1 : Int32) (1) rfl (by omega) (by omega)
      refine y_gd (y_gdI (by omega) (by omega)) ?_
      refine y_gd (y_gdI (by omega) (by omega)) ?_
      try have e7 := hx38.at (Int32.toNatClampNeg l3) (by omega)
      try have e8 := @y_cl ((g9_39 (Int32.toNatClampNeg l3)) - (1 : Int32)) (by omega)
      exact y_Ok.mono (ih (l3 := (g9_38 (Int32.toNatClampNeg l3))) (g9_60 := (upd g9_60 (Int32.toNatClampNeg ((g9_39 (Int32.toNatClampNeg l3)) - (1 : Int32))) (g9_37 (Int32.toNatClampNeg l3)))) (by omega) (by omega) (by omega)) (fun _ _ => trivial)
theorem y_X9_addresses_a9_60_L_0 {g9_37 : Nat → Int32} {g9_38 : Nat → Int32} {g9_39 : Nat → Int32} {cx : Int} {l3 : Int32} {g9_60 : Nat → Int32} (hx1 : 1 ≤ cx) (hx2 : cx ≤ 20001) (hx38 : y_BI cx g9_38) (hx39 : y_NI cx g9_39) (k4 : 0 ≤ l3.toInt) (k5 : l3.toInt < cx) : y_Ok (f_X9_addresses_a9_60_L g9_37 g9_38 g9_39 (0, l3, g9_60)) (fun r => (True)) := y_X9_addresses_a9_60_L_0_i (cx := cx) hx1 hx2 hx38 hx39 (l3.toInt + 1).toNat k4 k5 (by omega)
set_option maxHeartbeats 4000000 in
theorem y_X9_addresses_a9_60 {g9_37 : Nat → Int32} {g9_38 : Nat → Int32} {g9_39 : Nat → Int32} {g9_60 : Nat → Int32} {p1 : Int32} {cx : Int} (hx1 : 1 ≤ cx) (hx2 : cx ≤ 20001) (hx38 : y_BI cx g9_38) (hx39 : y_NI cx g9_39) (k4 : 0 ≤ p1.toInt) (k5 : p1.toInt < cx) : y_Ok (f_X9_addresses_a9_60 g9_37 g9_38 g9_39 g9_60 p1) (fun r => (True)) := by
  unfold f_X9_addresses_a9_60
  exact y_Ok.mono (y_X9_addresses_a9_60_L_0 (cx := cx) (l3 := p1) (g9_60 := g9_60) (by omega) (by omega) (by first | trivial | first | with_reducible assumption | omega | ((with_reducible refine y_Vl ?_ ?_) <;> omega)) (by first | trivial | first | with_reducible assumption | omega | ((with_reducible refine y_Vl ?_ ?_) <;> omega)) (by omega) (by omega)) (fun _ _ => trivial)
set_option maxHeartbeats 4000000 in
theorem y_X9_behind_L_0_i {g9_37 : Nat → Int32} {g9_38 : Nat → Int32} {g9_39 : Nat → Int32} {g9_43 : Nat → Int32} {g9_44 : Nat → Int32} {l3 : Int32} {l4 : Int32} {g9_59 : Nat → Int32} {g9_60 : Nat → Int32} (k0 : 0 ≤ l3.toInt) (k1 : l3.toInt ≤ 16) (k2 : 0 ≤ l4.toInt) (k3 : l4.toInt ≤ 16) : ∀ (m : Nat) {l5 : Int32}, (0 ≤ l5.toInt) → (l5.toInt ≤ 16) → 16 - l5.toInt < m → y_Ok (f_X9_behind_L g9_37 g9_38 g9_39 g9_43 g9_44 l3 l4 g9_59 g9_60 (0, l5)) (fun r => (True)) := by
  intro m
  induction m with
  | zero => intro l5 k4 k5 hm; exfalso; omega
  | succ m ih =>
    intro l5 k4 k5 hm
    rw [f_X9_behind_L]
    refine y_ip rfl ?_
    refine y_if (fun c1 => ?_) (fun c1 => ?_)
    · skip
      have c1' := c1
      rw [Int32.le_iff_toInt_le] at c1'
      refine y_if (fun c2 => ?_) (fun c2 => ?_)
      · skip
        have c2' := c2
        rw [Int32.le_iff_toInt_le] at c2'
        have e3 : (0 : Int32).toInt = 0 := rfl
        exact y_some trivial
      · skip
        have c2' := c2
        rw [Int32.le_iff_toInt_le] at c2'
        have e4 : (1 : Int32).toInt = 1 := rfl
        exact y_some trivial
    · skip
      have c1' := c1
      rw [Int32.le_iff_toInt_le] at c1'
      refine y_if (fun c5 => ?_) (fun c5 => ?_)
      · skip
        have c5' := c5
        rw [Int32.le_iff_toInt_le] at c5'
        refine y_if (fun c6 => ?_) (fun c6 => ?_)
        · skip
          have c6' := c6
          rw [Int32.le_iff_toInt_le] at c6'
          have e7 : (0 : Int32).toInt = 0 := rfl
          exact y_some trivial
        · skip
          have c6' := c6
          rw [Int32.le_iff_toInt_le] at c6'
          have e8 : (1 : Int32).toInt = 1 := rfl
          exact y_some trivial
      · skip
        have c5' := c5
        rw [Int32.le_iff_toInt_le] at c5'
        refine y_gd (y_gdI (by omega) (by omega)) ?_
        refine y_gd (y_gdI (by omega) (by omega)) ?_
        refine y_if (fun c9 => ?_) (fun c9 => ?_)
        · skip
          try have e10 := @y_cl l5 (by omega)
          have c9' := c9
          rw [← Int32.toInt_inj] at c9'
          try have e11 := @y_addL l5 (1 : Int32) (1) rfl (by omega) (by omega)
          exact y_Ok.mono (ih (l5 := (l5 + 1)) (by omega) (by omega) (by omega)) (fun _ _ => trivial)
        · skip
          try have e12 := @y_cl l5 (by omega)
          have c9' := c9
          rw [← Int32.toInt_inj] at c9'
          refine y_gd (y_gdI (by omega) (by omega)) ?_
          refine y_gd (y_gdI (by omega) (by omega)) ?_
          refine y_if (fun c13 => ?_) (fun c13 => ?_)
          · skip
            have c13' := c13
            rw [Int32.le_iff_toInt_le] at c13'
            have e14 : (0 : Int32).toInt = 0 := rfl
            exact y_some trivial
          · skip
            have c13' := c13
            rw [Int32.le_iff_toInt_le] at c13'
            have e15 : (1 : Int32).toInt = 1 := rfl
            exact y_some trivial
theorem y_X9_behind_L_0 {g9_37 : Nat → Int32} {g9_38 : Nat → Int32} {g9_39 : Nat → Int32} {g9_43 : Nat → Int32} {g9_44 : Nat → Int32} {l3 : Int32} {l4 : Int32} {g9_59 : Nat → Int32} {g9_60 : Nat → Int32} {l5 : Int32} (k0 : 0 ≤ l3.toInt) (k1 : l3.toInt ≤ 16) (k2 : 0 ≤ l4.toInt) (k3 : l4.toInt ≤ 16) (k4 : 0 ≤ l5.toInt) (k5 : l5.toInt ≤ 16) : y_Ok (f_X9_behind_L g9_37 g9_38 g9_39 g9_43 g9_44 l3 l4 g9_59 g9_60 (0, l5)) (fun r => (True)) := y_X9_behind_L_0_i k0 k1 k2 k3 (16 - l5.toInt + 1).toNat k4 k5 (by omega)
set_option maxHeartbeats 4000000 in
theorem y_X9_behind {g9_37 : Nat → Int32} {g9_38 : Nat → Int32} {g9_39 : Nat → Int32} {g9_43 : Nat → Int32} {g9_44 : Nat → Int32} {g9_59 : Nat → Int32} {g9_60 : Nat → Int32} {p1 : Int32} {p2 : Int32} {cx tn : Int} (hx1 : 1 ≤ cx) (hx2 : cx ≤ 20001) (hx38 : y_BI cx g9_38) (hx39 : y_NI cx g9_39) (k4 : y_RI tn 0 (cx - 1) g9_44) (k5 : tn ≤ 20000) (k6 : 0 ≤ p1.toInt) (k7 : p1.toInt < tn) (k8 : 0 ≤ p2.toInt) (k9 : p2.toInt < tn) : y_Ok (f_X9_behind g9_37 g9_38 g9_39 g9_43 g9_44 g9_59 g9_60 p1 p2) (fun r => (True)) := by
  unfold f_X9_behind
  refine y_gd (y_gdI (by omega) (by omega)) ?_
  refine y_gd (y_gdI (by omega) (by omega)) ?_
  refine y_if (fun c1 => ?_) (fun c1 => ?_)
  · skip
    try have e2 := @y_cl p1 (by omega)
    try have e3 := @y_cl p2 (by omega)
    have c1' := c1
    rw [← Int32.toInt_inj] at c1'
    refine y_gd (y_gdI (by omega) (by omega)) ?_
    try have e4 := k4.at (Int32.toNatClampNeg p1) (by omega)
    refine y_bi (y_X9_addresses_a9_59 (cx := cx) (by omega) (by omega) (by first | trivial | first | with_reducible assumption | omega | ((with_reducible refine y_Vl ?_ ?_) <;> omega)) (by first | trivial | first | with_reducible assumption | omega | ((with_reducible refine y_Vl ?_ ?_) <;> omega)) (by omega) (by omega)) (fun r_15 h_r_15 => ?_)
    have h0_r_15 : True := h_r_15
    refine y_gd (y_gdI (by omega) (by omega)) ?_
    try have e5 := k4.at (Int32.toNatClampNeg p2) (by omega)
    refine y_bi (y_X9_addresses_a9_60 (cx := cx) (by omega) (by omega) (by first | trivial | first | with_reducible assumption | omega | ((with_reducible refine y_Vl ?_ ?_) <;> omega)) (by first | trivial | first | with_reducible assumption | omega | ((with_reducible refine y_Vl ?_ ?_) <;> omega)) (by omega) (by omega)) (fun r_17 h_r_17 => ?_)
    have h0_r_17 : True := h_r_17
    refine y_gd (y_gdI (by omega) (by omega)) ?_
    refine y_gd (y_gdI (by omega) (by omega)) ?_
    refine y_gd (y_gdI (by omega) (by omega)) ?_
    refine y_gd (y_gdI (by omega) (by omega)) ?_
    try have e6 := @y_cl (g9_44 (Int32.toNatClampNeg p1)) (by omega)
    try have e7 := hx39.at (Int32.toNatClampNeg (g9_44 (Int32.toNatClampNeg p1))) (by omega)
    try have e8 := @y_cl (g9_44 (Int32.toNatClampNeg p2)) (by omega)
    try have e9 := hx39.at (Int32.toNatClampNeg (g9_44 (Int32.toNatClampNeg p2))) (by omega)
    have e10 : (0 : Int32).toInt = 0 := rfl
    exact y_Ok.mono (y_X9_behind_L_0 (l5 := 0) (by omega) (by omega) (by omega) (by omega) (by omega) (by omega)) (fun _ _ => trivial)
  · skip
    try have e11 := @y_cl p1 (by omega)
    try have e12 := @y_cl p2 (by omega)
    have c1' := c1
    rw [← Int32.toInt_inj] at c1'
    refine y_gd (y_gdI (by omega) (by omega)) ?_
    refine y_gd (y_gdI (by omega) (by omega)) ?_
    refine y_if (fun c13 => ?_) (fun c13 => ?_)
    · skip
      have c13' := c13
      rw [Int32.le_iff_toInt_le] at c13'
      have e14 : (0 : Int32).toInt = 0 := rfl
      exact y_some trivial
    · skip
      have c13' := c13
      rw [Int32.le_iff_toInt_le] at c13'
      have e15 : (1 : Int32).toInt = 1 := rfl
      exact y_some trivial
set_option maxHeartbeats 4000000 in
theorem y_X9_judge_L_3_i {v9_13 : Int32} {v9_14 : Int32} {v9_15 : Int32} {v9_16 : Int32} {v9_17 : Int32} {v9_18 : Int32} {v9_20 : Int32} {v9_21 : Int32} {g9_4 : Nat → Int32} {g9_5 : Nat → Int32} {g9_6 : Nat → Int32} {g9_7 : Nat → Int32} {g9_8 : Nat → Int32} {g9_9 : Nat → Int32} {g9_10 : Nat → Int32} {g9_11 : Nat → Int32} {g9_12 : Nat → Int32} {g9_19 : Nat → Int32} {g9_23 : Nat → Int32} {g9_24 : Nat → Int32} {g9_25 : Nat → Int32} {g9_26 : Nat → Int32} {g9_27 : Nat → Int32} {g9_28 : Nat → Int32} {g9_29 : Nat → Int32} {g9_30 : Nat → Int32} {g9_31 : Nat → Int32} {g9_32 : Nat → Int32} {v9_0 : Int32} {v9_35 : Int32} {v9_36 : Int32} {v9_42 : Int32} {v9_48 : Int32} {v9_49 : Int32} {v9_50 : Int32} {v9_51 : Int32} {v9_54 : Int32} {v9_55 : Int32} {v9_58 : Int32} {g9_33 : Nat → Int32} {g9_34 : Nat → Int32} {g9_37 : Nat → Int32} {g9_38 : Nat → Int32} {g9_39 : Nat → Int32} {g9_40 : Nat → Int32} {g9_41 : Nat → Int32} {g9_43 : Nat → Int32} {g9_44 : Nat → Int32} {g9_45 : Nat → Int32} {g9_46 : Nat → Int32} {g9_47 : Nat → Int32} {g9_53 : Nat → Int32} {g9_56 : Nat → Int32} {g9_57 : Nat → Int32} {g9_61 : Nat → Int32} (hx1 : 1 ≤ v9_42.toInt) (hx2 : v9_42.toInt ≤ 20001) (hx38 : y_BI v9_42.toInt g9_38) (hx39 : y_NI v9_42.toInt g9_39) (hctx : y_RI v9_49.toInt 0 (v9_42.toInt - 1) g9_44) (k5 : 0 ≤ v9_49.toInt) (k6 : v9_49.toInt ≤ 20000) (k7 : v9_0.toInt = 0) (k8 : 0 ≤ v9_50.toInt) (k9 : v9_50.toInt ≤ 200) (k10 : 0 ≤ v9_51.toInt) (k11 : v9_51.toInt ≤ 200) (hfit : y_Fit v9_49.toInt (v9_50.toInt + v9_51.toInt).toNat) (hH : y_H (v9_50.toInt + v9_51.toInt).toNat v9_49.toInt v9_51.toInt g9_57) (hlo : y_AV 202 g9_33) (hst : y_AV 202 g9_34) (hfr : y_AV 60600 g9_57) (ho61 : y_AV 2 g9_61) (hn1 : y_NI 1 g9_39) : ∀ (m : Nat) {l1 : Int32} {l2 : Int32} {l3 : Int32} {l4 : Int32} {g9_52 : Nat → Int32} {g9_59 : Nat → Int32} {g9_60 : Nat → Int32}, (y_RI v9_49.toInt 0 (v9_49.toInt - 1) g9_52) → (∀ (g9_52 : Nat → Int32) (g9_59 : Nat → Int32) (g9_60 : Nat → Int32), y_RI v9_49.toInt 0 (v9_49.toInt - 1) g9_52 → y_Ok (f_X9_judge_L v9_13 v9_14 v9_15 v9_16 v9_17 v9_18 v9_20 v9_21 g9_4 g9_5 g9_6 g9_7 g9_8 g9_9 g9_10 g9_11 g9_12 g9_19 g9_23 g9_24 g9_25 g9_26 g9_27 g9_28 g9_29 g9_30 g9_31 g9_32 v9_0 v9_35 v9_36 v9_42 v9_48 v9_49 v9_50 v9_51 v9_54 v9_55 v9_58 g9_33 g9_34 g9_37 g9_38 g9_39 g9_40 g9_41 g9_43 g9_44 g9_45 g9_46 g9_47 g9_53 g9_56 g9_57 g9_61 (2, l1, l2 + 1, 0, 0, g9_52, g9_59, g9_60)) (fun r => (r.2.1.toInt = 0) ∧ (y_AV 202 r.2.2.2.2.2.2.2.2.2.2.2.2.1) ∧ (y_AV 202 r.2.2.2.2.2.2.2.2.2.2.2.2.2.1) ∧ (y_AV 60600 r.2.2.2.2.2.2.2.2.2.2.2.2.2.2.2.2.2.2.2.2.2.2.2.2.2.2.2.1) ∧ (y_AV 2 r.2.2.2.2.2.2.2.2.2.2.2.2.2.2.2.2.2.2.2.2.2.2.2.2.2.2.2.2.2.2) ∧ (y_NI 1 r.2.2.2.2.2.2.2.2.2.2.2.2.2.2.2.2.1) ∧ (y_Told r.2.2.2.2.2.2.1.toInt r.2.2.2.2.2.2.2.1.toInt r.2.2.2.2.2.2.2.2.1.toInt r.2.2.2.2.1.toInt r.2.2.2.2.2.2.2.2.2.2.2.2.2.2.2.1 r.2.2.2.2.2.2.2.2.2.2.2.2.2.2.2.2.1 r.2.2.2.2.2.2.2.2.2.2.2.2.2.2.2.2.2.2.2.2.1 r.2.2.2.2.2.2.2.2.2.2.2.2.2.2.2.2.2.2.2.2.2.2.2.2.1 r.2.2.2.2.2.2.2.2.2.2.2.2.2.2.2.2.2.2.2.2.2.2.2.2.2.2.2.1))) → (1 ≤ l1.toInt) → (l1.toInt ≤ 20000) → (0 ≤ l2.toInt) → (l2.toInt < v9_49.toInt) → (0 ≤ l3.toInt) → (l3.toInt < v9_49.toInt) → (0 ≤ l4.toInt) → (l4.toInt ≤ l2.toInt) → l4.toInt < m → y_Ok (f_X9_judge_L v9_13 v9_14 v9_15 v9_16 v9_17 v9_18 v9_20 v9_21 g9_4 g9_5 g9_6 g9_7 g9_8 g9_9 g9_10 g9_11 g9_12 g9_19 g9_23 g9_24 g9_25 g9_26 g9_27 g9_28 g9_29 g9_30 g9_31 g9_32 v9_0 v9_35 v9_36 v9_42 v9_48 v9_49 v9_50 v9_51 v9_54 v9_55 v9_58 g9_33 g9_34 g9_37 g9_38 g9_39 g9_40 g9_41 g9_43 g9_44 g9_45 g9_46 g9_47 g9_53 g9_56 g9_57 g9_61 (3, l1, l2, l3, l4, g9_52, g9_59, g9_60)) (fun r => (r.2.1.toInt = 0) ∧ (y_AV 202 r.2.2.2.2.2.2.2.2.2.2.2.2.1) ∧ (y_AV 202 r.2.2.2.2.2.2.2.2.2.2.2.2.2.1) ∧ (y_AV 60600 r.2.2.2.2.2.2.2.2.2.2.2.2.2.2.2.2.2.2.2.2.2.2.2.2.2.2.2.1) ∧ (y_AV 2 r.2.2.2.2.2.2.2.2.2.2.2.2.2.2.2.2.2.2.2.2.2.2.2.2.2.2.2.2.2.2) ∧ (y_NI 1 r.2.2.2.2.2.2.2.2.2.2.2.2.2.2.2.2.1) ∧ (y_Told r.2.2.2.2.2.2.1.toInt r.2.2.2.2.2.2.2.1.toInt r.2.2.2.2.2.2.2.2.1.toInt r.2.2.2.2.1.toInt r.2.2.2.2.2.2.2.2.2.2.2.2.2.2.2.1 r.2.2.2.2.2.2.2.2.2.2.2.2.2.2.2.2.1 r.2.2.2.2.2.2.2.2.2.2.2.2.2.2.2.2.2.2.2.2.1 r.2.2.2.2.2.2.2.2.2.2.2.2.2.2.2.2.2.2.2.2.2.2.2.2.1 r.2.2.2.2.2.2.2.2.2.2.2.2.2.2.2.2.2.2.2.2.2.2.2.2.2.2.2.1)) := by
  intro m
  induction m with
  | zero => intro l1 l2 l3 l4 g9_52 g9_59 g9_60 hord ih2 k21 k22 k23 k24 k25 k26 k27 k28 hm; exfalso; omega
  | succ m ih =>
    intro l1 l2 l3 l4 g9_52 g9_59 g9_60 hord ih2 k21 k22 k23 k24 k25 k26 k27 k28 hm
    rw [f_X9_judge_L]
    refine y_in (by decide) ?_
    refine y_in (by decide) ?_
    refine y_in (by decide) ?_
    refine y_ip rfl ?_
    refine y_if (fun c1 => ?_) (fun c1 => ?_)
    · skip
      have c1' := c1
      rw [Int32.lt_iff_toInt_lt] at c1'
      refine y_gd (y_gdI (by omega) (by omega)) ?_
      try have e2 := @y_addL l2 (1 : Int32) (1) rfl (by omega) (by omega)
      have e3 : (0 : Int32).toInt = 0 := rfl
      try have e4 := @y_cl l4 (by omega)
      try have e5 : y_RI v9_49.toInt 0 (v9_49.toInt - 1) (upd g9_52 (Int32.toNatClampNeg l4) l3) := y_RIu hord (by omega) (by omega) (by omega) (by omega) (Or.inl (by omega))
      exact ih2 _ _ _ (by first | with_reducible assumption | omega | ((with_reducible refine y_Vl ?_ ?_) <;> omega) | ((with_reducible refine y_RIm (by with_reducible assumption) ?_ ?_ ?_) <;> omega) | ((with_reducible refine y_RIu (by with_reducible assumption) ?_ ?_ ?_ ?_ ?_) <;> omega) | ((with_reducible refine y_RI0 ?_) <;> omega) | (refine ⟨by omega, by omega, by omega, by omega, by omega, fun _ => ⟨hx1, hx2, hx38, hx39, hctx, hord, hfit, hH⟩⟩))
    · skip
      have c1' := c1
      rw [Int32.lt_iff_toInt_lt] at c1'
      try have e6 := @y_sub l4 l1 (by omega) (by omega)
      refine y_gd (y_gdI (by omega) (by omega)) ?_
      try have e7 := @y_cl (l4 - l1) (by omega)
      try have e8 := hord.at (Int32.toNatClampNeg (l4 - l1)) (by omega)
      refine y_bi (y_X9_behind (cx := v9_42.toInt) (tn := v9_49.toInt) (by omega) (by omega) (by first | with_reducible assumption | omega | ((with_reducible refine y_Vl ?_ ?_) <;> omega) | ((with_reducible refine y_RIm (by with_reducible assumption) ?_ ?_ ?_) <;> omega) | ((with_reducible refine y_RIu (by with_reducible assumption) ?_ ?_ ?_ ?_ ?_) <;> omega) | ((with_reducible refine y_RI0 ?_) <;> omega) | (refine ⟨by omega, by omega, by omega, by omega, by omega, fun _ => ⟨hx1, hx2, hx38, hx39, hctx, hord, hfit, hH⟩⟩)) (by first | with_reducible assumption | omega | ((with_reducible refine y_Vl ?_ ?_) <;> omega) | ((with_reducible refine y_RIm (by with_reducible assumption) ?_ ?_ ?_) <;> omega) | ((with_reducible refine y_RIu (by with_reducible assumption) ?_ ?_ ?_ ?_ ?_) <;> omega) | ((with_reducible refine y_RI0 ?_) <;> omega) | (refine ⟨by omega, by omega, by omega, by omega, by omega, fun _ => ⟨hx1, hx2, hx38, hx39, hctx, hord, hfit, hH⟩⟩)) (by first | with_reducible assumption | omega | ((with_reducible refine y_Vl ?_ ?_) <;> omega) | ((with_reducible refine y_RIm (by with_reducible assumption) ?_ ?_ ?_) <;> omega) | ((with_reducible refine y_RIu (by with_reducible assumption) ?_ ?_ ?_ ?_ ?_) <;> omega) | ((with_reducible refine y_RI0 ?_) <;> omega) | (refine ⟨by omega, by omega, by omega, by omega, by omega, fun _ => ⟨hx1, hx2, hx38, hx39, hctx, hord, hfit, hH⟩⟩)) (by omega) (by omega) (by omega) (by omega) (by omega)) (fun r_9 h_r_9 => ?_)
      have h0_r_9 : True := h_r_9
      refine y_if (fun c9 => ?_) (fun c9 => ?_)
      · skip
        have e10 : (0 : Int32).toInt = 0 := rfl
        have c9' := c9
        rw [← Int32.toInt_inj] at c9'
        refine y_gd (y_gdI (by omega) (by omega)) ?_
        try have e11 := @y_addL l2 (1 : Int32) (1) rfl (by omega) (by omega)
        try have e12 := @y_cl l4 (by omega)
        try have e13 : y_RI v9_49.toInt 0 (v9_49.toInt - 1) (upd g9_52 (Int32.toNatClampNeg l4) l3) := y_RIu hord (by omega) (by omega) (by omega) (by omega) (Or.inl (by omega))
        exact ih2 _ _ _ (by first | with_reducible assumption | omega | ((with_reducible refine y_Vl ?_ ?_) <;> omega) | ((with_reducible refine y_RIm (by with_reducible assumption) ?_ ?_ ?_) <;> omega) | ((with_reducible refine y_RIu (by with_reducible assumption) ?_ ?_ ?_ ?_ ?_) <;> omega) | ((with_reducible refine y_RI0 ?_) <;> omega) | (refine ⟨by omega, by omega, by omega, by omega, by omega, fun _ => ⟨hx1, hx2, hx38, hx39, hctx, hord, hfit, hH⟩⟩))
      · skip
        have e14 : (0 : Int32).toInt = 0 := rfl
        have c9' := c9
        rw [← Int32.toInt_inj] at c9'
        refine y_gd (y_gdI (by omega) (by omega)) ?_
        refine y_gd (y_gdI (by omega) (by omega)) ?_
        try have e15 := @y_cl l4 (by omega)
        try have e16 : y_RI v9_49.toInt 0 (v9_49.toInt - 1) (upd g9_52 (Int32.toNatClampNeg l4) (g9_52 (Int32.toNatClampNeg (l4 - l1)))) := y_RIu hord (by omega) (by omega) (by omega) (by omega) (Or.inl (by omega))
        exact ih (l1 := l1) (l2 := l2) (l3 := l3) (l4 := (l4 - l1)) (g9_52 := (upd g9_52 (Int32.toNatClampNeg l4) (g9_52 (Int32.toNatClampNeg (l4 - l1))))) (g9_59 := r_9.2.1) (g9_60 := r_9.2.2) (by first | with_reducible assumption | omega | ((with_reducible refine y_Vl ?_ ?_) <;> omega) | ((with_reducible refine y_RIm (by with_reducible assumption) ?_ ?_ ?_) <;> omega) | ((with_reducible refine y_RIu (by with_reducible assumption) ?_ ?_ ?_ ?_ ?_) <;> omega) | ((with_reducible refine y_RI0 ?_) <;> omega) | (refine ⟨by omega, by omega, by omega, by omega, by omega, fun _ => ⟨hx1, hx2, hx38, hx39, hctx, hord, hfit, hH⟩⟩)) (by first | with_reducible assumption | omega | ((with_reducible refine y_Vl ?_ ?_) <;> omega) | ((with_reducible refine y_RIm (by with_reducible assumption) ?_ ?_ ?_) <;> omega) | ((with_reducible refine y_RIu (by with_reducible assumption) ?_ ?_ ?_ ?_ ?_) <;> omega) | ((with_reducible refine y_RI0 ?_) <;> omega) | (refine ⟨by omega, by omega, by omega, by omega, by omega, fun _ => ⟨hx1, hx2, hx38, hx39, hctx, hord, hfit, hH⟩⟩)) (by omega) (by omega) (by omega) (by omega) (by omega) (by omega) (by omega) (by omega) (by omega)
theorem y_X9_judge_L_3 {v9_13 : Int32} {v9_14 : Int32} {v9_15 : Int32} {v9_16 : Int32} {v9_17 : Int32} {v9_18 : Int32} {v9_20 : Int32} {v9_21 : Int32} {g9_4 : Nat → Int32} {g9_5 : Nat → Int32} {g9_6 : Nat → Int32} {g9_7 : Nat → Int32} {g9_8 : Nat → Int32} {g9_9 : Nat → Int32} {g9_10 : Nat → Int32} {g9_11 : Nat → Int32} {g9_12 : Nat → Int32} {g9_19 : Nat → Int32} {g9_23 : Nat → Int32} {g9_24 : Nat → Int32} {g9_25 : Nat → Int32} {g9_26 : Nat → Int32} {g9_27 : Nat → Int32} {g9_28 : Nat → Int32} {g9_29 : Nat → Int32} {g9_30 : Nat → Int32} {g9_31 : Nat → Int32} {g9_32 : Nat → Int32} {v9_0 : Int32} {v9_35 : Int32} {v9_36 : Int32} {v9_42 : Int32} {v9_48 : Int32} {v9_49 : Int32} {v9_50 : Int32} {v9_51 : Int32} {v9_54 : Int32} {v9_55 : Int32} {v9_58 : Int32} {g9_33 : Nat → Int32} {g9_34 : Nat → Int32} {g9_37 : Nat → Int32} {g9_38 : Nat → Int32} {g9_39 : Nat → Int32} {g9_40 : Nat → Int32} {g9_41 : Nat → Int32} {g9_43 : Nat → Int32} {g9_44 : Nat → Int32} {g9_45 : Nat → Int32} {g9_46 : Nat → Int32} {g9_47 : Nat → Int32} {g9_53 : Nat → Int32} {g9_56 : Nat → Int32} {g9_57 : Nat → Int32} {g9_61 : Nat → Int32} {l1 : Int32} {l2 : Int32} {l3 : Int32} {l4 : Int32} {g9_52 : Nat → Int32} {g9_59 : Nat → Int32} {g9_60 : Nat → Int32} (hx1 : 1 ≤ v9_42.toInt) (hx2 : v9_42.toInt ≤ 20001) (hx38 : y_BI v9_42.toInt g9_38) (hx39 : y_NI v9_42.toInt g9_39) (hctx : y_RI v9_49.toInt 0 (v9_42.toInt - 1) g9_44) (k5 : 0 ≤ v9_49.toInt) (k6 : v9_49.toInt ≤ 20000) (k7 : v9_0.toInt = 0) (k8 : 0 ≤ v9_50.toInt) (k9 : v9_50.toInt ≤ 200) (k10 : 0 ≤ v9_51.toInt) (k11 : v9_51.toInt ≤ 200) (hfit : y_Fit v9_49.toInt (v9_50.toInt + v9_51.toInt).toNat) (hH : y_H (v9_50.toInt + v9_51.toInt).toNat v9_49.toInt v9_51.toInt g9_57) (hlo : y_AV 202 g9_33) (hst : y_AV 202 g9_34) (hfr : y_AV 60600 g9_57) (ho61 : y_AV 2 g9_61) (hn1 : y_NI 1 g9_39) (hord : y_RI v9_49.toInt 0 (v9_49.toInt - 1) g9_52) (ih2 : ∀ (g9_52 : Nat → Int32) (g9_59 : Nat → Int32) (g9_60 : Nat → Int32), y_RI v9_49.toInt 0 (v9_49.toInt - 1) g9_52 → y_Ok (f_X9_judge_L v9_13 v9_14 v9_15 v9_16 v9_17 v9_18 v9_20 v9_21 g9_4 g9_5 g9_6 g9_7 g9_8 g9_9 g9_10 g9_11 g9_12 g9_19 g9_23 g9_24 g9_25 g9_26 g9_27 g9_28 g9_29 g9_30 g9_31 g9_32 v9_0 v9_35 v9_36 v9_42 v9_48 v9_49 v9_50 v9_51 v9_54 v9_55 v9_58 g9_33 g9_34 g9_37 g9_38 g9_39 g9_40 g9_41 g9_43 g9_44 g9_45 g9_46 g9_47 g9_53 g9_56 g9_57 g9_61 (2, l1, l2 + 1, 0, 0, g9_52, g9_59, g9_60)) (fun r => (r.2.1.toInt = 0) ∧ (y_AV 202 r.2.2.2.2.2.2.2.2.2.2.2.2.1) ∧ (y_AV 202 r.2.2.2.2.2.2.2.2.2.2.2.2.2.1) ∧ (y_AV 60600 r.2.2.2.2.2.2.2.2.2.2.2.2.2.2.2.2.2.2.2.2.2.2.2.2.2.2.2.1) ∧ (y_AV 2 r.2.2.2.2.2.2.2.2.2.2.2.2.2.2.2.2.2.2.2.2.2.2.2.2.2.2.2.2.2.2) ∧ (y_NI 1 r.2.2.2.2.2.2.2.2.2.2.2.2.2.2.2.2.1) ∧ (y_Told r.2.2.2.2.2.2.1.toInt r.2.2.2.2.2.2.2.1.toInt r.2.2.2.2.2.2.2.2.1.toInt r.2.2.2.2.1.toInt r.2.2.2.2.2.2.2.2.2.2.2.2.2.2.2.1 r.2.2.2.2.2.2.2.2.2.2.2.2.2.2.2.2.1 r.2.2.2.2.2.2.2.2.2.2.2.2.2.2.2.2.2.2.2.2.1 r.2.2.2.2.2.2.2.2.2.2.2.2.2.2.2.2.2.2.2.2.2.2.2.2.1 r.2.2.2.2.2.2.2.2.2.2.2.2.2.2.2.2.2.2.2.2.2.2.2.2.2.2.2.1))) (k21 : 1 ≤ l1.toInt) (k22 : l1.toInt ≤ 20000) (k23 : 0 ≤ l2.toInt) (k24 : l2.toInt < v9_49.toInt) (k25 : 0 ≤ l3.toInt) (k26 : l3.toInt < v9_49.toInt) (k27 : 0 ≤ l4.toInt) (k28 : l4.toInt ≤ l2.toInt) : y_Ok (f_X9_judge_L v9_13 v9_14 v9_15 v9_16 v9_17 v9_18 v9_20 v9_21 g9_4 g9_5 g9_6 g9_7 g9_8 g9_9 g9_10 g9_11 g9_12 g9_19 g9_23 g9_24 g9_25 g9_26 g9_27 g9_28 g9_29 g9_30 g9_31 g9_32 v9_0 v9_35 v9_36 v9_42 v9_48 v9_49 v9_50 v9_51 v9_54 v9_55 v9_58 g9_33 g9_34 g9_37 g9_38 g9_39 g9_40 g9_41 g9_43 g9_44 g9_45 g9_46 g9_47 g9_53 g9_56 g9_57 g9_61 (3, l1, l2, l3, l4, g9_52, g9_59, g9_60)) (fun r => (r.2.1.toInt = 0) ∧ (y_AV 202 r.2.2.2.2.2.2.2.2.2.2.2.2.1) ∧ (y_AV 202 r.2.2.2.2.2.2.2.2.2.2.2.2.2.1) ∧ (y_AV 60600 r.2.2.2.2.2.2.2.2.2.2.2.2.2.2.2.2.2.2.2.2.2.2.2.2.2.2.2.1) ∧ (y_AV 2 r.2.2.2.2.2.2.2.2.2.2.2.2.2.2.2.2.2.2.2.2.2.2.2.2.2.2.2.2.2.2) ∧ (y_NI 1 r.2.2.2.2.2.2.2.2.2.2.2.2.2.2.2.2.1) ∧ (y_Told r.2.2.2.2.2.2.1.toInt r.2.2.2.2.2.2.2.1.toInt r.2.2.2.2.2.2.2.2.1.toInt r.2.2.2.2.1.toInt r.2.2.2.2.2.2.2.2.2.2.2.2.2.2.2.1 r.2.2.2.2.2.2.2.2.2.2.2.2.2.2.2.2.1 r.2.2.2.2.2.2.2.2.2.2.2.2.2.2.2.2.2.2.2.2.1 r.2.2.2.2.2.2.2.2.2.2.2.2.2.2.2.2.2.2.2.2.2.2.2.2.1 r.2.2.2.2.2.2.2.2.2.2.2.2.2.2.2.2.2.2.2.2.2.2.2.2.2.2.2.1)) := y_X9_judge_L_3_i hx1 hx2 hx38 hx39 hctx k5 k6 k7 k8 k9 k10 k11 hfit hH hlo hst hfr ho61 hn1 (l4.toInt + 1).toNat hord ih2 k21 k22 k23 k24 k25 k26 k27 k28 (by omega)
set_option maxHeartbeats 4000000 in
theorem y_X9_judge_L_2_i {v9_13 : Int32} {v9_14 : Int32} {v9_15 : Int32} {v9_16 : Int32} {v9_17 : Int32} {v9_18 : Int32} {v9_20 : Int32} {v9_21 : Int32} {g9_4 : Nat → Int32} {g9_5 : Nat → Int32} {g9_6 : Nat → Int32} {g9_7 : Nat → Int32} {g9_8 : Nat → Int32} {g9_9 : Nat → Int32} {g9_10 : Nat → Int32} {g9_11 : Nat → Int32} {g9_12 : Nat → Int32} {g9_19 : Nat → Int32} {g9_23 : Nat → Int32} {g9_24 : Nat → Int32} {g9_25 : Nat → Int32} {g9_26 : Nat → Int32} {g9_27 : Nat → Int32} {g9_28 : Nat → Int32} {g9_29 : Nat → Int32} {g9_30 : Nat → Int32} {g9_31 : Nat → Int32} {g9_32 : Nat → Int32} {v9_0 : Int32} {v9_35 : Int32} {v9_36 : Int32} {v9_42 : Int32} {v9_48 : Int32} {v9_49 : Int32} {v9_50 : Int32} {v9_51 : Int32} {v9_54 : Int32} {v9_55 : Int32} {v9_58 : Int32} {g9_33 : Nat → Int32} {g9_34 : Nat → Int32} {g9_37 : Nat → Int32} {g9_38 : Nat → Int32} {g9_39 : Nat → Int32} {g9_40 : Nat → Int32} {g9_41 : Nat → Int32} {g9_43 : Nat → Int32} {g9_44 : Nat → Int32} {g9_45 : Nat → Int32} {g9_46 : Nat → Int32} {g9_47 : Nat → Int32} {g9_53 : Nat → Int32} {g9_56 : Nat → Int32} {g9_57 : Nat → Int32} {g9_61 : Nat → Int32} (hx1 : 1 ≤ v9_42.toInt) (hx2 : v9_42.toInt ≤ 20001) (hx38 : y_BI v9_42.toInt g9_38) (hx39 : y_NI v9_42.toInt g9_39) (hctx : y_RI v9_49.toInt 0 (v9_42.toInt - 1) g9_44) (k5 : 0 ≤ v9_49.toInt) (k6 : v9_49.toInt ≤ 20000) (k7 : v9_0.toInt = 0) (k8 : 0 ≤ v9_50.toInt) (k9 : v9_50.toInt ≤ 200) (k10 : 0 ≤ v9_51.toInt) (k11 : v9_51.toInt ≤ 200) (hfit : y_Fit v9_49.toInt (v9_50.toInt + v9_51.toInt).toNat) (hH : y_H (v9_50.toInt + v9_51.toInt).toNat v9_49.toInt v9_51.toInt g9_57) (hlo : y_AV 202 g9_33) (hst : y_AV 202 g9_34) (hfr : y_AV 60600 g9_57) (ho61 : y_AV 2 g9_61) (hn1 : y_NI 1 g9_39) : ∀ (m : Nat) {l1 : Int32} {l2 : Int32} {l3 : Int32} {l4 : Int32} {g9_52 : Nat → Int32} {g9_59 : Nat → Int32} {g9_60 : Nat → Int32}, (y_RI v9_49.toInt 0 (v9_49.toInt - 1) g9_52) → (∀ (g9_52 : Nat → Int32) (g9_59 : Nat → Int32) (g9_60 : Nat → Int32), y_RI v9_49.toInt 0 (v9_49.toInt - 1) g9_52 → y_Ok (f_X9_judge_L v9_13 v9_14 v9_15 v9_16 v9_17 v9_18 v9_20 v9_21 g9_4 g9_5 g9_6 g9_7 g9_8 g9_9 g9_10 g9_11 g9_12 g9_19 g9_23 g9_24 g9_25 g9_26 g9_27 g9_28 g9_29 g9_30 g9_31 g9_32 v9_0 v9_35 v9_36 v9_42 v9_48 v9_49 v9_50 v9_51 v9_54 v9_55 v9_58 g9_33 g9_34 g9_37 g9_38 g9_39 g9_40 g9_41 g9_43 g9_44 g9_45 g9_46 g9_47 g9_53 g9_56 g9_57 g9_61 (1, l1 / 2, 0, 0, 0, g9_52, g9_59, g9_60)) (fun r => (r.2.1.toInt = 0) ∧ (y_AV 202 r.2.2.2.2.2.2.2.2.2.2.2.2.1) ∧ (y_AV 202 r.2.2.2.2.2.2.2.2.2.2.2.2.2.1) ∧ (y_AV 60600 r.2.2.2.2.2.2.2.2.2.2.2.2.2.2.2.2.2.2.2.2.2.2.2.2.2.2.2.1) ∧ (y_AV 2 r.2.2.2.2.2.2.2.2.2.2.2.2.2.2.2.2.2.2.2.2.2.2.2.2.2.2.2.2.2.2) ∧ (y_NI 1 r.2.2.2.2.2.2.2.2.2.2.2.2.2.2.2.2.1) ∧ (y_Told r.2.2.2.2.2.2.1.toInt r.2.2.2.2.2.2.2.1.toInt r.2.2.2.2.2.2.2.2.1.toInt r.2.2.2.2.1.toInt r.2.2.2.2.2.2.2.2.2.2.2.2.2.2.2.1 r.2.2.2.2.2.2.2.2.2.2.2.2.2.2.2.2.1 r.2.2.2.2.2.2.2.2.2.2.2.2.2.2.2.2.2.2.2.2.1 r.2.2.2.2.2.2.2.2.2.2.2.2.2.2.2.2.2.2.2.2.2.2.2.2.1 r.2.2.2.2.2.2.2.2.2.2.2.2.2.2.2.2.2.2.2.2.2.2.2.2.2.2.2.1))) → (1 ≤ l1.toInt) → (l1.toInt ≤ 20000) → (0 ≤ l2.toInt) → (l2.toInt ≤ v9_49.toInt) → v9_49.toInt - l2.toInt < m → y_Ok (f_X9_judge_L v9_13 v9_14 v9_15 v9_16 v9_17 v9_18 v9_20 v9_21 g9_4 g9_5 g9_6 g9_7 g9_8 g9_9 g9_10 g9_11 g9_12 g9_19 g9_23 g9_24 g9_25 g9_26 g9_27 g9_28 g9_29 g9_30 g9_31 g9_32 v9_0 v9_35 v9_36 v9_42 v9_48 v9_49 v9_50 v9_51 v9_54 v9_55 v9_58 g9_33 g9_34 g9_37 g9_38 g9_39 g9_40 g9_41 g9_43 g9_44 g9_45 g9_46 g9_47 g9_53 g9_56 g9_57 g9_61 (2, l1, l2, l3, l4, g9_52, g9_59, g9_60)) (fun r => (r.2.1.toInt = 0) ∧ (y_AV 202 r.2.2.2.2.2.2.2.2.2.2.2.2.1) ∧ (y_AV 202 r.2.2.2.2.2.2.2.2.2.2.2.2.2.1) ∧ (y_AV 60600 r.2.2.2.2.2.2.2.2.2.2.2.2.2.2.2.2.2.2.2.2.2.2.2.2.2.2.2.1) ∧ (y_AV 2 r.2.2.2.2.2.2.2.2.2.2.2.2.2.2.2.2.2.2.2.2.2.2.2.2.2.2.2.2.2.2) ∧ (y_NI 1 r.2.2.2.2.2.2.2.2.2.2.2.2.2.2.2.2.1) ∧ (y_Told r.2.2.2.2.2.2.1.toInt r.2.2.2.2.2.2.2.1.toInt r.2.2.2.2.2.2.2.2.1.toInt r.2.2.2.2.1.toInt r.2.2.2.2.2.2.2.2.2.2.2.2.2.2.2.1 r.2.2.2.2.2.2.2.2.2.2.2.2.2.2.2.2.1 r.2.2.2.2.2.2.2.2.2.2.2.2.2.2.2.2.2.2.2.2.1 r.2.2.2.2.2.2.2.2.2.2.2.2.2.2.2.2.2.2.2.2.2.2.2.2.1 r.2.2.2.2.2.2.2.2.2.2.2.2.2.2.2.2.2.2.2.2.2.2.2.2.2.2.2.1)) := by
  intro m
  induction m with
  | zero => intro l1 l2 l3 l4 g9_52 g9_59 g9_60 hord ih1 k21 k22 k23 k24 hm; exfalso; omega
  | succ m ih =>
    intro l1 l2 l3 l4 g9_52 g9_59 g9_60 hord ih1 k21 k22 k23 k24 hm
    have hs2 := fun (h : l2.toInt < v9_49.toInt) => @y_addL l2 1 1 rfl (by omega) (by omega)
    rw [f_X9_judge_L]
    refine y_in (by decide) ?_
    refine y_in (by decide) ?_
    refine y_ip rfl ?_
    refine y_if (fun c1 => ?_) (fun c1 => ?_)
    · skip
      have c1' := c1
      rw [Int32.le_iff_toInt_le] at c1'
      try have e2 := @y_div l1 (2 : Int32) 2 rfl (by decide) (by omega)
      have e3 : (0 : Int32).toInt = 0 := rfl
      exact ih1 _ _ _ hord
    · skip
      have c1' := c1
      rw [Int32.le_iff_toInt_le] at c1'
      have hs2x := hs2 (by omega)
      refine y_gd (y_gdI (by omega) (by omega)) ?_
      try have e4 := @y_cl l2 (by omega)
      try have e5 := hord.at (Int32.toNatClampNeg l2) (by omega)
      refine y_Ok.mono (y_X9_judge_L_3 (l1 := l1) (l2 := l2) (l3 := (g9_52 (Int32.toNatClampNeg l2))) (l4 := l2) (g9_52 := g9_52) (g9_59 := g9_59) (g9_60 := g9_60) (by omega) (by omega) (by first | with_reducible assumption | omega | ((with_reducible refine y_Vl ?_ ?_) <;> omega) | ((with_reducible refine y_RIm (by with_reducible assumption) ?_ ?_ ?_) <;> omega) | ((with_reducible refine y_RIu (by with_reducible assumption) ?_ ?_ ?_ ?_ ?_) <;> omega) | ((with_reducible refine y_RI0 ?_) <;> omega) | (refine ⟨by omega, by omega, by omega, by omega, by omega, fun _ => ⟨hx1, hx2, hx38, hx39, hctx, hord, hfit, hH⟩⟩) | (intro z1 z2 z3 z4; exact ih (l1 := l1) (l2 := l2 + 1) (l3 := 0) (l4 := 0) (g9_52 := z1) (g9_59 := z2) (g9_60 := z3) z4 ih1 (by omega) (by omega) (by omega) (by omega) (by omega))) (by first | with_reducible assumption | omega | ((with_reducible refine y_Vl ?_ ?_) <;> omega) | ((with_reducible refine y_RIm (by with_reducible assumption) ?_ ?_ ?_) <;> omega) | ((with_reducible refine y_RIu (by with_reducible assumption) ?_ ?_ ?_ ?_ ?_) <;> omega) | ((with_reducible refine y_RI0 ?_) <;> omega) | (refine ⟨by omega, by omega, by omega, by omega, by omega, fun _ => ⟨hx1, hx2, hx38, hx39, hctx, hord, hfit, hH⟩⟩) | (intro z1 z2 z3 z4; exact ih (l1 := l1) (l2 := l2 + 1) (l3 := 0) (l4 := 0) (g9_52 := z1) (g9_59 := z2) (g9_60 := z3) z4 ih1 (by omega) (by omega) (by omega) (by omega) (by omega))) (by first | with_reducible assumption | omega | ((with_reducible refine y_Vl ?_ ?_) <;> omega) | ((with_reducible refine y_RIm (by with_reducible assumption) ?_ ?_ ?_) <;> omega) | ((with_reducible refine y_RIu (by with_reducible assumption) ?_ ?_ ?_ ?_ ?_) <;> omega) | ((with_reducible refine y_RI0 ?_) <;> omega) | (refine ⟨by omega, by omega, by omega, by omega, by omega, fun _ => ⟨hx1, hx2, hx38, hx39, hctx, hord, hfit, hH⟩⟩) | (intro z1 z2 z3 z4; exact ih (l1 := l1) (l2 := l2 + 1) (l3 := 0) (l4 := 0) (g9_52 := z1) (g9_59 := z2) (g9_60 := z3) z4 ih1 (by omega) (by omega) (by omega) (by omega) (by omega))) (by omega) (by omega) (by omega) (by omega) (by omega) (by omega) (by omega) (by first | with_reducible assumption | omega | ((with_reducible refine y_Vl ?_ ?_) <;> omega) | ((with_reducible refine y_RIm (by with_reducible assumption) ?_ ?_ ?_) <;> omega) | ((with_reducible refine y_RIu (by with_reducible assumption) ?_ ?_ ?_ ?_ ?_) <;> omega) | ((with_reducible refine y_RI0 ?_) <;> omega) | (refine ⟨by omega, by omega, by omega, by omega, by omega, fun _ => ⟨hx1, hx2, hx38, hx39, hctx, hord, hfit, hH⟩⟩) | (intro z1 z2 z3 z4; exact ih (l1 := l1) (l2 := l2 + 1) (l3 := 0) (l4 := 0) (g9_52 := z1) (g9_59 := z2) (g9_60 := z3) z4 ih1 (by omega) (by omega) (by omega) (by omega) (by omega))) (by first | with_reducible assumption | omega | ((with_reducible refine y_Vl ?_ ?_) <;> omega) | ((with_reducible refine y_RIm (by with_reducible assumption) ?_ ?_ ?_) <;> omega) | ((with_reducible refine y_RIu (by with_reducible assumption) ?_ ?_ ?_ ?_ ?_) <;> omega) | ((with_reducible refine y_RI0 ?_) <;> omega) | (refine ⟨by omega, by omega, by omega, by omega, by omega, fun _ => ⟨hx1, hx2, hx38, hx39, hctx, hord, hfit, hH⟩⟩) | (intro z1 z2 z3 z4; exact ih (l1 := l1) (l2 := l2 + 1) (l3 := 0) (l4 := 0) (g9_52 := z1) (g9_59 := z2) (g9_60 := z3) z4 ih1 (by omega) (by omega) (by omega) (by omega) (by omega))) (by first | with_reducible assumption | omega | ((with_reducible refine y_Vl ?_ ?_) <;> omega) | ((with_reducible refine y_RIm (by with_reducible assumption) ?_ ?_ ?_) <;> omega) | ((with_reducible refine y_RIu (by with_reducible assumption) ?_ ?_ ?_ ?_ ?_) <;> omega) | ((with_reducible refine y_RI0 ?_) <;> omega) | (refine ⟨by omega, by omega, by omega, by omega, by omega, fun _ => ⟨hx1, hx2, hx38, hx39, hctx, hord, hfit, hH⟩⟩) | (intro z1 z2 z3 z4; exact ih (l1 := l1) (l2 := l2 + 1) (l3 := 0) (l4 := 0) (g9_52 := z1) (g9_59 := z2) (g9_60 := z3) z4 ih1 (by omega) (by omega) (by omega) (by omega) (by omega))) (by first | with_reducible assumption | omega | ((with_reducible refine y_Vl ?_ ?_) <;> omega) | ((with_reducible refine y_RIm (by with_reducible assumption) ?_ ?_ ?_) <;> omega) | ((with_reducible refine y_RIu (by with_reducible assumption) ?_ ?_ ?_ ?_ ?_) <;> omega) | ((with_reducible refine y_RI0 ?_) <;> omega) | (refine ⟨by omega, by omega, by omega, by omega, by omega, fun _ => ⟨hx1, hx2, hx38, hx39, hctx, hord, hfit, hH⟩⟩) | (intro z1 z2 z3 z4; exact ih (l1 := l1) (l2 := l2 + 1) (l3 := 0) (l4 := 0) (g9_52 := z1) (g9_59 := z2) (g9_60 := z3) z4 ih1 (by omega) (by omega) (by omega) (by omega) (by omega))) (by first | with_reducible assumption | omega | ((with_reducible refine y_Vl ?_ ?_) <;> omega) | ((with_reducible refine y_RIm (by with_reducible assumption) ?_ ?_ ?_) <;> omega) | ((with_reducible refine y_RIu (by with_reducible assumption) ?_ ?_ ?_ ?_ ?_) <;> omega) | ((with_reducible refine y_RI0 ?_) <;> omega) | (refine ⟨by omega, by omega, by omega, by omega, by omega, fun _ => ⟨hx1, hx2, hx38, hx39, hctx, hord, hfit, hH⟩⟩) | (intro z1 z2 z3 z4; exact ih (l1 := l1) (l2 := l2 + 1) (l3 := 0) (l4 := 0) (g9_52 := z1) (g9_59 := z2) (g9_60 := z3) z4 ih1 (by omega) (by omega) (by omega) (by omega) (by omega))) (by first | with_reducible assumption | omega | ((with_reducible refine y_Vl ?_ ?_) <;> omega) | ((with_reducible refine y_RIm (by with_reducible assumption) ?_ ?_ ?_) <;> omega) | ((with_reducible refine y_RIu (by with_reducible assumption) ?_ ?_ ?_ ?_ ?_) <;> omega) | ((with_reducible refine y_RI0 ?_) <;> omega) | (refine ⟨by omega, by omega, by omega, by omega, by omega, fun _ => ⟨hx1, hx2, hx38, hx39, hctx, hord, hfit, hH⟩⟩) | (intro z1 z2 z3 z4; exact ih (l1 := l1) (l2 := l2 + 1) (l3 := 0) (l4 := 0) (g9_52 := z1) (g9_59 := z2) (g9_60 := z3) z4 ih1 (by omega) (by omega) (by omega) (by omega) (by omega))) (by first | with_reducible assumption | omega | ((with_reducible refine y_Vl ?_ ?_) <;> omega) | ((with_reducible refine y_RIm (by with_reducible assumption) ?_ ?_ ?_) <;> omega) | ((with_reducible refine y_RIu (by with_reducible assumption) ?_ ?_ ?_ ?_ ?_) <;> omega) | ((with_reducible refine y_RI0 ?_) <;> omega) | (refine ⟨by omega, by omega, by omega, by omega, by omega, fun _ => ⟨hx1, hx2, hx38, hx39, hctx, hord, hfit, hH⟩⟩) | (intro z1 z2 z3 z4; exact ih (l1 := l1) (l2 := l2 + 1) (l3 := 0) (l4 := 0) (g9_52 := z1) (g9_59 := z2) (g9_60 := z3) z4 ih1 (by omega) (by omega) (by omega) (by omega) (by omega))) (by first | with_reducible assumption | omega | ((with_reducible refine y_Vl ?_ ?_) <;> omega) | ((with_reducible refine y_RIm (by with_reducible assumption) ?_ ?_ ?_) <;> omega) | ((with_reducible refine y_RIu (by with_reducible assumption) ?_ ?_ ?_ ?_ ?_) <;> omega) | ((with_reducible refine y_RI0 ?_) <;> omega) | (refine ⟨by omega, by omega, by omega, by omega, by omega, fun _ => ⟨hx1, hx2, hx38, hx39, hctx, hord, hfit, hH⟩⟩) | (intro z1 z2 z3 z4; exact ih (l1 := l1) (l2 := l2 + 1) (l3 := 0) (l4 := 0) (g9_52 := z1) (g9_59 := z2) (g9_60 := z3) z4 ih1 (by omega) (by omega) (by omega) (by omega) (by omega))) (by first | with_reducible assumption | omega | ((with_reducible refine y_Vl ?_ ?_) <;> omega) | ((with_reducible refine y_RIm (by with_reducible assumption) ?_ ?_ ?_) <;> omega) | ((with_reducible refine y_RIu (by with_reducible assumption) ?_ ?_ ?_ ?_ ?_) <;> omega) | ((with_reducible refine y_RI0 ?_) <;> omega) | (refine ⟨by omega, by omega, by omega, by omega, by omega, fun _ => ⟨hx1, hx2, hx38, hx39, hctx, hord, hfit, hH⟩⟩) | (intro z1 z2 z3 z4; exact ih (l1 := l1) (l2 := l2 + 1) (l3 := 0) (l4 := 0) (g9_52 := z1) (g9_59 := z2) (g9_60 := z3) z4 ih1 (by omega) (by omega) (by omega) (by omega) (by omega))) (by omega) (by omega) (by omega) (by omega) (by omega) (by omega) (by omega) (by omega)) (fun r_t5 h_r_t5 => ?_)
      obtain ⟨h0_r_t5, h1_r_t5, h2_r_t5, h3_r_t5, h4_r_t5, h5_r_t5, h6_r_t5⟩ := h_r_t5
      refine ⟨?_, ?_, ?_, ?_, ?_, ?_, ?_⟩ <;> (first | with_reducible assumption | omega | ((with_reducible refine y_Vl ?_ ?_) <;> omega) | ((with_reducible refine y_RIm (by with_reducible assumption) ?_ ?_ ?_) <;> omega) | ((with_reducible refine y_RIu (by with_reducible assumption) ?_ ?_ ?_ ?_ ?_) <;> omega) | ((with_reducible refine y_RI0 ?_) <;> omega) | (refine ⟨by omega, by omega, by omega, by omega, by omega, fun _ => ⟨hx1, hx2, hx38, hx39, hctx, hord, hfit, hH⟩⟩) | (intro z1 z2 z3 z4; exact ih (l1 := l1) (l2 := l2 + 1) (l3 := 0) (l4 := 0) (g9_52 := z1) (g9_59 := z2) (g9_60 := z3) z4 ih1 (by omega) (by omega) (by omega) (by omega) (by omega)))
theorem y_X9_judge_L_2 {v9_13 : Int32} {v9_14 : Int32} {v9_15 : Int32} {v9_16 : Int32} {v9_17 : Int32} {v9_18 : Int32} {v9_20 : Int32} {v9_21 : Int32} {g9_4 : Nat → Int32} {g9_5 : Nat → Int32} {g9_6 : Nat → Int32} {g9_7 : Nat → Int32} {g9_8 : Nat → Int32} {g9_9 : Nat → Int32} {g9_10 : Nat → Int32} {g9_11 : Nat → Int32} {g9_12 : Nat → Int32} {g9_19 : Nat → Int32} {g9_23 : Nat → Int32} {g9_24 : Nat → Int32} {g9_25 : Nat → Int32} {g9_26 : Nat → Int32} {g9_27 : Nat → Int32} {g9_28 : Nat → Int32} {g9_29 : Nat → Int32} {g9_30 : Nat → Int32} {g9_31 : Nat → Int32} {g9_32 : Nat → Int32} {v9_0 : Int32} {v9_35 : Int32} {v9_36 : Int32} {v9_42 : Int32} {v9_48 : Int32} {v9_49 : Int32} {v9_50 : Int32} {v9_51 : Int32} {v9_54 : Int32} {v9_55 : Int32} {v9_58 : Int32} {g9_33 : Nat → Int32} {g9_34 : Nat → Int32} {g9_37 : Nat → Int32} {g9_38 : Nat → Int32} {g9_39 : Nat → Int32} {g9_40 : Nat → Int32} {g9_41 : Nat → Int32} {g9_43 : Nat → Int32} {g9_44 : Nat → Int32} {g9_45 : Nat → Int32} {g9_46 : Nat → Int32} {g9_47 : Nat → Int32} {g9_53 : Nat → Int32} {g9_56 : Nat → Int32} {g9_57 : Nat → Int32} {g9_61 : Nat → Int32} {l1 : Int32} {l2 : Int32} {l3 : Int32} {l4 : Int32} {g9_52 : Nat → Int32} {g9_59 : Nat → Int32} {g9_60 : Nat → Int32} (hx1 : 1 ≤ v9_42.toInt) (hx2 : v9_42.toInt ≤ 20001) (hx38 : y_BI v9_42.toInt g9_38) (hx39 : y_NI v9_42.toInt g9_39) (hctx : y_RI v9_49.toInt 0 (v9_42.toInt - 1) g9_44) (k5 : 0 ≤ v9_49.toInt) (k6 : v9_49.toInt ≤ 20000) (k7 : v9_0.toInt = 0) (k8 : 0 ≤ v9_50.toInt) (k9 : v9_50.toInt ≤ 200) (k10 : 0 ≤ v9_51.toInt) (k11 : v9_51.toInt ≤ 200) (hfit : y_Fit v9_49.toInt (v9_50.toInt + v9_51.toInt).toNat) (hH : y_H (v9_50.toInt + v9_51.toInt).toNat v9_49.toInt v9_51.toInt g9_57) (hlo : y_AV 202 g9_33) (hst : y_AV 202 g9_34) (hfr : y_AV 60600 g9_57) (ho61 : y_AV 2 g9_61) (hn1 : y_NI 1 g9_39) (hord : y_RI v9_49.toInt 0 (v9_49.toInt - 1) g9_52) (ih1 : ∀ (g9_52 : Nat → Int32) (g9_59 : Nat → Int32) (g9_60 : Nat → Int32), y_RI v9_49.toInt 0 (v9_49.toInt - 1) g9_52 → y_Ok (f_X9_judge_L v9_13 v9_14 v9_15 v9_16 v9_17 v9_18 v9_20 v9_21 g9_4 g9_5 g9_6 g9_7 g9_8 g9_9 g9_10 g9_11 g9_12 g9_19 g9_23 g9_24 g9_25 g9_26 g9_27 g9_28 g9_29 g9_30 g9_31 g9_32 v9_0 v9_35 v9_36 v9_42 v9_48 v9_49 v9_50 v9_51 v9_54 v9_55 v9_58 g9_33 g9_34 g9_37 g9_38 g9_39 g9_40 g9_41 g9_43 g9_44 g9_45 g9_46 g9_47 g9_53 g9_56 g9_57 g9_61 (1, l1 / 2, 0, 0, 0, g9_52, g9_59, g9_60)) (fun r => (r.2.1.toInt = 0) ∧ (y_AV 202 r.2.2.2.2.2.2.2.2.2.2.2.2.1) ∧ (y_AV 202 r.2.2.2.2.2.2.2.2.2.2.2.2.2.1) ∧ (y_AV 60600 r.2.2.2.2.2.2.2.2.2.2.2.2.2.2.2.2.2.2.2.2.2.2.2.2.2.2.2.1) ∧ (y_AV 2 r.2.2.2.2.2.2.2.2.2.2.2.2.2.2.2.2.2.2.2.2.2.2.2.2.2.2.2.2.2.2) ∧ (y_NI 1 r.2.2.2.2.2.2.2.2.2.2.2.2.2.2.2.2.1) ∧ (y_Told r.2.2.2.2.2.2.1.toInt r.2.2.2.2.2.2.2.1.toInt r.2.2.2.2.2.2.2.2.1.toInt r.2.2.2.2.1.toInt r.2.2.2.2.2.2.2.2.2.2.2.2.2.2.2.1 r.2.2.2.2.2.2.2.2.2.2.2.2.2.2.2.2.1 r.2.2.2.2.2.2.2.2.2.2.2.2.2.2.2.2.2.2.2.2.1 r.2.2.2.2.2.2.2.2.2.2.2.2.2.2.2.2.2.2.2.2.2.2.2.2.1 r.2.2.2.2.2.2.2.2.2.2.2.2.2.2.2.2.2.2.2.2.2.2.2.2.2.2.2.1))) (k21 : 1 ≤ l1.toInt) (k22 : l1.toInt ≤ 20000) (k23 : 0 ≤ l2.toInt) (k24 : l2.toInt ≤ v9_49.toInt) : y_Ok (f_X9_judge_L v9_13 v9_14 v9_15 v9_16 v9_17 v9_18 v9_20 v9_21 g9_4 g9_5 g9_6 g9_7 g9_8 g9_9 g9_10 g9_11 g9_12 g9_19 g9_23 g9_24 g9_25 g9_26 g9_27 g9_28 g9_29 g9_30 g9_31 g9_32 v9_0 v9_35 v9_36 v9_42 v9_48 v9_49 v9_50 v9_51 v9_54 v9_55 v9_58 g9_33 g9_34 g9_37 g9_38 g9_39 g9_40 g9_41 g9_43 g9_44 g9_45 g9_46 g9_47 g9_53 g9_56 g9_57 g9_61 (2, l1, l2, l3, l4, g9_52, g9_59, g9_60)) (fun r => (r.2.1.toInt = 0) ∧ (y_AV 202 r.2.2.2.2.2.2.2.2.2.2.2.2.1) ∧ (y_AV 202 r.2.2.2.2.2.2.2.2.2.2.2.2.2.1) ∧ (y_AV 60600 r.2.2.2.2.2.2.2.2.2.2.2.2.2.2.2.2.2.2.2.2.2.2.2.2.2.2.2.1) ∧ (y_AV 2 r.2.2.2.2.2.2.2.2.2.2.2.2.2.2.2.2.2.2.2.2.2.2.2.2.2.2.2.2.2.2) ∧ (y_NI 1 r.2.2.2.2.2.2.2.2.2.2.2.2.2.2.2.2.1) ∧ (y_Told r.2.2.2.2.2.2.1.toInt r.2.2.2.2.2.2.2.1.toInt r.2.2.2.2.2.2.2.2.1.toInt r.2.2.2.2.1.toInt r.2.2.2.2.2.2.2.2.2.2.2.2.2.2.2.1 r.2.2.2.2.2.2.2.2.2.2.2.2.2.2.2.2.1 r.2.2.2.2.2.2.2.2.2.2.2.2.2.2.2.2.2.2.2.2.1 r.2.2.2.2.2.2.2.2.2.2.2.2.2.2.2.2.2.2.2.2.2.2.2.2.1 r.2.2.2.2.2.2.2.2.2.2.2.2.2.2.2.2.2.2.2.2.2.2.2.2.2.2.2.1)) := y_X9_judge_L_2_i hx1 hx2 hx38 hx39 hctx k5 k6 k7 k8 k9 k10 k11 hfit hH hlo hst hfr ho61 hn1 (v9_49.toInt - l2.toInt + 1).toNat hord ih1 k21 k22 k23 k24 (by omega)
set_option maxHeartbeats 4000000 in
theorem y_X9_judge_L_1_i {v9_13 : Int32} {v9_14 : Int32} {v9_15 : Int32} {v9_16 : Int32} {v9_17 : Int32} {v9_18 : Int32} {v9_20 : Int32} {v9_21 : Int32} {g9_4 : Nat → Int32} {g9_5 : Nat → Int32} {g9_6 : Nat → Int32} {g9_7 : Nat → Int32} {g9_8 : Nat → Int32} {g9_9 : Nat → Int32} {g9_10 : Nat → Int32} {g9_11 : Nat → Int32} {g9_12 : Nat → Int32} {g9_19 : Nat → Int32} {g9_23 : Nat → Int32} {g9_24 : Nat → Int32} {g9_25 : Nat → Int32} {g9_26 : Nat → Int32} {g9_27 : Nat → Int32} {g9_28 : Nat → Int32} {g9_29 : Nat → Int32} {g9_30 : Nat → Int32} {g9_31 : Nat → Int32} {g9_32 : Nat → Int32} {v9_0 : Int32} {v9_35 : Int32} {v9_36 : Int32} {v9_42 : Int32} {v9_48 : Int32} {v9_49 : Int32} {v9_50 : Int32} {v9_51 : Int32} {v9_54 : Int32} {v9_55 : Int32} {v9_58 : Int32} {g9_33 : Nat → Int32} {g9_34 : Nat → Int32} {g9_37 : Nat → Int32} {g9_38 : Nat → Int32} {g9_39 : Nat → Int32} {g9_40 : Nat → Int32} {g9_41 : Nat → Int32} {g9_43 : Nat → Int32} {g9_44 : Nat → Int32} {g9_45 : Nat → Int32} {g9_46 : Nat → Int32} {g9_47 : Nat → Int32} {g9_53 : Nat → Int32} {g9_56 : Nat → Int32} {g9_57 : Nat → Int32} {g9_61 : Nat → Int32} (hx1 : 1 ≤ v9_42.toInt) (hx2 : v9_42.toInt ≤ 20001) (hx38 : y_BI v9_42.toInt g9_38) (hx39 : y_NI v9_42.toInt g9_39) (hctx : y_RI v9_49.toInt 0 (v9_42.toInt - 1) g9_44) (k5 : 0 ≤ v9_49.toInt) (k6 : v9_49.toInt ≤ 20000) (k7 : v9_0.toInt = 0) (k8 : 0 ≤ v9_50.toInt) (k9 : v9_50.toInt ≤ 200) (k10 : 0 ≤ v9_51.toInt) (k11 : v9_51.toInt ≤ 200) (hfit : y_Fit v9_49.toInt (v9_50.toInt + v9_51.toInt).toNat) (hH : y_H (v9_50.toInt + v9_51.toInt).toNat v9_49.toInt v9_51.toInt g9_57) (hlo : y_AV 202 g9_33) (hst : y_AV 202 g9_34) (hfr : y_AV 60600 g9_57) (ho61 : y_AV 2 g9_61) (hn1 : y_NI 1 g9_39) : ∀ (m : Nat) {l1 : Int32} {l2 : Int32} {l3 : Int32} {l4 : Int32} {g9_52 : Nat → Int32} {g9_59 : Nat → Int32} {g9_60 : Nat → Int32}, (y_RI v9_49.toInt 0 (v9_49.toInt - 1) g9_52) → (0 ≤ l1.toInt) → (l1.toInt ≤ 20000) → (l1.toInt ≤ v9_49.toInt) → l1.toInt < m → y_Ok (f_X9_judge_L v9_13 v9_14 v9_15 v9_16 v9_17 v9_18 v9_20 v9_21 g9_4 g9_5 g9_6 g9_7 g9_8 g9_9 g9_10 g9_11 g9_12 g9_19 g9_23 g9_24 g9_25 g9_26 g9_27 g9_28 g9_29 g9_30 g9_31 g9_32 v9_0 v9_35 v9_36 v9_42 v9_48 v9_49 v9_50 v9_51 v9_54 v9_55 v9_58 g9_33 g9_34 g9_37 g9_38 g9_39 g9_40 g9_41 g9_43 g9_44 g9_45 g9_46 g9_47 g9_53 g9_56 g9_57 g9_61 (1, l1, l2, l3, l4, g9_52, g9_59, g9_60)) (fun r => (r.2.1.toInt = 0) ∧ (y_AV 202 r.2.2.2.2.2.2.2.2.2.2.2.2.1) ∧ (y_AV 202 r.2.2.2.2.2.2.2.2.2.2.2.2.2.1) ∧ (y_AV 60600 r.2.2.2.2.2.2.2.2.2.2.2.2.2.2.2.2.2.2.2.2.2.2.2.2.2.2.2.1) ∧ (y_AV 2 r.2.2.2.2.2.2.2.2.2.2.2.2.2.2.2.2.2.2.2.2.2.2.2.2.2.2.2.2.2.2) ∧ (y_NI 1 r.2.2.2.2.2.2.2.2.2.2.2.2.2.2.2.2.1) ∧ (y_Told r.2.2.2.2.2.2.1.toInt r.2.2.2.2.2.2.2.1.toInt r.2.2.2.2.2.2.2.2.1.toInt r.2.2.2.2.1.toInt r.2.2.2.2.2.2.2.2.2.2.2.2.2.2.2.1 r.2.2.2.2.2.2.2.2.2.2.2.2.2.2.2.2.1 r.2.2.2.2.2.2.2.2.2.2.2.2.2.2.2.2.2.2.2.2.1 r.2.2.2.2.2.2.2.2.2.2.2.2.2.2.2.2.2.2.2.2.2.2.2.2.1 r.2.2.2.2.2.2.2.2.2.2.2.2.2.2.2.2.2.2.2.2.2.2.2.2.2.2.2.1)) := by
  intro m
  induction m with
  | zero => intro l1 l2 l3 l4 g9_52 g9_59 g9_60 hord k20 k21 k22 hm; exfalso; omega
  | succ m ih =>
    intro l1 l2 l3 l4 g9_52 g9_59 g9_60 hord k20 k21 k22 hm
    have hd2 := @y_div l1 2 2 rfl (by decide) (by omega)
    rw [f_X9_judge_L]
    refine y_in (by decide) ?_
    refine y_ip rfl ?_
    refine y_if (fun c1 => ?_) (fun c1 => ?_)
    · skip
      have e2 : (0 : Int32).toInt = 0 := rfl
      have c1' := c1
      rw [Int32.le_iff_toInt_le] at c1'
      refine y_some ?_
      try dsimp only
      refine ⟨?_, ?_, ?_, ?_, ?_, ?_, ?_⟩ <;> (first | with_reducible assumption | omega | ((with_reducible refine y_Vl ?_ ?_) <;> omega) | ((with_reducible refine y_RIm (by with_reducible assumption) ?_ ?_ ?_) <;> omega) | ((with_reducible refine y_RIu (by with_reducible assumption) ?_ ?_ ?_ ?_ ?_) <;> omega) | ((with_reducible refine y_RI0 ?_) <;> omega) | (refine ⟨by omega, by omega, by omega, by omega, by omega, fun _ => ⟨hx1, hx2, hx38, hx39, hctx, hord, hfit, hH⟩⟩) | (intro z1 z2 z3 z4; exact ih (l1 := l1 / 2) (l2 := 0) (l3 := 0) (l4 := 0) (g9_52 := z1) (g9_59 := z2) (g9_60 := z3) z4 (by omega) (by omega) (by omega) (by omega)))
    · skip
      have e3 : (0 : Int32).toInt = 0 := rfl
      have c1' := c1
      rw [Int32.le_iff_toInt_le] at c1'
      refine y_Ok.mono (y_X9_judge_L_2 (l1 := l1) (l2 := l1) (l3 := 0) (l4 := 0) (g9_52 := g9_52) (g9_59 := g9_59) (g9_60 := g9_60) (by omega) (by omega) (by first | with_reducible assumption | omega | ((with_reducible refine y_Vl ?_ ?_) <;> omega) | ((with_reducible refine y_RIm (by with_reducible assumption) ?_ ?_ ?_) <;> omega) | ((with_reducible refine y_RIu (by with_reducible assumption) ?_ ?_ ?_ ?_ ?_) <;> omega) | ((with_reducible refine y_RI0 ?_) <;> omega) | (refine ⟨by omega, by omega, by omega, by omega, by omega, fun _ => ⟨hx1, hx2, hx38, hx39, hctx, hord, hfit, hH⟩⟩) | (intro z1 z2 z3 z4; exact ih (l1 := l1 / 2) (l2 := 0) (l3 := 0) (l4 := 0) (g9_52 := z1) (g9_59 := z2) (g9_60 := z3) z4 (by omega) (by omega) (by omega) (by omega))) (by first | with_reducible assumption | omega | ((with_reducible refine y_Vl ?_ ?_) <;> omega) | ((with_reducible refine y_RIm (by with_reducible assumption) ?_ ?_ ?_) <;> omega) | ((with_reducible refine y_RIu (by with_reducible assumption) ?_ ?_ ?_ ?_ ?_) <;> omega) | ((with_reducible refine y_RI0 ?_) <;> omega) | (refine ⟨by omega, by omega, by omega, by omega, by omega, fun _ => ⟨hx1, hx2, hx38, hx39, hctx, hord, hfit, hH⟩⟩) | (intro z1 z2 z3 z4; exact ih (l1 := l1 / 2) (l2 := 0) (l3 := 0) (l4 := 0) (g9_52 := z1) (g9_59 := z2) (g9_60 := z3) z4 (by omega) (by omega) (by omega) (by omega))) (by first | with_reducible assumption | omega | ((with_reducible refine y_Vl ?_ ?_) <;> omega) | ((with_reducible refine y_RIm (by with_reducible assumption) ?_ ?_ ?_) <;> omega) | ((with_reducible refine y_RIu (by with_reducible assumption) ?_ ?_ ?_ ?_ ?_) <;> omega) | ((with_reducible refine y_RI0 ?_) <;> omega) | (refine ⟨by omega, by omega, by omega, by omega, by omega, fun _ => ⟨hx1, hx2, hx38, hx39, hctx, hord, hfit, hH⟩⟩) | (intro z1 z2 z3 z4; exact ih (l1 := l1 / 2) (l2 := 0) (l3 := 0) (l4 := 0) (g9_52 := z1) (g9_59 := z2) (g9_60 := z3) z4 (by omega) (by omega) (by omega) (by omega))) (by omega) (by omega) (by omega) (by omega) (by omega) (by omega) (by omega) (by first | with_reducible assumption | omega | ((with_reducible refine y_Vl ?_ ?_) <;> omega) | ((with_reducible refine y_RIm (by with_reducible assumption) ?_ ?_ ?_) <;> omega) | ((with_reducible refine y_RIu (by with_reducible assumption) ?_ ?_ ?_ ?_ ?_) <;> omega) | ((with_reducible refine y_RI0 ?_) <;> omega) | (refine ⟨by omega, by omega, by omega, by omega, by omega, fun _ => ⟨hx1, hx2, hx38, hx39, hctx, hord, hfit, hH⟩⟩) | (intro z1 z2 z3 z4; exact ih (l1 := l1 / 2) (l2 := 0) (l3 := 0) (l4 := 0) (g9_52 := z1) (g9_59 := z2) (g9_60 := z3) z4 (by omega) (by omega) (by omega) (by omega))) (by first | with_reducible assumption | omega | ((with_reducible refine y_Vl ?_ ?_) <;> omega) | ((with_reducible refine y_RIm (by with_reducible assumption) ?_ ?_ ?_) <;> omega) | ((with_reducible refine y_RIu (by with_reducible assumption) ?_ ?_ ?_ ?_ ?_) <;> omega) | ((with_reducible refine y_RI0 ?_) <;> omega) | (refine ⟨by omega, by omega, by omega, by omega, by omega, fun _ => ⟨hx1, hx2, hx38, hx39, hctx, hord, hfit, hH⟩⟩) | (intro z1 z2 z3 z4; exact ih (l1 := l1 / 2) (l2 := 0) (l3 := 0) (l4 := 0) (g9_52 := z1) (g9_59 := z2) (g9_60 := z3) z4 (by omega) (by omega) (by omega) (by omega))) (by first | with_reducible assumption | omega | ((with_reducible refine y_Vl ?_ ?_) <;> omega) | ((with_reducible refine y_RIm (by with_reducible assumption) ?_ ?_ ?_) <;> omega) | ((with_reducible refine y_RIu (by with_reducible assumption) ?_ ?_ ?_ ?_ ?_) <;> omega) | ((with_reducible refine y_RI0 ?_) <;> omega) | (refine ⟨by omega, by omega, by omega, by omega, by omega, fun _ => ⟨hx1, hx2, hx38, hx39, hctx, hord, hfit, hH⟩⟩) | (intro z1 z2 z3 z4; exact ih (l1 := l1 / 2) (l2 := 0) (l3 := 0) (l4 := 0) (g9_52 := z1) (g9_59 := z2) (g9_60 := z3) z4 (by omega) (by omega) (by omega) (by omega))) (by first | with_reducible assumption | omega | ((with_reducible refine y_Vl ?_ ?_) <;> omega) | ((with_reducible refine y_RIm (by with_reducible assumption) ?_ ?_ ?_) <;> omega) | ((with_reducible refine y_RIu (by with_reducible assumption) ?_ ?_ ?_ ?_ ?_) <;> omega) | ((with_reducible refine y_RI0 ?_) <;> omega) | (refine ⟨by omega, by omega, by omega, by omega, by omega, fun _ => ⟨hx1, hx2, hx38, hx39, hctx, hord, hfit, hH⟩⟩) | (intro z1 z2 z3 z4; exact ih (l1 := l1 / 2) (l2 := 0) (l3 := 0) (l4 := 0) (g9_52 := z1) (g9_59 := z2) (g9_60 := z3) z4 (by omega) (by omega) (by omega) (by omega))) (by first | with_reducible assumption | omega | ((with_reducible refine y_Vl ?_ ?_) <;> omega) | ((with_reducible refine y_RIm (by with_reducible assumption) ?_ ?_ ?_) <;> omega) | ((with_reducible refine y_RIu (by with_reducible assumption) ?_ ?_ ?_ ?_ ?_) <;> omega) | ((with_reducible refine y_RI0 ?_) <;> omega) | (refine ⟨by omega, by omega, by omega, by omega, by omega, fun _ => ⟨hx1, hx2, hx38, hx39, hctx, hord, hfit, hH⟩⟩) | (intro z1 z2 z3 z4; exact ih (l1 := l1 / 2) (l2 := 0) (l3 := 0) (l4 := 0) (g9_52 := z1) (g9_59 := z2) (g9_60 := z3) z4 (by omega) (by omega) (by omega) (by omega))) (by first | with_reducible assumption | omega | ((with_reducible refine y_Vl ?_ ?_) <;> omega) | ((with_reducible refine y_RIm (by with_reducible assumption) ?_ ?_ ?_) <;> omega) | ((with_reducible refine y_RIu (by with_reducible assumption) ?_ ?_ ?_ ?_ ?_) <;> omega) | ((with_reducible refine y_RI0 ?_) <;> omega) | (refine ⟨by omega, by omega, by omega, by omega, by omega, fun _ => ⟨hx1, hx2, hx38, hx39, hctx, hord, hfit, hH⟩⟩) | (intro z1 z2 z3 z4; exact ih (l1 := l1 / 2) (l2 := 0) (l3 := 0) (l4 := 0) (g9_52 := z1) (g9_59 := z2) (g9_60 := z3) z4 (by omega) (by omega) (by omega) (by omega))) (by first | with_reducible assumption | omega | ((with_reducible refine y_Vl ?_ ?_) <;> omega) | ((with_reducible refine y_RIm (by with_reducible assumption) ?_ ?_ ?_) <;> omega) | ((with_reducible refine y_RIu (by with_reducible assumption) ?_ ?_ ?_ ?_ ?_) <;> omega) | ((with_reducible refine y_RI0 ?_) <;> omega) | (refine ⟨by omega, by omega, by omega, by omega, by omega, fun _ => ⟨hx1, hx2, hx38, hx39, hctx, hord, hfit, hH⟩⟩) | (intro z1 z2 z3 z4; exact ih (l1 := l1 / 2) (l2 := 0) (l3 := 0) (l4 := 0) (g9_52 := z1) (g9_59 := z2) (g9_60 := z3) z4 (by omega) (by omega) (by omega) (by omega))) (by first | with_reducible assumption | omega | ((with_reducible refine y_Vl ?_ ?_) <;> omega) | ((with_reducible refine y_RIm (by with_reducible assumption) ?_ ?_ ?_) <;> omega) | ((with_reducible refine y_RIu (by with_reducible assumption) ?_ ?_ ?_ ?_ ?_) <;> omega) | ((with_reducible refine y_RI0 ?_) <;> omega) | (refine ⟨by omega, by omega, by omega, by omega, by omega, fun _ => ⟨hx1, hx2, hx38, hx39, hctx, hord, hfit, hH⟩⟩) | (intro z1 z2 z3 z4; exact ih (l1 := l1 / 2) (l2 := 0) (l3 := 0) (l4 := 0) (g9_52 := z1) (g9_59 := z2) (g9_60 := z3) z4 (by omega) (by omega) (by omega) (by omega))) (by first | with_reducible assumption | omega | ((with_reducible refine y_Vl ?_ ?_) <;> omega) | ((with_reducible refine y_RIm (by with_reducible assumption) ?_ ?_ ?_) <;> omega) | ((with_reducible refine y_RIu (by with_reducible assumption) ?_ ?_ ?_ ?_ ?_) <;> omega) | ((with_reducible refine y_RI0 ?_) <;> omega) | (refine ⟨by omega, by omega, by omega, by omega, by omega, fun _ => ⟨hx1, hx2, hx38, hx39, hctx, hord, hfit, hH⟩⟩) | (intro z1 z2 z3 z4; exact ih (l1 := l1 / 2) (l2 := 0) (l3 := 0) (l4 := 0) (g9_52 := z1) (g9_59 := z2) (g9_60 := z3) z4 (by omega) (by omega) (by omega) (by omega))) (by omega) (by omega) (by omega) (by omega)) (fun r_t3 h_r_t3 => ?_)
      obtain ⟨h0_r_t3, h1_r_t3, h2_r_t3, h3_r_t3, h4_r_t3, h5_r_t3, h6_r_t3⟩ := h_r_t3
      refine ⟨?_, ?_, ?_, ?_, ?_, ?_, ?_⟩ <;> (first | with_reducible assumption | omega | ((with_reducible refine y_Vl ?_ ?_) <;> omega) | ((with_reducible refine y_RIm (by with_reducible assumption) ?_ ?_ ?_) <;> omega) | ((with_reducible refine y_RIu (by with_reducible assumption) ?_ ?_ ?_ ?_ ?_) <;> omega) | ((with_reducible refine y_RI0 ?_) <;> omega) | (refine ⟨by omega, by omega, by omega, by omega, by omega, fun _ => ⟨hx1, hx2, hx38, hx39, hctx, hord, hfit, hH⟩⟩) | (intro z1 z2 z3 z4; exact ih (l1 := l1 / 2) (l2 := 0) (l3 := 0) (l4 := 0) (g9_52 := z1) (g9_59 := z2) (g9_60 := z3) z4 (by omega) (by omega) (by omega) (by omega)))
theorem y_X9_judge_L_1 {v9_13 : Int32} {v9_14 : Int32} {v9_15 : Int32} {v9_16 : Int32} {v9_17 : Int32} {v9_18 : Int32} {v9_20 : Int32} {v9_21 : Int32} {g9_4 : Nat → Int32} {g9_5 : Nat → Int32} {g9_6 : Nat → Int32} {g9_7 : Nat → Int32} {g9_8 : Nat → Int32} {g9_9 : Nat → Int32} {g9_10 : Nat → Int32} {g9_11 : Nat → Int32} {g9_12 : Nat → Int32} {g9_19 : Nat → Int32} {g9_23 : Nat → Int32} {g9_24 : Nat → Int32} {g9_25 : Nat → Int32} {g9_26 : Nat → Int32} {g9_27 : Nat → Int32} {g9_28 : Nat → Int32} {g9_29 : Nat → Int32} {g9_30 : Nat → Int32} {g9_31 : Nat → Int32} {g9_32 : Nat → Int32} {v9_0 : Int32} {v9_35 : Int32} {v9_36 : Int32} {v9_42 : Int32} {v9_48 : Int32} {v9_49 : Int32} {v9_50 : Int32} {v9_51 : Int32} {v9_54 : Int32} {v9_55 : Int32} {v9_58 : Int32} {g9_33 : Nat → Int32} {g9_34 : Nat → Int32} {g9_37 : Nat → Int32} {g9_38 : Nat → Int32} {g9_39 : Nat → Int32} {g9_40 : Nat → Int32} {g9_41 : Nat → Int32} {g9_43 : Nat → Int32} {g9_44 : Nat → Int32} {g9_45 : Nat → Int32} {g9_46 : Nat → Int32} {g9_47 : Nat → Int32} {g9_53 : Nat → Int32} {g9_56 : Nat → Int32} {g9_57 : Nat → Int32} {g9_61 : Nat → Int32} {l1 : Int32} {l2 : Int32} {l3 : Int32} {l4 : Int32} {g9_52 : Nat → Int32} {g9_59 : Nat → Int32} {g9_60 : Nat → Int32} (hx1 : 1 ≤ v9_42.toInt) (hx2 : v9_42.toInt ≤ 20001) (hx38 : y_BI v9_42.toInt g9_38) (hx39 : y_NI v9_42.toInt g9_39) (hctx : y_RI v9_49.toInt 0 (v9_42.toInt - 1) g9_44) (k5 : 0 ≤ v9_49.toInt) (k6 : v9_49.toInt ≤ 20000) (k7 : v9_0.toInt = 0) (k8 : 0 ≤ v9_50.toInt) (k9 : v9_50.toInt ≤ 200) (k10 : 0 ≤ v9_51.toInt) (k11 : v9_51.toInt ≤ 200) (hfit : y_Fit v9_49.toInt (v9_50.toInt + v9_51.toInt).toNat) (hH : y_H (v9_50.toInt + v9_51.toInt).toNat v9_49.toInt v9_51.toInt g9_57) (hlo : y_AV 202 g9_33) (hst : y_AV 202 g9_34) (hfr : y_AV 60600 g9_57) (ho61 : y_AV 2 g9_61) (hn1 : y_NI 1 g9_39) (hord : y_RI v9_49.toInt 0 (v9_49.toInt - 1) g9_52) (k20 : 0 ≤ l1.toInt) (k21 : l1.toInt ≤ 20000) (k22 : l1.toInt ≤ v9_49.toInt) : y_Ok (f_X9_judge_L v9_13 v9_14 v9_15 v9_16 v9_17 v9_18 v9_20 v9_21 g9_4 g9_5 g9_6 g9_7 g9_8 g9_9 g9_10 g9_11 g9_12 g9_19 g9_23 g9_24 g9_25 g9_26 g9_27 g9_28 g9_29 g9_30 g9_31 g9_32 v9_0 v9_35 v9_36 v9_42 v9_48 v9_49 v9_50 v9_51 v9_54 v9_55 v9_58 g9_33 g9_34 g9_37 g9_38 g9_39 g9_40 g9_41 g9_43 g9_44 g9_45 g9_46 g9_47 g9_53 g9_56 g9_57 g9_61 (1, l1, l2, l3, l4, g9_52, g9_59, g9_60)) (fun r => (r.2.1.toInt = 0) ∧ (y_AV 202 r.2.2.2.2.2.2.2.2.2.2.2.2.1) ∧ (y_AV 202 r.2.2.2.2.2.2.2.2.2.2.2.2.2.1) ∧ (y_AV 60600 r.2.2.2.2.2.2.2.2.2.2.2.2.2.2.2.2.2.2.2.2.2.2.2.2.2.2.2.1) ∧ (y_AV 2 r.2.2.2.2.2.2.2.2.2.2.2.2.2.2.2.2.2.2.2.2.2.2.2.2.2.2.2.2.2.2) ∧ (y_NI 1 r.2.2.2.2.2.2.2.2.2.2.2.2.2.2.2.2.1) ∧ (y_Told r.2.2.2.2.2.2.1.toInt r.2.2.2.2.2.2.2.1.toInt r.2.2.2.2.2.2.2.2.1.toInt r.2.2.2.2.1.toInt r.2.2.2.2.2.2.2.2.2.2.2.2.2.2.2.1 r.2.2.2.2.2.2.2.2.2.2.2.2.2.2.2.2.1 r.2.2.2.2.2.2.2.2.2.2.2.2.2.2.2.2.2.2.2.2.1 r.2.2.2.2.2.2.2.2.2.2.2.2.2.2.2.2.2.2.2.2.2.2.2.2.1 r.2.2.2.2.2.2.2.2.2.2.2.2.2.2.2.2.2.2.2.2.2.2.2.2.2.2.2.1)) := y_X9_judge_L_1_i hx1 hx2 hx38 hx39 hctx k5 k6 k7 k8 k9 k10 k11 hfit hH hlo hst hfr ho61 hn1 (l1.toInt + 1).toNat hord k20 k21 k22 (by omega)
set_option maxHeartbeats 4000000 in
theorem y_X9_judge_L_0_i {v9_13 : Int32} {v9_14 : Int32} {v9_15 : Int32} {v9_16 : Int32} {v9_17 : Int32} {v9_18 : Int32} {v9_20 : Int32} {v9_21 : Int32} {g9_4 : Nat → Int32} {g9_5 : Nat → Int32} {g9_6 : Nat → Int32} {g9_7 : Nat → Int32} {g9_8 : Nat → Int32} {g9_9 : Nat → Int32} {g9_10 : Nat → Int32} {g9_11 : Nat → Int32} {g9_12 : Nat → Int32} {g9_19 : Nat → Int32} {g9_23 : Nat → Int32} {g9_24 : Nat → Int32} {g9_25 : Nat → Int32} {g9_26 : Nat → Int32} {g9_27 : Nat → Int32} {g9_28 : Nat → Int32} {g9_29 : Nat → Int32} {g9_30 : Nat → Int32} {g9_31 : Nat → Int32} {g9_32 : Nat → Int32} {v9_0 : Int32} {v9_35 : Int32} {v9_36 : Int32} {v9_42 : Int32} {v9_48 : Int32} {v9_49 : Int32} {v9_50 : Int32} {v9_51 : Int32} {v9_54 : Int32} {v9_55 : Int32} {v9_58 : Int32} {g9_33 : Nat → Int32} {g9_34 : Nat → Int32} {g9_37 : Nat → Int32} {g9_38 : Nat → Int32} {g9_39 : Nat → Int32} {g9_40 : Nat → Int32} {g9_41 : Nat → Int32} {g9_43 : Nat → Int32} {g9_44 : Nat → Int32} {g9_45 : Nat → Int32} {g9_46 : Nat → Int32} {g9_47 : Nat → Int32} {g9_53 : Nat → Int32} {g9_56 : Nat → Int32} {g9_57 : Nat → Int32} {g9_61 : Nat → Int32} (hx1 : 1 ≤ v9_42.toInt) (hx2 : v9_42.toInt ≤ 20001) (hx38 : y_BI v9_42.toInt g9_38) (hx39 : y_NI v9_42.toInt g9_39) (hctx : y_RI v9_49.toInt 0 (v9_42.toInt - 1) g9_44) (k5 : 0 ≤ v9_49.toInt) (k6 : v9_49.toInt ≤ 20000) (k7 : v9_0.toInt = 0) (k8 : 0 ≤ v9_50.toInt) (k9 : v9_50.toInt ≤ 200) (k10 : 0 ≤ v9_51.toInt) (k11 : v9_51.toInt ≤ 200) (hfit : y_Fit v9_49.toInt (v9_50.toInt + v9_51.toInt).toNat) (hH : y_H (v9_50.toInt + v9_51.toInt).toNat v9_49.toInt v9_51.toInt g9_57) (hlo : y_AV 202 g9_33) (hst : y_AV 202 g9_34) (hfr : y_AV 60600 g9_57) (ho61 : y_AV 2 g9_61) (hn1 : y_NI 1 g9_39) : ∀ (m : Nat) {l1 : Int32} {l2 : Int32} {l3 : Int32} {l4 : Int32} {g9_52 : Nat → Int32} {g9_59 : Nat → Int32} {g9_60 : Nat → Int32}, (y_RI l1.toInt 0 (v9_49.toInt - 1) g9_52) → (0 ≤ l1.toInt) → (l1.toInt ≤ v9_49.toInt) → v9_49.toInt - l1.toInt < m → y_Ok (f_X9_judge_L v9_13 v9_14 v9_15 v9_16 v9_17 v9_18 v9_20 v9_21 g9_4 g9_5 g9_6 g9_7 g9_8 g9_9 g9_10 g9_11 g9_12 g9_19 g9_23 g9_24 g9_25 g9_26 g9_27 g9_28 g9_29 g9_30 g9_31 g9_32 v9_0 v9_35 v9_36 v9_42 v9_48 v9_49 v9_50 v9_51 v9_54 v9_55 v9_58 g9_33 g9_34 g9_37 g9_38 g9_39 g9_40 g9_41 g9_43 g9_44 g9_45 g9_46 g9_47 g9_53 g9_56 g9_57 g9_61 (0, l1, l2, l3, l4, g9_52, g9_59, g9_60)) (fun r => (r.2.1.toInt = 0) ∧ (y_AV 202 r.2.2.2.2.2.2.2.2.2.2.2.2.1) ∧ (y_AV 202 r.2.2.2.2.2.2.2.2.2.2.2.2.2.1) ∧ (y_AV 60600 r.2.2.2.2.2.2.2.2.2.2.2.2.2.2.2.2.2.2.2.2.2.2.2.2.2.2.2.1) ∧ (y_AV 2 r.2.2.2.2.2.2.2.2.2.2.2.2.2.2.2.2.2.2.2.2.2.2.2.2.2.2.2.2.2.2) ∧ (y_NI 1 r.2.2.2.2.2.2.2.2.2.2.2.2.2.2.2.2.1) ∧ (y_Told r.2.2.2.2.2.2.1.toInt r.2.2.2.2.2.2.2.1.toInt r.2.2.2.2.2.2.2.2.1.toInt r.2.2.2.2.1.toInt r.2.2.2.2.2.2.2.2.2.2.2.2.2.2.2.1 r.2.2.2.2.2.2.2.2.2.2.2.2.2.2.2.2.1 r.2.2.2.2.2.2.2.2.2.2.2.2.2.2.2.2.2.2.2.2.1 r.2.2.2.2.2.2.2.2.2.2.2.2.2.2.2.2.2.2.2.2.2.2.2.2.1 r.2.2.2.2.2.2.2.2.2.2.2.2.2.2.2.2.2.2.2.2.2.2.2.2.2.2.2.1)) := by
  intro m
  induction m with
  | zero => intro l1 l2 l3 l4 g9_52 g9_59 g9_60 hord k20 k21 hm; exfalso; omega
  | succ m ih =>
    intro l1 l2 l3 l4 g9_52 g9_59 g9_60 hord k20 k21 hm
    rw [f_X9_judge_L]
    refine y_ip rfl ?_
    refine y_if (fun c1 => ?_) (fun c1 => ?_)
    · skip
      have c1' := c1
      rw [Int32.le_iff_toInt_le] at c1'
      try have e2 := @y_div v9_49 (2 : Int32) 2 rfl (by decide) (by omega)
      have e3 : (0 : Int32).toInt = 0 := rfl
      refine y_Ok.mono (y_X9_judge_L_1 (l1 := (v9_49 / (2 : Int32))) (l2 := 0) (l3 := 0) (l4 := 0) (g9_52 := g9_52) (g9_59 := g9_59) (g9_60 := g9_60) (by omega) (by omega) (by first | with_reducible assumption | omega | ((with_reducible refine y_Vl ?_ ?_) <;> omega) | ((with_reducible refine y_RIm (by with_reducible assumption) ?_ ?_ ?_) <;> omega) | ((with_reducible refine y_RIu (by with_reducible assumption) ?_ ?_ ?_ ?_ ?_) <;> omega) | ((with_reducible refine y_RI0 ?_) <;> omega) | (refine ⟨by omega, by omega, by omega, by omega, by omega, fun _ => ⟨hx1, hx2, hx38, hx39, hctx, hord, hfit, hH⟩⟩)) (by first | with_reducible assumption | omega | ((with_reducible refine y_Vl ?_ ?_) <;> omega) | ((with_reducible refine y_RIm (by with_reducible assumption) ?_ ?_ ?_) <;> omega) | ((with_reducible refine y_RIu (by with_reducible assumption) ?_ ?_ ?_ ?_ ?_) <;> omega) | ((with_reducible refine y_RI0 ?_) <;> omega) | (refine ⟨by omega, by omega, by omega, by omega, by omega, fun _ => ⟨hx1, hx2, hx38, hx39, hctx, hord, hfit, hH⟩⟩)) (by first | with_reducible assumption | omega | ((with_reducible refine y_Vl ?_ ?_) <;> omega) | ((with_reducible refine y_RIm (by with_reducible assumption) ?_ ?_ ?_) <;> omega) | ((with_reducible refine y_RIu (by with_reducible assumption) ?_ ?_ ?_ ?_ ?_) <;> omega) | ((with_reducible refine y_RI0 ?_) <;> omega) | (refine ⟨by omega, by omega, by omega, by omega, by omega, fun _ => ⟨hx1, hx2, hx38, hx39, hctx, hord, hfit, hH⟩⟩)) (by omega) (by omega) (by omega) (by omega) (by omega) (by omega) (by omega) (by first | with_reducible assumption | omega | ((with_reducible refine y_Vl ?_ ?_) <;> omega) | ((with_reducible refine y_RIm (by with_reducible assumption) ?_ ?_ ?_) <;> omega) | ((with_reducible refine y_RIu (by with_reducible assumption) ?_ ?_ ?_ ?_ ?_) <;> omega) | ((with_reducible refine y_RI0 ?_) <;> omega) | (refine ⟨by omega, by omega, by omega, by omega, by omega, fun _ => ⟨hx1, hx2, hx38, hx39, hctx, hord, hfit, hH⟩⟩)) (by first | with_reducible assumption | omega | ((with_reducible refine y_Vl ?_ ?_) <;> omega) | ((with_reducible refine y_RIm (by with_reducible assumption) ?_ ?_ ?_) <;> omega) | ((with_reducible refine y_RIu (by with_reducible assumption) ?_ ?_ ?_ ?_ ?_) <;> omega) | ((with_reducible refine y_RI0 ?_) <;> omega) | (refine ⟨by omega, by omega, by omega, by omega, by omega, fun _ => ⟨hx1, hx2, hx38, hx39, hctx, hord, hfit, hH⟩⟩)) (by first | with_reducible assumption | omega | ((with_reducible refine y_Vl ?_ ?_) <;> omega) | ((with_reducible refine y_RIm (by with_reducible assumption) ?_ ?_ ?_) <;> omega) | ((with_reducible refine y_RIu (by with_reducible assumption) ?_ ?_ ?_ ?_ ?_) <;> omega) | ((with_reducible refine y_RI0 ?_) <;> omega) | (refine ⟨by omega, by omega, by omega, by omega, by omega, fun _ => ⟨hx1, hx2, hx38, hx39, hctx, hord, hfit, hH⟩⟩)) (by first | with_reducible assumption | omega | ((with_reducible refine y_Vl ?_ ?_) <;> omega) | ((with_reducible refine y_RIm (by with_reducible assumption) ?_ ?_ ?_) <;> omega) | ((with_reducible refine y_RIu (by with_reducible assumption) ?_ ?_ ?_ ?_ ?_) <;> omega) | ((with_reducible refine y_RI0 ?_) <;> omega) | (refine ⟨by omega, by omega, by omega, by omega, by omega, fun _ => ⟨hx1, hx2, hx38, hx39, hctx, hord, hfit, hH⟩⟩)) (by first | with_reducible assumption | omega | ((with_reducible refine y_Vl ?_ ?_) <;> omega) | ((with_reducible refine y_RIm (by with_reducible assumption) ?_ ?_ ?_) <;> omega) | ((with_reducible refine y_RIu (by with_reducible assumption) ?_ ?_ ?_ ?_ ?_) <;> omega) | ((with_reducible refine y_RI0 ?_) <;> omega) | (refine ⟨by omega, by omega, by omega, by omega, by omega, fun _ => ⟨hx1, hx2, hx38, hx39, hctx, hord, hfit, hH⟩⟩)) (by first | with_reducible assumption | omega | ((with_reducible refine y_Vl ?_ ?_) <;> omega) | ((with_reducible refine y_RIm (by with_reducible assumption) ?_ ?_ ?_) <;> omega) | ((with_reducible refine y_RIu (by with_reducible assumption) ?_ ?_ ?_ ?_ ?_) <;> omega) | ((with_reducible refine y_RI0 ?_) <;> omega) | (refine ⟨by omega, by omega, by omega, by omega, by omega, fun _ => ⟨hx1, hx2, hx38, hx39, hctx, hord, hfit, hH⟩⟩)) (by first | with_reducible assumption | omega | ((with_reducible refine y_Vl ?_ ?_) <;> omega) | ((with_reducible refine y_RIm (by with_reducible assumption) ?_ ?_ ?_) <;> omega) | ((with_reducible refine y_RIu (by with_reducible assumption) ?_ ?_ ?_ ?_ ?_) <;> omega) | ((with_reducible refine y_RI0 ?_) <;> omega) | (refine ⟨by omega, by omega, by omega, by omega, by omega, fun _ => ⟨hx1, hx2, hx38, hx39, hctx, hord, hfit, hH⟩⟩)) (by first | with_reducible assumption | omega | ((with_reducible refine y_Vl ?_ ?_) <;> omega) | ((with_reducible refine y_RIm (by with_reducible assumption) ?_ ?_ ?_) <;> omega) | ((with_reducible refine y_RIu (by with_reducible assumption) ?_ ?_ ?_ ?_ ?_) <;> omega) | ((with_reducible refine y_RI0 ?_) <;> omega) | (refine ⟨by omega, by omega, by omega, by omega, by omega, fun _ => ⟨hx1, hx2, hx38, hx39, hctx, hord, hfit, hH⟩⟩)) (by omega) (by omega) (by omega)) (fun r_t3 h_r_t3 => ?_)
      obtain ⟨h0_r_t3, h1_r_t3, h2_r_t3, h3_r_t3, h4_r_t3, h5_r_t3, h6_r_t3⟩ := h_r_t3
      refine ⟨?_, ?_, ?_, ?_, ?_, ?_, ?_⟩ <;> (first | with_reducible assumption | omega | ((with_reducible refine y_Vl ?_ ?_) <;> omega) | ((with_reducible refine y_RIm (by with_reducible assumption) ?_ ?_ ?_) <;> omega) | ((with_reducible refine y_RIu (by with_reducible assumption) ?_ ?_ ?_ ?_ ?_) <;> omega) | ((with_reducible refine y_RI0 ?_) <;> omega) | (refine ⟨by omega, by omega, by omega, by omega, by omega, fun _ => ⟨hx1, hx2, hx38, hx39, hctx, hord, hfit, hH⟩⟩))
    · skip
      have c1' := c1
      rw [Int32.le_iff_toInt_le] at c1'
      refine y_gd (y_gdI (by omega) (by omega)) ?_
      try have e5 := @y_addL l1 (1 : Int32) (1) rfl (by omega) (by omega)
      have e6 : (0 : Int32).toInt = 0 := rfl
      try have e7 := @y_cl l1 (by omega)
      try have e8 : y_RI l1.toInt 0 (v9_49.toInt - 1) (upd g9_52 (Int32.toNatClampNeg l1) l1) := y_RIu hord (by omega) (by omega) (by omega) (by omega) (Or.inl (by omega))
      exact ih (l1 := (l1 + 1)) (l2 := 0) (l3 := 0) (l4 := 0) (g9_52 := (upd g9_52 (Int32.toNatClampNeg l1) l1)) (g9_59 := g9_59) (g9_60 := g9_60) (by first | with_reducible assumption | omega | ((with_reducible refine y_Vl ?_ ?_) <;> omega) | ((with_reducible refine y_RIm (by with_reducible assumption) ?_ ?_ ?_) <;> omega) | ((with_reducible refine y_RIu (by with_reducible assumption) ?_ ?_ ?_ ?_ ?_) <;> omega) | ((with_reducible refine y_RI0 ?_) <;> omega) | (refine ⟨by omega, by omega, by omega, by omega, by omega, fun _ => ⟨hx1, hx2, hx38, hx39, hctx, hord, hfit, hH⟩⟩)) (by omega) (by omega) (by omega)
theorem y_X9_judge_L_0 {v9_13 : Int32} {v9_14 : Int32} {v9_15 : Int32} {v9_16 : Int32} {v9_17 : Int32} {v9_18 : Int32} {v9_20 : Int32} {v9_21 : Int32} {g9_4 : Nat → Int32} {g9_5 : Nat → Int32} {g9_6 : Nat → Int32} {g9_7 : Nat → Int32} {g9_8 : Nat → Int32} {g9_9 : Nat → Int32} {g9_10 : Nat → Int32} {g9_11 : Nat → Int32} {g9_12 : Nat → Int32} {g9_19 : Nat → Int32} {g9_23 : Nat → Int32} {g9_24 : Nat → Int32} {g9_25 : Nat → Int32} {g9_26 : Nat → Int32} {g9_27 : Nat → Int32} {g9_28 : Nat → Int32} {g9_29 : Nat → Int32} {g9_30 : Nat → Int32} {g9_31 : Nat → Int32} {g9_32 : Nat → Int32} {v9_0 : Int32} {v9_35 : Int32} {v9_36 : Int32} {v9_42 : Int32} {v9_48 : Int32} {v9_49 : Int32} {v9_50 : Int32} {v9_51 : Int32} {v9_54 : Int32} {v9_55 : Int32} {v9_58 : Int32} {g9_33 : Nat → Int32} {g9_34 : Nat → Int32} {g9_37 : Nat → Int32} {g9_38 : Nat → Int32} {g9_39 : Nat → Int32} {g9_40 : Nat → Int32} {g9_41 : Nat → Int32} {g9_43 : Nat → Int32} {g9_44 : Nat → Int32} {g9_45 : Nat → Int32} {g9_46 : Nat → Int32} {g9_47 : Nat → Int32} {g9_53 : Nat → Int32} {g9_56 : Nat → Int32} {g9_57 : Nat → Int32} {g9_61 : Nat → Int32} {l1 : Int32} {l2 : Int32} {l3 : Int32} {l4 : Int32} {g9_52 : Nat → Int32} {g9_59 : Nat → Int32} {g9_60 : Nat → Int32} (hx1 : 1 ≤ v9_42.toInt) (hx2 : v9_42.toInt ≤ 20001) (hx38 : y_BI v9_42.toInt g9_38) (hx39 : y_NI v9_42.toInt g9_39) (hctx : y_RI v9_49.toInt 0 (v9_42.toInt - 1) g9_44) (k5 : 0 ≤ v9_49.toInt) (k6 : v9_49.toInt ≤ 20000) (k7 : v9_0.toInt = 0) (k8 : 0 ≤ v9_50.toInt) (k9 : v9_50.toInt ≤ 200) (k10 : 0 ≤ v9_51.toInt) (k11 : v9_51.toInt ≤ 200) (hfit : y_Fit v9_49.toInt (v9_50.toInt + v9_51.toInt).toNat) (hH : y_H (v9_50.toInt + v9_51.toInt).toNat v9_49.toInt v9_51.toInt g9_57) (hlo : y_AV 202 g9_33) (hst : y_AV 202 g9_34) (hfr : y_AV 60600 g9_57) (ho61 : y_AV 2 g9_61) (hn1 : y_NI 1 g9_39) (hord : y_RI l1.toInt 0 (v9_49.toInt - 1) g9_52) (k20 : 0 ≤ l1.toInt) (k21 : l1.toInt ≤ v9_49.toInt) : y_Ok (f_X9_judge_L v9_13 v9_14 v9_15 v9_16 v9_17 v9_18 v9_20 v9_21 g9_4 g9_5 g9_6 g9_7 g9_8 g9_9 g9_10 g9_11 g9_12 g9_19 g9_23 g9_24 g9_25 g9_26 g9_27 g9_28 g9_29 g9_30 g9_31 g9_32 v9_0 v9_35 v9_36 v9_42 v9_48 v9_49 v9_50 v9_51 v9_54 v9_55 v9_58 g9_33 g9_34 g9_37 g9_38 g9_39 g9_40 g9_41 g9_43 g9_44 g9_45 g9_46 g9_47 g9_53 g9_56 g9_57 g9_61 (0, l1, l2, l3, l4, g9_52, g9_59, g9_60)) (fun r => (r.2.1.toInt = 0) ∧ (y_AV 202 r.2.2.2.2.2.2.2.2.2.2.2.2.1) ∧ (y_AV 202 r.2.2.2.2.2.2.2.2.2.2.2.2.2.1) ∧ (y_AV 60600 r.2.2.2.2.2.2.2.2.2.2.2.2.2.2.2.2.2.2.2.2.2.2.2.2.2.2.2.1) ∧ (y_AV 2 r.2.2.2.2.2.2.2.2.2.2.2.2.2.2.2.2.2.2.2.2.2.2.2.2.2.2.2.2.2.2) ∧ (y_NI 1 r.2.2.2.2.2.2.2.2.2.2.2.2.2.2.2.2.1) ∧ (y_Told r.2.2.2.2.2.2.1.toInt r.2.2.2.2.2.2.2.1.toInt r.2.2.2.2.2.2.2.2.1.toInt r.2.2.2.2.1.toInt r.2.2.2.2.2.2.2.2.2.2.2.2.2.2.2.1 r.2.2.2.2.2.2.2.2.2.2.2.2.2.2.2.2.1 r.2.2.2.2.2.2.2.2.2.2.2.2.2.2.2.2.2.2.2.2.1 r.2.2.2.2.2.2.2.2.2.2.2.2.2.2.2.2.2.2.2.2.2.2.2.2.1 r.2.2.2.2.2.2.2.2.2.2.2.2.2.2.2.2.2.2.2.2.2.2.2.2.2.2.2.1)) := y_X9_judge_L_0_i hx1 hx2 hx38 hx39 hctx k5 k6 k7 k8 k9 k10 k11 hfit hH hlo hst hfr ho61 hn1 (v9_49.toInt - l1.toInt + 1).toNat hord k20 k21 (by omega)
set_option maxHeartbeats 4000000 in
theorem y_X9_judge {v9_0 : Int32} {v9_13 : Int32} {v9_14 : Int32} {v9_15 : Int32} {v9_16 : Int32} {v9_17 : Int32} {v9_18 : Int32} {v9_20 : Int32} {v9_21 : Int32} {v9_35 : Int32} {v9_36 : Int32} {v9_42 : Int32} {v9_48 : Int32} {v9_49 : Int32} {v9_50 : Int32} {v9_51 : Int32} {v9_54 : Int32} {v9_55 : Int32} {v9_58 : Int32} {g9_4 : Nat → Int32} {g9_5 : Nat → Int32} {g9_6 : Nat → Int32} {g9_7 : Nat → Int32} {g9_8 : Nat → Int32} {g9_9 : Nat → Int32} {g9_10 : Nat → Int32} {g9_11 : Nat → Int32} {g9_12 : Nat → Int32} {g9_19 : Nat → Int32} {g9_23 : Nat → Int32} {g9_24 : Nat → Int32} {g9_25 : Nat → Int32} {g9_26 : Nat → Int32} {g9_27 : Nat → Int32} {g9_28 : Nat → Int32} {g9_29 : Nat → Int32} {g9_30 : Nat → Int32} {g9_31 : Nat → Int32} {g9_32 : Nat → Int32} {g9_33 : Nat → Int32} {g9_34 : Nat → Int32} {g9_37 : Nat → Int32} {g9_38 : Nat → Int32} {g9_39 : Nat → Int32} {g9_40 : Nat → Int32} {g9_41 : Nat → Int32} {g9_43 : Nat → Int32} {g9_44 : Nat → Int32} {g9_45 : Nat → Int32} {g9_46 : Nat → Int32} {g9_47 : Nat → Int32} {g9_52 : Nat → Int32} {g9_53 : Nat → Int32} {g9_56 : Nat → Int32} {g9_57 : Nat → Int32} {g9_59 : Nat → Int32} {g9_60 : Nat → Int32} {g9_61 : Nat → Int32} (k0 : 0 ≤ v9_16.toInt) (k1 : v9_16.toInt ≤ 200) (k2 : 0 ≤ v9_17.toInt) (k3 : v9_17.toInt ≤ 200) (k4 : 0 ≤ v9_13.toInt) (k5 : v9_13.toInt ≤ 199) (k6 : y_Up g9_4) (k7 : y_Rg 100 0 199 g9_6) (k8 : y_ATy 100 g9_7) (k9 : y_Rs v9_15) (k10 : y_Rg 100 0 199 g9_8) (k11 : y_ARs 100 g9_9) (k12 : y_Rg 100 0 20 g9_10) (k13 : y_ATy 2000 g9_11) (hI : y_AIn g9_23 g9_24 g9_25) (k15 : v9_20.toInt ≤ 1000) (k16 : 0 ≤ v9_21.toInt) (k17 : v9_21.toInt ≤ 50) (hTA : y_TA v9_20.toInt g9_26 g9_27) (hTO : y_Rg 50000 0 2147483647 g9_28) (hRT : y_Rg 50 (-1) 199 g9_32) (k21 : 0 ≤ v9_20.toInt) (k22 : y_Rg 50 0 2147483647 g9_31) (k23 : y_ATy 20 g9_19) (k24 : 0 ≤ v9_18.toInt) (k25 : v9_18.toInt ≤ 20) (hlo : y_AV 202 g9_33) (hst : y_AV 202 g9_34) (hfr : y_AV 60600 g9_57) (ho61 : y_AV 2 g9_61) (hn1 : y_NI 1 g9_39) : y_Ok (f_X9_judge v9_0 v9_13 v9_14 v9_15 v9_16 v9_17 v9_18 v9_20 v9_21 v9_35 v9_36 v9_42 v9_48 v9_49 v9_50 v9_51 v9_54 v9_55 v9_58 g9_4 g9_5 g9_6 g9_7 g9_8 g9_9 g9_10 g9_11 g9_12 g9_19 g9_23 g9_24 g9_25 g9_26 g9_27 g9_28 g9_29 g9_30 g9_31 g9_32 g9_33 g9_34 g9_37 g9_38 g9_39 g9_40 g9_41 g9_43 g9_44 g9_45 g9_46 g9_47 g9_52 g9_53 g9_56 g9_57 g9_59 g9_60 g9_61) (fun r => (r.2.1.toInt = 0) ∧ (y_AV 202 r.2.2.2.2.2.2.2.2.2.2.2.2.1) ∧ (y_AV 202 r.2.2.2.2.2.2.2.2.2.2.2.2.2.1) ∧ (y_AV 60600 r.2.2.2.2.2.2.2.2.2.2.2.2.2.2.2.2.2.2.2.2.2.2.2.2.2.2.2.1) ∧ (y_AV 2 r.2.2.2.2.2.2.2.2.2.2.2.2.2.2.2.2.2.2.2.2.2.2.2.2.2.2.2.2.2.2) ∧ (y_NI 1 r.2.2.2.2.2.2.2.2.2.2.2.2.2.2.2.2.1) ∧ (y_Told r.2.2.2.2.2.2.1.toInt r.2.2.2.2.2.2.2.1.toInt r.2.2.2.2.2.2.2.2.1.toInt r.2.2.2.2.1.toInt r.2.2.2.2.2.2.2.2.2.2.2.2.2.2.2.1 r.2.2.2.2.2.2.2.2.2.2.2.2.2.2.2.2.1 r.2.2.2.2.2.2.2.2.2.2.2.2.2.2.2.2.2.2.2.2.1 r.2.2.2.2.2.2.2.2.2.2.2.2.2.2.2.2.2.2.2.2.2.2.2.2.1 r.2.2.2.2.2.2.2.2.2.2.2.2.2.2.2.2.2.2.2.2.2.2.2.2.2.2.2.1)) := by
  have hop := y_AIn.op hI
  unfold f_X9_judge
  refine y_bi (y_X9_formed (by omega) (by omega) (by omega) (by omega) (by omega) (by omega) (by first | with_reducible assumption | omega | ((with_reducible refine y_Vl ?_ ?_) <;> omega) | ((with_reducible refine y_RIm (by with_reducible assumption) ?_ ?_ ?_) <;> omega) | ((with_reducible refine y_RIu (by with_reducible assumption) ?_ ?_ ?_ ?_ ?_) <;> omega) | ((with_reducible refine y_RI0 ?_) <;> omega) | (refine ⟨by omega, by omega, by omega, by omega, by omega, fun _ => ⟨hx1, hx2, hx38, hx39, hctx, hord, hfit, hH⟩⟩) | rfl | ((with_reducible refine y_Told0 ?_ ?_ ?_ ?_ ?_) <;> omega)) (by first | with_reducible assumption | omega | ((with_reducible refine y_Vl ?_ ?_) <;> omega) | ((with_reducible refine y_RIm (by with_reducible assumption) ?_ ?_ ?_) <;> omega) | ((with_reducible refine y_RIu (by with_reducible assumption) ?_ ?_ ?_ ?_ ?_) <;> omega) | ((with_reducible refine y_RI0 ?_) <;> omega) | (refine ⟨by omega, by omega, by omega, by omega, by omega, fun _ => ⟨hx1, hx2, hx38, hx39, hctx, hord, hfit, hH⟩⟩) | rfl | ((with_reducible refine y_Told0 ?_ ?_ ?_ ?_ ?_) <;> omega)) (by first | with_reducible assumption | omega | ((with_reducible refine y_Vl ?_ ?_) <;> omega) | ((with_reducible refine y_RIm (by with_reducible assumption) ?_ ?_ ?_) <;> omega) | ((with_reducible refine y_RIu (by with_reducible assumption) ?_ ?_ ?_ ?_ ?_) <;> omega) | ((with_reducible refine y_RI0 ?_) <;> omega) | (refine ⟨by omega, by omega, by omega, by omega, by omega, fun _ => ⟨hx1, hx2, hx38, hx39, hctx, hord, hfit, hH⟩⟩) | rfl | ((with_reducible refine y_Told0 ?_ ?_ ?_ ?_ ?_) <;> omega)) (by first | with_reducible assumption | omega | ((with_reducible refine y_Vl ?_ ?_) <;> omega) | ((with_reducible refine y_RIm (by with_reducible assumption) ?_ ?_ ?_) <;> omega) | ((with_reducible refine y_RIu (by with_reducible assumption) ?_ ?_ ?_ ?_ ?_) <;> omega) | ((with_reducible refine y_RI0 ?_) <;> omega) | (refine ⟨by omega, by omega, by omega, by omega, by omega, fun _ => ⟨hx1, hx2, hx38, hx39, hctx, hord, hfit, hH⟩⟩) | rfl | ((with_reducible refine y_Told0 ?_ ?_ ?_ ?_ ?_) <;> omega)) (by omega) (by omega)) (fun r_14 h_r_14 => ?_)
  have h0_r_14 : r_14.toInt = 0 ∨ ((1 ≤ v9_20.toInt) ∧ (y_Fm v9_20.toInt v9_16.toInt v9_20.toInt g9_23 g9_24) ∧ (y_Sw v9_20.toInt v9_20.toInt g9_23 g9_26 g9_27 g9_28) ∧ (y_RI v9_21.toInt 0 (v9_20.toInt - 1) g9_31)) := h_r_14
  refine y_if (fun c1 => ?_) (fun c1 => ?_)
  · skip
    have e2 : (0 : Int32).toInt = 0 := rfl
    have c1' := c1
    rw [← Int32.toInt_inj] at c1'
    have e3 : (-1 : Int32).toInt = -1 := rfl
    refine y_some ?_
    try dsimp only
    refine ⟨?_, ?_, ?_, ?_, ?_, ?_, ?_⟩ <;> (first | with_reducible assumption | omega | ((with_reducible refine y_Vl ?_ ?_) <;> omega) | ((with_reducible refine y_RIm (by with_reducible assumption) ?_ ?_ ?_) <;> omega) | ((with_reducible refine y_RIu (by with_reducible assumption) ?_ ?_ ?_ ?_ ?_) <;> omega) | ((with_reducible refine y_RI0 ?_) <;> omega) | (refine ⟨by omega, by omega, by omega, by omega, by omega, fun _ => ⟨hx1, hx2, hx38, hx39, hctx, hord, hfit, hH⟩⟩) | rfl | ((with_reducible refine y_Told0 ?_ ?_ ?_ ?_ ?_) <;> omega))
  · skip
    have e4 : (0 : Int32).toInt = 0 := rfl
    have c1' := c1
    rw [← Int32.toInt_inj] at c1'
    obtain ⟨g0_r_14, g1_r_14, g2_r_14, g3_r_14⟩ := y_ok h0_r_14 c1'
    refine y_bi (y_X9_flows (C := (v9_16.toInt + v9_17.toInt).toNat) (L := 60600) (by omega) (by omega) (by omega) (by omega) (by omega) (by omega) (by first | with_reducible assumption | omega | ((with_reducible refine y_Vl ?_ ?_) <;> omega) | ((with_reducible refine y_RIm (by with_reducible assumption) ?_ ?_ ?_) <;> omega) | ((with_reducible refine y_RIu (by with_reducible assumption) ?_ ?_ ?_ ?_ ?_) <;> omega) | ((with_reducible refine y_RI0 ?_) <;> omega) | (refine ⟨by omega, by omega, by omega, by omega, by omega, fun _ => ⟨hx1, hx2, hx38, hx39, hctx, hord, hfit, hH⟩⟩) | rfl | ((with_reducible refine y_Told0 ?_ ?_ ?_ ?_ ?_) <;> omega)) (by first | with_reducible assumption | omega | ((with_reducible refine y_Vl ?_ ?_) <;> omega) | ((with_reducible refine y_RIm (by with_reducible assumption) ?_ ?_ ?_) <;> omega) | ((with_reducible refine y_RIu (by with_reducible assumption) ?_ ?_ ?_ ?_ ?_) <;> omega) | ((with_reducible refine y_RI0 ?_) <;> omega) | (refine ⟨by omega, by omega, by omega, by omega, by omega, fun _ => ⟨hx1, hx2, hx38, hx39, hctx, hord, hfit, hH⟩⟩) | rfl | ((with_reducible refine y_Told0 ?_ ?_ ?_ ?_ ?_) <;> omega)) (by first | with_reducible assumption | omega | ((with_reducible refine y_Vl ?_ ?_) <;> omega) | ((with_reducible refine y_RIm (by with_reducible assumption) ?_ ?_ ?_) <;> omega) | ((with_reducible refine y_RIu (by with_reducible assumption) ?_ ?_ ?_ ?_ ?_) <;> omega) | ((with_reducible refine y_RI0 ?_) <;> omega) | (refine ⟨by omega, by omega, by omega, by omega, by omega, fun _ => ⟨hx1, hx2, hx38, hx39, hctx, hord, hfit, hH⟩⟩) | rfl | ((with_reducible refine y_Told0 ?_ ?_ ?_ ?_ ?_) <;> omega)) (by first | with_reducible assumption | omega | ((with_reducible refine y_Vl ?_ ?_) <;> omega) | ((with_reducible refine y_RIm (by with_reducible assumption) ?_ ?_ ?_) <;> omega) | ((with_reducible refine y_RIu (by with_reducible assumption) ?_ ?_ ?_ ?_ ?_) <;> omega) | ((with_reducible refine y_RI0 ?_) <;> omega) | (refine ⟨by omega, by omega, by omega, by omega, by omega, fun _ => ⟨hx1, hx2, hx38, hx39, hctx, hord, hfit, hH⟩⟩) | rfl | ((with_reducible refine y_Told0 ?_ ?_ ?_ ?_ ?_) <;> omega)) (by first | with_reducible assumption | omega | ((with_reducible refine y_Vl ?_ ?_) <;> omega) | ((with_reducible refine y_RIm (by with_reducible assumption) ?_ ?_ ?_) <;> omega) | ((with_reducible refine y_RIu (by with_reducible assumption) ?_ ?_ ?_ ?_ ?_) <;> omega) | ((with_reducible refine y_RI0 ?_) <;> omega) | (refine ⟨by omega, by omega, by omega, by omega, by omega, fun _ => ⟨hx1, hx2, hx38, hx39, hctx, hord, hfit, hH⟩⟩) | rfl | ((with_reducible refine y_Told0 ?_ ?_ ?_ ?_ ?_) <;> omega)) (by first | with_reducible assumption | omega | ((with_reducible refine y_Vl ?_ ?_) <;> omega) | ((with_reducible refine y_RIm (by with_reducible assumption) ?_ ?_ ?_) <;> omega) | ((with_reducible refine y_RIu (by with_reducible assumption) ?_ ?_ ?_ ?_ ?_) <;> omega) | ((with_reducible refine y_RI0 ?_) <;> omega) | (refine ⟨by omega, by omega, by omega, by omega, by omega, fun _ => ⟨hx1, hx2, hx38, hx39, hctx, hord, hfit, hH⟩⟩) | rfl | ((with_reducible refine y_Told0 ?_ ?_ ?_ ?_ ?_) <;> omega)) (by first | with_reducible assumption | omega | ((with_reducible refine y_Vl ?_ ?_) <;> omega) | ((with_reducible refine y_RIm (by with_reducible assumption) ?_ ?_ ?_) <;> omega) | ((with_reducible refine y_RIu (by with_reducible assumption) ?_ ?_ ?_ ?_ ?_) <;> omega) | ((with_reducible refine y_RI0 ?_) <;> omega) | (refine ⟨by omega, by omega, by omega, by omega, by omega, fun _ => ⟨hx1, hx2, hx38, hx39, hctx, hord, hfit, hH⟩⟩) | rfl | ((with_reducible refine y_Told0 ?_ ?_ ?_ ?_ ?_) <;> omega)) (by first | with_reducible assumption | omega | ((with_reducible refine y_Vl ?_ ?_) <;> omega) | ((with_reducible refine y_RIm (by with_reducible assumption) ?_ ?_ ?_) <;> omega) | ((with_reducible refine y_RIu (by with_reducible assumption) ?_ ?_ ?_ ?_ ?_) <;> omega) | ((with_reducible refine y_RI0 ?_) <;> omega) | (refine ⟨by omega, by omega, by omega, by omega, by omega, fun _ => ⟨hx1, hx2, hx38, hx39, hctx, hord, hfit, hH⟩⟩) | rfl | ((with_reducible refine y_Told0 ?_ ?_ ?_ ?_ ?_) <;> omega)) (by first | with_reducible assumption | omega | ((with_reducible refine y_Vl ?_ ?_) <;> omega) | ((with_reducible refine y_RIm (by with_reducible assumption) ?_ ?_ ?_) <;> omega) | ((with_reducible refine y_RIu (by with_reducible assumption) ?_ ?_ ?_ ?_ ?_) <;> omega) | ((with_reducible refine y_RI0 ?_) <;> omega) | (refine ⟨by omega, by omega, by omega, by omega, by omega, fun _ => ⟨hx1, hx2, hx38, hx39, hctx, hord, hfit, hH⟩⟩) | rfl | ((with_reducible refine y_Told0 ?_ ?_ ?_ ?_ ?_) <;> omega)) (by omega) (by omega) (by omega) (by omega) (by omega) (by first | with_reducible assumption | omega | ((with_reducible refine y_Vl ?_ ?_) <;> omega) | ((with_reducible refine y_RIm (by with_reducible assumption) ?_ ?_ ?_) <;> omega) | ((with_reducible refine y_RIu (by with_reducible assumption) ?_ ?_ ?_ ?_ ?_) <;> omega) | ((with_reducible refine y_RI0 ?_) <;> omega) | (refine ⟨by omega, by omega, by omega, by omega, by omega, fun _ => ⟨hx1, hx2, hx38, hx39, hctx, hord, hfit, hH⟩⟩) | rfl | ((with_reducible refine y_Told0 ?_ ?_ ?_ ?_ ?_) <;> omega)) (by first | with_reducible assumption | omega | ((with_reducible refine y_Vl ?_ ?_) <;> omega) | ((with_reducible refine y_RIm (by with_reducible assumption) ?_ ?_ ?_) <;> omega) | ((with_reducible refine y_RIu (by with_reducible assumption) ?_ ?_ ?_ ?_ ?_) <;> omega) | ((with_reducible refine y_RI0 ?_) <;> omega) | (refine ⟨by omega, by omega, by omega, by omega, by omega, fun _ => ⟨hx1, hx2, hx38, hx39, hctx, hord, hfit, hH⟩⟩) | rfl | ((with_reducible refine y_Told0 ?_ ?_ ?_ ?_ ?_) <;> omega)) (by first | with_reducible assumption | omega | ((with_reducible refine y_Vl ?_ ?_) <;> omega) | ((with_reducible refine y_RIm (by with_reducible assumption) ?_ ?_ ?_) <;> omega) | ((with_reducible refine y_RIu (by with_reducible assumption) ?_ ?_ ?_ ?_ ?_) <;> omega) | ((with_reducible refine y_RI0 ?_) <;> omega) | (refine ⟨by omega, by omega, by omega, by omega, by omega, fun _ => ⟨hx1, hx2, hx38, hx39, hctx, hord, hfit, hH⟩⟩) | rfl | ((with_reducible refine y_Told0 ?_ ?_ ?_ ?_ ?_) <;> omega)) (by first | with_reducible assumption | omega | ((with_reducible refine y_Vl ?_ ?_) <;> omega) | ((with_reducible refine y_RIm (by with_reducible assumption) ?_ ?_ ?_) <;> omega) | ((with_reducible refine y_RIu (by with_reducible assumption) ?_ ?_ ?_ ?_ ?_) <;> omega) | ((with_reducible refine y_RI0 ?_) <;> omega) | (refine ⟨by omega, by omega, by omega, by omega, by omega, fun _ => ⟨hx1, hx2, hx38, hx39, hctx, hord, hfit, hH⟩⟩) | rfl | ((with_reducible refine y_Told0 ?_ ?_ ?_ ?_ ?_) <;> omega)) (by first | with_reducible assumption | omega | ((with_reducible refine y_Vl ?_ ?_) <;> omega) | ((with_reducible refine y_RIm (by with_reducible assumption) ?_ ?_ ?_) <;> omega) | ((with_reducible refine y_RIu (by with_reducible assumption) ?_ ?_ ?_ ?_ ?_) <;> omega) | ((with_reducible refine y_RI0 ?_) <;> omega) | (refine ⟨by omega, by omega, by omega, by omega, by omega, fun _ => ⟨hx1, hx2, hx38, hx39, hctx, hord, hfit, hH⟩⟩) | rfl | ((with_reducible refine y_Told0 ?_ ?_ ?_ ?_ ?_) <;> omega)) (by first | with_reducible assumption | omega | ((with_reducible refine y_Vl ?_ ?_) <;> omega) | ((with_reducible refine y_RIm (by with_reducible assumption) ?_ ?_ ?_) <;> omega) | ((with_reducible refine y_RIu (by with_reducible assumption) ?_ ?_ ?_ ?_ ?_) <;> omega) | ((with_reducible refine y_RI0 ?_) <;> omega) | (refine ⟨by omega, by omega, by omega, by omega, by omega, fun _ => ⟨hx1, hx2, hx38, hx39, hctx, hord, hfit, hH⟩⟩) | rfl | ((with_reducible refine y_Told0 ?_ ?_ ?_ ?_ ?_) <;> omega)) (by first | with_reducible assumption | omega | ((with_reducible refine y_Vl ?_ ?_) <;> omega) | ((with_reducible refine y_RIm (by with_reducible assumption) ?_ ?_ ?_) <;> omega) | ((with_reducible refine y_RIu (by with_reducible assumption) ?_ ?_ ?_ ?_ ?_) <;> omega) | ((with_reducible refine y_RI0 ?_) <;> omega) | (refine ⟨by omega, by omega, by omega, by omega, by omega, fun _ => ⟨hx1, hx2, hx38, hx39, hctx, hord, hfit, hH⟩⟩) | rfl | ((with_reducible refine y_Told0 ?_ ?_ ?_ ?_ ?_) <;> omega)) (by first | with_reducible assumption | omega | ((with_reducible refine y_Vl ?_ ?_) <;> omega) | ((with_reducible refine y_RIm (by with_reducible assumption) ?_ ?_ ?_) <;> omega) | ((with_reducible refine y_RIu (by with_reducible assumption) ?_ ?_ ?_ ?_ ?_) <;> omega) | ((with_reducible refine y_RI0 ?_) <;> omega) | (refine ⟨by omega, by omega, by omega, by omega, by omega, fun _ => ⟨hx1, hx2, hx38, hx39, hctx, hord, hfit, hH⟩⟩) | rfl | ((with_reducible refine y_Told0 ?_ ?_ ?_ ?_ ?_) <;> omega)) (by omega) (by omega) (by first | with_reducible assumption | omega | ((with_reducible refine y_Vl ?_ ?_) <;> omega) | ((with_reducible refine y_RIm (by with_reducible assumption) ?_ ?_ ?_) <;> omega) | ((with_reducible refine y_RIu (by with_reducible assumption) ?_ ?_ ?_ ?_ ?_) <;> omega) | ((with_reducible refine y_RI0 ?_) <;> omega) | (refine ⟨by omega, by omega, by omega, by omega, by omega, fun _ => ⟨hx1, hx2, hx38, hx39, hctx, hord, hfit, hH⟩⟩) | rfl | ((with_reducible refine y_Told0 ?_ ?_ ?_ ?_ ?_) <;> omega)) (by first | with_reducible assumption | omega | ((with_reducible refine y_Vl ?_ ?_) <;> omega) | ((with_reducible refine y_RIm (by with_reducible assumption) ?_ ?_ ?_) <;> omega) | ((with_reducible refine y_RIu (by with_reducible assumption) ?_ ?_ ?_ ?_ ?_) <;> omega) | ((with_reducible refine y_RI0 ?_) <;> omega) | (refine ⟨by omega, by omega, by omega, by omega, by omega, fun _ => ⟨hx1, hx2, hx38, hx39, hctx, hord, hfit, hH⟩⟩) | rfl | ((with_reducible refine y_Told0 ?_ ?_ ?_ ?_ ?_) <;> omega)) (by first | with_reducible assumption | omega | ((with_reducible refine y_Vl ?_ ?_) <;> omega) | ((with_reducible refine y_RIm (by with_reducible assumption) ?_ ?_ ?_) <;> omega) | ((with_reducible refine y_RIu (by with_reducible assumption) ?_ ?_ ?_ ?_ ?_) <;> omega) | ((with_reducible refine y_RI0 ?_) <;> omega) | (refine ⟨by omega, by omega, by omega, by omega, by omega, fun _ => ⟨hx1, hx2, hx38, hx39, hctx, hord, hfit, hH⟩⟩) | rfl | ((with_reducible refine y_Told0 ?_ ?_ ?_ ?_ ?_) <;> omega)) (by first | with_reducible assumption | omega | ((with_reducible refine y_Vl ?_ ?_) <;> omega) | ((with_reducible refine y_RIm (by with_reducible assumption) ?_ ?_ ?_) <;> omega) | ((with_reducible refine y_RIu (by with_reducible assumption) ?_ ?_ ?_ ?_ ?_) <;> omega) | ((with_reducible refine y_RI0 ?_) <;> omega) | (refine ⟨by omega, by omega, by omega, by omega, by omega, fun _ => ⟨hx1, hx2, hx38, hx39, hctx, hord, hfit, hH⟩⟩) | rfl | ((with_reducible refine y_Told0 ?_ ?_ ?_ ?_ ?_) <;> omega)) (by first | with_reducible assumption | omega | ((with_reducible refine y_Vl ?_ ?_) <;> omega) | ((with_reducible refine y_RIm (by with_reducible assumption) ?_ ?_ ?_) <;> omega) | ((with_reducible refine y_RIu (by with_reducible assumption) ?_ ?_ ?_ ?_ ?_) <;> omega) | ((with_reducible refine y_RI0 ?_) <;> omega) | (refine ⟨by omega, by omega, by omega, by omega, by omega, fun _ => ⟨hx1, hx2, hx38, hx39, hctx, hord, hfit, hH⟩⟩) | rfl | ((with_reducible refine y_Told0 ?_ ?_ ?_ ?_ ?_) <;> omega))) (fun r_16 h_r_16 => ?_)
    obtain ⟨h0_r_16, h1_r_16, h2_r_16, h3_r_16, h4_r_16, h5_r_16⟩ := h_r_16
    refine y_if (fun c5 => ?_) (fun c5 => ?_)
    · skip
      have c5' := c5
      rw [← Int32.toInt_inj] at c5'
      have e6 : (-1 : Int32).toInt = -1 := rfl
      refine y_some ?_
      try dsimp only
      refine ⟨?_, ?_, ?_, ?_, ?_, ?_, ?_⟩ <;> (first | with_reducible assumption | omega | ((with_reducible refine y_Vl ?_ ?_) <;> omega) | ((with_reducible refine y_RIm (by with_reducible assumption) ?_ ?_ ?_) <;> omega) | ((with_reducible refine y_RIu (by with_reducible assumption) ?_ ?_ ?_ ?_ ?_) <;> omega) | ((with_reducible refine y_RI0 ?_) <;> omega) | (refine ⟨by omega, by omega, by omega, by omega, by omega, fun _ => ⟨hx1, hx2, hx38, hx39, hctx, hord, hfit, hH⟩⟩) | rfl | ((with_reducible refine y_Told0 ?_ ?_ ?_ ?_ ?_) <;> omega))
    · skip
      have c5' := c5
      rw [← Int32.toInt_inj] at c5'
      obtain ⟨g0_r_16, g1_r_16, g2_r_16, g3_r_16, g4_r_16, g5_r_16, g6_r_16, g7_r_16, g8_r_16, g9_r_16⟩ := y_ok h5_r_16 c5'
      have hle9 := y_Fit.le g1_r_16 (by omega)
      refine y_Ok.mono (y_X9_judge_L_0 (l1 := 0) (l2 := 0) (l3 := 0) (l4 := 0) (g9_52 := g9_52) (g9_59 := g9_59) (g9_60 := g9_60) (by omega) (by omega) (by first | with_reducible assumption | omega | ((with_reducible refine y_Vl ?_ ?_) <;> omega) | ((with_reducible refine y_RIm (by with_reducible assumption) ?_ ?_ ?_) <;> omega) | ((with_reducible refine y_RIu (by with_reducible assumption) ?_ ?_ ?_ ?_ ?_) <;> omega) | ((with_reducible refine y_RI0 ?_) <;> omega) | (refine ⟨by omega, by omega, by omega, by omega, by omega, fun _ => ⟨hx1, hx2, hx38, hx39, hctx, hord, hfit, hH⟩⟩) | rfl | ((with_reducible refine y_Told0 ?_ ?_ ?_ ?_ ?_) <;> omega)) (by first | with_reducible assumption | omega | ((with_reducible refine y_Vl ?_ ?_) <;> omega) | ((with_reducible refine y_RIm (by with_reducible assumption) ?_ ?_ ?_) <;> omega) | ((with_reducible refine y_RIu (by with_reducible assumption) ?_ ?_ ?_ ?_ ?_) <;> omega) | ((with_reducible refine y_RI0 ?_) <;> omega) | (refine ⟨by omega, by omega, by omega, by omega, by omega, fun _ => ⟨hx1, hx2, hx38, hx39, hctx, hord, hfit, hH⟩⟩) | rfl | ((with_reducible refine y_Told0 ?_ ?_ ?_ ?_ ?_) <;> omega)) (by first | with_reducible assumption | omega | ((with_reducible refine y_Vl ?_ ?_) <;> omega) | ((with_reducible refine y_RIm (by with_reducible assumption) ?_ ?_ ?_) <;> omega) | ((with_reducible refine y_RIu (by with_reducible assumption) ?_ ?_ ?_ ?_ ?_) <;> omega) | ((with_reducible refine y_RI0 ?_) <;> omega) | (refine ⟨by omega, by omega, by omega, by omega, by omega, fun _ => ⟨hx1, hx2, hx38, hx39, hctx, hord, hfit, hH⟩⟩) | rfl | ((with_reducible refine y_Told0 ?_ ?_ ?_ ?_ ?_) <;> omega)) (by omega) (by omega) (by omega) (by omega) (by omega) (by omega) (by omega) (by first | with_reducible assumption | omega | ((with_reducible refine y_Vl ?_ ?_) <;> omega) | ((with_reducible refine y_RIm (by with_reducible assumption) ?_ ?_ ?_) <;> omega) | ((with_reducible refine y_RIu (by with_reducible assumption) ?_ ?_ ?_ ?_ ?_) <;> omega) | ((with_reducible refine y_RI0 ?_) <;> omega) | (refine ⟨by omega, by omega, by omega, by omega, by omega, fun _ => ⟨hx1, hx2, hx38, hx39, hctx, hord, hfit, hH⟩⟩) | rfl | ((with_reducible refine y_Told0 ?_ ?_ ?_ ?_ ?_) <;> omega)) (by first | with_reducible assumption | omega | ((with_reducible refine y_Vl ?_ ?_) <;> omega) | ((with_reducible refine y_RIm (by with_reducible assumption) ?_ ?_ ?_) <;> omega) | ((with_reducible refine y_RIu (by with_reducible assumption) ?_ ?_ ?_ ?_ ?_) <;> omega) | ((with_reducible refine y_RI0 ?_) <;> omega) | (refine ⟨by omega, by omega, by omega, by omega, by omega, fun _ => ⟨hx1, hx2, hx38, hx39, hctx, hord, hfit, hH⟩⟩) | rfl | ((with_reducible refine y_Told0 ?_ ?_ ?_ ?_ ?_) <;> omega)) (by first | with_reducible assumption | omega | ((with_reducible refine y_Vl ?_ ?_) <;> omega) | ((with_reducible refine y_RIm (by with_reducible assumption) ?_ ?_ ?_) <;> omega) | ((with_reducible refine y_RIu (by with_reducible assumption) ?_ ?_ ?_ ?_ ?_) <;> omega) | ((with_reducible refine y_RI0 ?_) <;> omega) | (refine ⟨by omega, by omega, by omega, by omega, by omega, fun _ => ⟨hx1, hx2, hx38, hx39, hctx, hord, hfit, hH⟩⟩) | rfl | ((with_reducible refine y_Told0 ?_ ?_ ?_ ?_ ?_) <;> omega)) (by first | with_reducible assumption | omega | ((with_reducible refine y_Vl ?_ ?_) <;> omega) | ((with_reducible refine y_RIm (by with_reducible assumption) ?_ ?_ ?_) <;> omega) | ((with_reducible refine y_RIu (by with_reducible assumption) ?_ ?_ ?_ ?_ ?_) <;> omega) | ((with_reducible refine y_RI0 ?_) <;> omega) | (refine ⟨by omega, by omega, by omega, by omega, by omega, fun _ => ⟨hx1, hx2, hx38, hx39, hctx, hord, hfit, hH⟩⟩) | rfl | ((with_reducible refine y_Told0 ?_ ?_ ?_ ?_ ?_) <;> omega)) (by first | with_reducible assumption | omega | ((with_reducible refine y_Vl ?_ ?_) <;> omega) | ((with_reducible refine y_RIm (by with_reducible assumption) ?_ ?_ ?_) <;> omega) | ((with_reducible refine y_RIu (by with_reducible assumption) ?_ ?_ ?_ ?_ ?_) <;> omega) | ((with_reducible refine y_RI0 ?_) <;> omega) | (refine ⟨by omega, by omega, by omega, by omega, by omega, fun _ => ⟨hx1, hx2, hx38, hx39, hctx, hord, hfit, hH⟩⟩) | rfl | ((with_reducible refine y_Told0 ?_ ?_ ?_ ?_ ?_) <;> omega)) (by first | with_reducible assumption | omega | ((with_reducible refine y_Vl ?_ ?_) <;> omega) | ((with_reducible refine y_RIm (by with_reducible assumption) ?_ ?_ ?_) <;> omega) | ((with_reducible refine y_RIu (by with_reducible assumption) ?_ ?_ ?_ ?_ ?_) <;> omega) | ((with_reducible refine y_RI0 ?_) <;> omega) | (refine ⟨by omega, by omega, by omega, by omega, by omega, fun _ => ⟨hx1, hx2, hx38, hx39, hctx, hord, hfit, hH⟩⟩) | rfl | ((with_reducible refine y_Told0 ?_ ?_ ?_ ?_ ?_) <;> omega)) (by first | with_reducible assumption | omega | ((with_reducible refine y_Vl ?_ ?_) <;> omega) | ((with_reducible refine y_RIm (by with_reducible assumption) ?_ ?_ ?_) <;> omega) | ((with_reducible refine y_RIu (by with_reducible assumption) ?_ ?_ ?_ ?_ ?_) <;> omega) | ((with_reducible refine y_RI0 ?_) <;> omega) | (refine ⟨by omega, by omega, by omega, by omega, by omega, fun _ => ⟨hx1, hx2, hx38, hx39, hctx, hord, hfit, hH⟩⟩) | rfl | ((with_reducible refine y_Told0 ?_ ?_ ?_ ?_ ?_) <;> omega)) (by first | with_reducible assumption | omega | ((with_reducible refine y_Vl ?_ ?_) <;> omega) | ((with_reducible refine y_RIm (by with_reducible assumption) ?_ ?_ ?_) <;> omega) | ((with_reducible refine y_RIu (by with_reducible assumption) ?_ ?_ ?_ ?_ ?_) <;> omega) | ((with_reducible refine y_RI0 ?_) <;> omega) | (refine ⟨by omega, by omega, by omega, by omega, by omega, fun _ => ⟨hx1, hx2, hx38, hx39, hctx, hord, hfit, hH⟩⟩) | rfl | ((with_reducible refine y_Told0 ?_ ?_ ?_ ?_ ?_) <;> omega)) (by omega) (by omega)) (fun r_t6 h_r_t6 => ?_)
      obtain ⟨h0_r_t6, h1_r_t6, h2_r_t6, h3_r_t6, h4_r_t6, h5_r_t6, h6_r_t6⟩ := h_r_t6
      refine ⟨?_, ?_, ?_, ?_, ?_, ?_, ?_⟩ <;> (first | with_reducible assumption | omega | ((with_reducible refine y_Vl ?_ ?_) <;> omega) | ((with_reducible refine y_RIm (by with_reducible assumption) ?_ ?_ ?_) <;> omega) | ((with_reducible refine y_RIu (by with_reducible assumption) ?_ ?_ ?_ ?_ ?_) <;> omega) | ((with_reducible refine y_RI0 ?_) <;> omega) | (refine ⟨by omega, by omega, by omega, by omega, by omega, fun _ => ⟨hx1, hx2, hx38, hx39, hctx, hord, hfit, hH⟩⟩) | rfl | ((with_reducible refine y_Told0 ?_ ?_ ?_ ?_ ?_) <;> omega))
set_option maxHeartbeats 4000000 in
theorem y_X9_part {v9_50 : Int32} {v9_51 : Int32} {v9_58 : Int32} {g9_39 : Nat → Int32} {g9_43 : Nat → Int32} {g9_44 : Nat → Int32} {g9_57 : Nat → Int32} {p1 : Int32} {p2 : Int32} {C : Nat} {cx tn : Int} (k0 : 0 ≤ p1.toInt) (k1 : p1.toInt < tn) (k2 : tn ≤ 20000) (k3 : 0 ≤ v9_50.toInt) (k4 : v9_50.toInt ≤ 200) (k5 : 0 ≤ v9_51.toInt) (k6 : v9_51.toInt ≤ 200) (hC : (C : Int) = v9_50.toInt + v9_51.toInt) (hfit : y_Fit tn C) (hH : y_H C tn v9_51.toInt g9_57) (hctx : y_RI tn 0 (cx - 1) g9_44) (k11 : cx ≤ 20001) (k12 : y_NI cx g9_39) : y_Ok (f_X9_part v9_50 v9_51 v9_58 g9_39 g9_43 g9_44 g9_57 p1 p2) (fun r => (p2.toInt = 2 → 0 ≤ r.toInt ∧ r.toInt ≤ v9_51.toInt)) := by
  have hS1 := @y_add v9_50 v9_51 (by omega) (by omega)
  have hS2 := @y_addL (v9_50 + v9_51) 2 2 rfl (by omega) (by omega)
  have hmm := @y_mulB p1 ((v9_50 + v9_51) + 2) 20010 402 ⟨by omega, by omega⟩ ⟨by omega, by omega⟩ (by decide)
  have hll := @y_cl p1 (by omega)
  have hat := @y_atI (Int32.toNatClampNeg p1) C p1 ((v9_50 + v9_51) + 2) (by omega) (by omega) hmm.1
  have hfi := y_Fit.in (s := Int32.toNatClampNeg p1) hfit (by omega) (by omega)
  have hcl4 := @y_cl (p1 * ((v9_50 + v9_51) + 2)) (by omega)
  have hs1 := @y_add (p1 * ((v9_50 + v9_51) + 2)) v9_50 (by omega) (by omega)
  have hs2 := @y_add (p1 * ((v9_50 + v9_51) + 2) + v9_50) v9_51 (by omega) (by omega)
  have hcl5 := @y_cl (p1 * ((v9_50 + v9_51) + 2) + v9_50 + v9_51) (by omega)
  have hHa := y_H.at hH (s := Int32.toNatClampNeg p1) (i := Int32.toNatClampNeg (p1 * ((v9_50 + v9_51) + 2) + v9_50 + v9_51)) (by omega) (by omega)
  unfold f_X9_part
  refine y_if (fun c1 => ?_) (fun c1 => ?_)
  · skip
    have e2 : (0 : Int32).toInt = 0 := rfl
    have c1' := c1
    rw [← Int32.toInt_inj] at c1'
    refine y_gd (y_gdI (by omega) (by omega)) ?_
    try have e3 := @y_cl p1 (by omega)
    refine y_some ?_
    try dsimp only
    (first | with_reducible assumption | omega | ((with_reducible refine y_Vl ?_ ?_) <;> omega))
  · skip
    have e4 : (0 : Int32).toInt = 0 := rfl
    have c1' := c1
    rw [← Int32.toInt_inj] at c1'
    refine y_if (fun c5 => ?_) (fun c5 => ?_)
    · skip
      have e6 : (1 : Int32).toInt = 1 := rfl
      have c5' := c5
      rw [← Int32.toInt_inj] at c5'
      refine y_gd (y_gdI (by omega) (by omega)) ?_
      try have e7 := @y_cl p1 (by omega)
      try have e8 := hctx.at (Int32.toNatClampNeg p1) (by omega)
      refine y_gd (y_gdI (by omega) (by omega)) ?_
      try have e9 := @y_cl (g9_44 (Int32.toNatClampNeg p1)) (by omega)
      try have e10 := k12.at (Int32.toNatClampNeg (g9_44 (Int32.toNatClampNeg p1))) (by omega)
      refine y_some ?_
      try dsimp only
      (first | with_reducible assumption | omega | ((with_reducible refine y_Vl ?_ ?_) <;> omega))
    · skip
      have e11 : (1 : Int32).toInt = 1 := rfl
      have c5' := c5
      rw [← Int32.toInt_inj] at c5'
      refine y_if (fun c12 => ?_) (fun c12 => ?_)
      · skip
        have e13 : (2 : Int32).toInt = 2 := rfl
        have c12' := c12
        rw [← Int32.toInt_inj] at c12'
        try have e14 := @y_add v9_50 v9_51 (by omega) (by omega)
        try have e15 := @y_addL (v9_50 + v9_51) (2 : Int32) (2) rfl (by omega) (by omega)
        try have e16 := @y_mulB p1 ((v9_50 + v9_51) + (2 : Int32)) 20010 402 ⟨by omega, by omega⟩ ⟨by omega, by omega⟩ (by decide)
        try have e17 := @y_add (p1 * ((v9_50 + v9_51) + (2 : Int32))) v9_50 (by omega) (by omega)
        try have e18 := @y_add ((p1 * ((v9_50 + v9_51) + (2 : Int32))) + v9_50) v9_51 (by omega) (by omega)
        refine y_gd (y_gdI (by omega) (by omega)) ?_
        try have e19 := @y_cl (((p1 * ((v9_50 + v9_51) + (2 : Int32))) + v9_50) + v9_51) (by omega)
        refine y_some ?_
        try dsimp only
        (first | with_reducible assumption | omega | ((with_reducible refine y_Vl ?_ ?_) <;> omega))
      · skip
        have e20 : (2 : Int32).toInt = 2 := rfl
        have c12' := c12
        rw [← Int32.toInt_inj] at c12'
        refine y_if (fun c21 => ?_) (fun c21 => ?_)
        · skip
          have c21' := c21
          rw [← Int32.toInt_inj] at c21'
          try have e22 := @y_add v9_50 v9_51 (by omega) (by omega)
          try have e23 := @y_addL (v9_50 + v9_51) (2 : Int32) (2) rfl (by omega) (by omega)
          try have e24 := @y_mulB p1 ((v9_50 + v9_51) + (2 : Int32)) 20010 402 ⟨by omega, by omega⟩ ⟨by omega, by omega⟩ (by decide)
          try have e25 := @y_add (p1 * ((v9_50 + v9_51) + (2 : Int32))) v9_50 (by omega) (by omega)
          try have e26 := @y_add ((p1 * ((v9_50 + v9_51) + (2 : Int32))) + v9_50) v9_51 (by omega) (by omega)
          try have e27 := @y_addL (((p1 * ((v9_50 + v9_51) + (2 : Int32))) + v9_50) + v9_51) (1 : Int32) (1) rfl (by omega) (by omega)
          refine y_gd (y_gdI (by omega) (by omega)) ?_
          try have e28 := @y_cl ((((p1 * ((v9_50 + v9_51) + (2 : Int32))) + v9_50) + v9_51) + (1 : Int32)) (by omega)
          refine y_some ?_
          try dsimp only
          (first | with_reducible assumption | omega | ((with_reducible refine y_Vl ?_ ?_) <;> omega))
        · skip
          have c21' := c21
          rw [← Int32.toInt_inj] at c21'
          refine y_some ?_
          try dsimp only
          (first | with_reducible assumption | omega | ((with_reducible refine y_Vl ?_ ?_) <;> omega))
set_option maxHeartbeats 4000000 in
theorem y_X9_frame {v9_0 : Int32} {v9_49 : Int32} {v9_50 : Int32} {v9_51 : Int32} {v9_58 : Int32} {g9_39 : Nat → Int32} {g9_43 : Nat → Int32} {g9_44 : Nat → Int32} {g9_52 : Nat → Int32} {g9_57 : Nat → Int32} {p1 : Int32} {p2 : Int32} {C : Nat} {cx : Int} (k0 : 0 ≤ v9_49.toInt) (k1 : 0 ≤ v9_50.toInt) (k2 : v9_50.toInt ≤ 200) (k3 : 0 ≤ v9_51.toInt) (k4 : v9_51.toInt ≤ 200) (hC : (C : Int) = v9_50.toInt + v9_51.toInt) (hfit : y_Fit v9_49.toInt C) (hH : y_H C v9_49.toInt v9_51.toInt g9_57) (hx1 : 1 ≤ cx) (hx2 : cx ≤ 20001) (hx39 : y_NI cx g9_39) (hctx : y_RI v9_49.toInt 0 (cx - 1) g9_44) (hord : y_RI v9_49.toInt 0 (v9_49.toInt - 1) g9_52) : y_Ok (f_X9_frame v9_0 v9_49 v9_50 v9_51 v9_58 g9_39 g9_43 g9_44 g9_52 g9_57 p1 p2) (fun r => (True)) := by
  have hlen := hfit.le (by omega)
  unfold f_X9_frame
  refine y_if (fun c1 => ?_) (fun c1 => ?_)
  · skip
    have e2 : (0 : Int32).toInt = 0 := rfl
    have c1' := c1
    rw [Int32.lt_iff_toInt_lt] at c1'
    refine y_bi (y_X9_bad) (fun r_2 h_r_2 => ?_)
    obtain ⟨h0_r_2, h1_r_2⟩ := h_r_2
    exact y_some trivial
  · skip
    have e3 : (0 : Int32).toInt = 0 := rfl
    have c1' := c1
    rw [Int32.lt_iff_toInt_lt] at c1'
    refine y_if (fun c4 => ?_) (fun c4 => ?_)
    · skip
      have e5 : (3 : Int32).toInt = 3 := rfl
      have c4' := c4
      rw [Int32.le_iff_toInt_le] at c4'
      refine y_if (fun c6 => ?_) (fun c6 => ?_)
      · skip
        have c6' := c6
        rw [Int32.lt_iff_toInt_lt] at c6'
        have e7 : (-1 : Int32).toInt = -1 := rfl
        exact y_some trivial
      · skip
        have c6' := c6
        rw [Int32.lt_iff_toInt_lt] at c6'
        refine y_if (fun c8 => ?_) (fun c8 => ?_)
        · skip
          have c8' := c8
          rw [Int32.lt_iff_toInt_lt] at c8'
          refine y_gd (y_gdI (by omega) (by omega)) ?_
          try have e9 := @y_cl p1 (by omega)
          try have e10 := hord.at (Int32.toNatClampNeg p1) (by omega)
          refine y_bi (y_X9_part (C := C) (cx := cx) (tn := v9_49.toInt) (by omega) (by omega) (by omega) (by omega) (by omega) (by omega) (by omega) (by omega) (by first | trivial | first | with_reducible assumption | omega | ((with_reducible refine y_Vl ?_ ?_) <;> omega)) (by first | trivial | first | with_reducible assumption | omega | ((with_reducible refine y_Vl ?_ ?_) <;> omega)) (by first | trivial | first | with_reducible assumption | omega | ((with_reducible refine y_Vl ?_ ?_) <;> omega)) (by omega) (by first | trivial | first | with_reducible assumption | omega | ((with_reducible refine y_Vl ?_ ?_) <;> omega))) (fun r_7 h_r_7 => ?_)
          have h0_r_7 : p2.toInt = 2 → 0 ≤ r_7.toInt ∧ r_7.toInt ≤ v9_51.toInt := h_r_7
          exact y_some trivial
        · skip
          have c8' := c8
          rw [Int32.lt_iff_toInt_lt] at c8'
          have e11 : (-1 : Int32).toInt = -1 := rfl
          exact y_some trivial
    · skip
      have e12 : (3 : Int32).toInt = 3 := rfl
      have c4' := c4
      rw [Int32.le_iff_toInt_le] at c4'
      refine y_bi (y_X9_bad) (fun r_8 h_r_8 => ?_)
      obtain ⟨h0_r_8, h1_r_8⟩ := h_r_8
      exact y_some trivial
set_option maxHeartbeats 4000000 in
theorem y_X9_context_L_0_i {v9_49 : Int32} {g9_37 : Nat → Int32} {g9_38 : Nat → Int32} {g9_39 : Nat → Int32} {g9_44 : Nat → Int32} {g9_52 : Nat → Int32} {l2 : Int32} {v9_0 : Int32} {cx : Int} (hx1 : 1 ≤ cx) (hx2 : cx ≤ 20001) (hx38 : y_BI cx g9_38) (hx39 : y_NI cx g9_39) (k4 : 0 ≤ l2.toInt) (k5 : l2.toInt < 16) : ∀ (m : Nat) {l3 : Int32}, (0 ≤ l3.toInt) → (l3.toInt < cx) → l3.toInt < m → y_Ok (f_X9_context_L v9_49 g9_37 g9_38 g9_39 g9_44 g9_52 l2 v9_0 (0, l3)) (fun r => (True)) := by
  intro m
  induction m with
  | zero => intro l3 k6 k7 hm; exfalso; omega
  | succ m ih =>
    intro l3 k6 k7 hm
    rw [f_X9_context_L]
    refine y_ip rfl ?_
    refine y_gd (y_gdI (by omega) (by omega)) ?_
    refine y_if (fun c1 => ?_) (fun c1 => ?_)
    · skip
      try have e2 := @y_cl l3 (by omega)
      try have e3 := hx39.at (Int32.toNatClampNeg l3) (by omega)
      try have e4 := @y_addL l2 (1 : Int32) (1) rfl (by omega) (by omega)
      have c1' := c1
      rw [Int32.le_iff_toInt_le] at c1'
      refine y_gd (y_gdI (by omega) (by omega)) ?_
      exact y_some trivial
    · skip
      try have e5 := @y_cl l3 (by omega)
      try have e6 := hx39.at (Int32.toNatClampNeg l3) (by omega)
      try have e7 := @y_addL l2 (1 : Int32) (1) rfl (by omega) (by omega)
      have c1' := c1
      rw [Int32.le_iff_toInt_le] at c1'
      refine y_gd (y_gdI (by omega) (by omega)) ?_
      try have e8 := hx38.at (Int32.toNatClampNeg l3) (by omega)
      exact y_Ok.mono (ih (l3 := (g9_38 (Int32.toNatClampNeg l3))) (by omega) (by omega) (by omega)) (fun _ _ => trivial)
theorem y_X9_context_L_0 {v9_49 : Int32} {g9_37 : Nat → Int32} {g9_38 : Nat → Int32} {g9_39 : Nat → Int32} {g9_44 : Nat → Int32} {g9_52 : Nat → Int32} {l2 : Int32} {v9_0 : Int32} {cx : Int} {l3 : Int32} (hx1 : 1 ≤ cx) (hx2 : cx ≤ 20001) (hx38 : y_BI cx g9_38) (hx39 : y_NI cx g9_39) (k4 : 0 ≤ l2.toInt) (k5 : l2.toInt < 16) (k6 : 0 ≤ l3.toInt) (k7 : l3.toInt < cx) : y_Ok (f_X9_context_L v9_49 g9_37 g9_38 g9_39 g9_44 g9_52 l2 v9_0 (0, l3)) (fun r => (True)) := y_X9_context_L_0_i (cx := cx) hx1 hx2 hx38 hx39 k4 k5 (l3.toInt + 1).toNat k6 k7 (by omega)
set_option maxHeartbeats 4000000 in
theorem y_X9_context {v9_0 : Int32} {v9_49 : Int32} {g9_37 : Nat → Int32} {g9_38 : Nat → Int32} {g9_39 : Nat → Int32} {g9_44 : Nat → Int32} {g9_52 : Nat → Int32} {p1 : Int32} {p2 : Int32} {cx : Int} (k0 : 0 ≤ v9_49.toInt) (k1 : v9_49.toInt ≤ 20000) (hx1 : 1 ≤ cx) (hx2 : cx ≤ 20001) (hx39 : y_NI cx g9_39) (hctx : y_RI v9_49.toInt 0 (cx - 1) g9_44) (hord : y_RI v9_49.toInt 0 (v9_49.toInt - 1) g9_52) (hx38 : y_BI cx g9_38) : y_Ok (f_X9_context v9_0 v9_49 g9_37 g9_38 g9_39 g9_44 g9_52 p1 p2) (fun r => (True)) := by
  unfold f_X9_context
  refine y_if (fun c1 => ?_) (fun c1 => ?_)
  · skip
    have e2 : (0 : Int32).toInt = 0 := rfl
    have c1' := c1
    rw [Int32.lt_iff_toInt_lt] at c1'
    have e3 : (-1 : Int32).toInt = -1 := rfl
    exact y_some trivial
  · skip
    have e4 : (0 : Int32).toInt = 0 := rfl
    have c1' := c1
    rw [Int32.lt_iff_toInt_lt] at c1'
    refine y_if (fun c5 => ?_) (fun c5 => ?_)
    · skip
      have c5' := c5
      rw [Int32.le_iff_toInt_le] at c5'
      have e6 : (-1 : Int32).toInt = -1 := rfl
      exact y_some trivial
    · skip
      have c5' := c5
      rw [Int32.le_iff_toInt_le] at c5'
      refine y_if (fun c7 => ?_) (fun c7 => ?_)
      · skip
        have c7' := c7
        rw [Int32.le_iff_toInt_le] at c7'
        refine y_gd (y_gdI (by omega) (by omega)) ?_
        try have e8 := @y_cl p1 (by omega)
        try have e9 := hord.at (Int32.toNatClampNeg p1) (by omega)
        refine y_gd (y_gdI (by omega) (by omega)) ?_
        try have e10 := @y_cl (g9_52 (Int32.toNatClampNeg p1)) (by omega)
        try have e11 := hctx.at (Int32.toNatClampNeg (g9_52 (Int32.toNatClampNeg p1))) (by omega)
        refine y_gd (y_gdI (by omega) (by omega)) ?_
        refine y_if (fun c12 => ?_) (fun c12 => ?_)
        · skip
          try have e13 := @y_cl (g9_44 (Int32.toNatClampNeg (g9_52 (Int32.toNatClampNeg p1)))) (by omega)
          try have e14 := hx39.at (Int32.toNatClampNeg (g9_44 (Int32.toNatClampNeg (g9_52 (Int32.toNatClampNeg p1))))) (by omega)
          have c12' := c12
          rw [Int32.lt_iff_toInt_lt] at c12'
          exact y_Ok.mono (y_X9_context_L_0 (cx := cx) (l3 := (g9_44 (Int32.toNatClampNeg (g9_52 (Int32.toNatClampNeg p1))))) (by omega) (by omega) (by first | trivial | first | with_reducible assumption | omega | ((with_reducible refine y_Vl ?_ ?_) <;> omega)) (by first | trivial | first | with_reducible assumption | omega | ((with_reducible refine y_Vl ?_ ?_) <;> omega)) (by omega) (by omega) (by omega) (by omega)) (fun _ _ => trivial)
        · skip
          try have e15 := @y_cl (g9_44 (Int32.toNatClampNeg (g9_52 (Int32.toNatClampNeg p1)))) (by omega)
          try have e16 := hx39.at (Int32.toNatClampNeg (g9_44 (Int32.toNatClampNeg (g9_52 (Int32.toNatClampNeg p1))))) (by omega)
          have c12' := c12
          rw [Int32.lt_iff_toInt_lt] at c12'
          have e17 : (-1 : Int32).toInt = -1 := rfl
          exact y_some trivial
      · skip
        have c7' := c7
        rw [Int32.le_iff_toInt_le] at c7'
        have e18 : (-1 : Int32).toInt = -1 := rfl
        exact y_some trivial
set_option maxHeartbeats 4000000 in
theorem y_X9_told {v9_0 : Int32} {v9_49 : Int32} {v9_50 : Int32} {v9_51 : Int32} {v9_58 : Int32} {g9_39 : Nat → Int32} {g9_43 : Nat → Int32} {g9_44 : Nat → Int32} {g9_52 : Nat → Int32} {g9_57 : Nat → Int32} {p1 : Int32} {p2 : Int32} {C : Nat} {cx : Int} (k0 : 0 ≤ v9_49.toInt) (k1 : 0 ≤ v9_50.toInt) (k2 : v9_50.toInt ≤ 200) (k3 : 0 ≤ v9_51.toInt) (k4 : v9_51.toInt ≤ 200) (hC : (C : Int) = v9_50.toInt + v9_51.toInt) (hfit : y_Fit v9_49.toInt C) (hH : y_H C v9_49.toInt v9_51.toInt g9_57) (hx1 : 1 ≤ cx) (hx2 : cx ≤ 20001) (hx39 : y_NI cx g9_39) (hctx : y_RI v9_49.toInt 0 (cx - 1) g9_44) (hord : y_RI v9_49.toInt 0 (v9_49.toInt - 1) g9_52) : y_Ok (f_X9_told v9_0 v9_49 v9_50 v9_51 v9_58 g9_39 g9_43 g9_44 g9_52 g9_57 p1 p2) (fun r => (True)) := by
  have hlen := hfit.le (by omega)
  unfold f_X9_told
  refine y_if (fun c1 => ?_) (fun c1 => ?_)
  · skip
    have e2 : (0 : Int32).toInt = 0 := rfl
    have c1' := c1
    rw [Int32.lt_iff_toInt_lt] at c1'
    have e3 : (-1 : Int32).toInt = -1 := rfl
    exact y_some trivial
  · skip
    have e4 : (0 : Int32).toInt = 0 := rfl
    have c1' := c1
    rw [Int32.lt_iff_toInt_lt] at c1'
    refine y_if (fun c5 => ?_) (fun c5 => ?_)
    · skip
      have c5' := c5
      rw [Int32.le_iff_toInt_le] at c5'
      have e6 : (-1 : Int32).toInt = -1 := rfl
      exact y_some trivial
    · skip
      have c5' := c5
      rw [Int32.le_iff_toInt_le] at c5'
      refine y_if (fun c7 => ?_) (fun c7 => ?_)
      · skip
        have c7' := c7
        rw [Int32.lt_iff_toInt_lt] at c7'
        have e8 : (-1 : Int32).toInt = -1 := rfl
        exact y_some trivial
      · skip
        have c7' := c7
        rw [Int32.lt_iff_toInt_lt] at c7'
        refine y_gd (y_gdI (by omega) (by omega)) ?_
        try have e9 := @y_cl p1 (by omega)
        try have e10 := hord.at (Int32.toNatClampNeg p1) (by omega)
        have e11 : (2 : Int32).toInt = 2 := rfl
        refine y_bi (y_X9_part (C := C) (cx := cx) (tn := v9_49.toInt) (by omega) (by omega) (by omega) (by omega) (by omega) (by omega) (by omega) (by omega) (by first | trivial | first | with_reducible assumption | omega | ((with_reducible refine y_Vl ?_ ?_) <;> omega)) (by first | trivial | first | with_reducible assumption | omega | ((with_reducible refine y_Vl ?_ ?_) <;> omega)) (by first | trivial | first | with_reducible assumption | omega | ((with_reducible refine y_Vl ?_ ?_) <;> omega)) (by omega) (by first | trivial | first | with_reducible assumption | omega | ((with_reducible refine y_Vl ?_ ?_) <;> omega))) (fun r_5 h_r_5 => ?_)
        have h0_r_5 : (2 : Int32).toInt = 2 → 0 ≤ r_5.toInt ∧ r_5.toInt ≤ v9_51.toInt := h_r_5
        have h2 := h0_r_5 rfl
        have hS1 := @y_add v9_50 v9_51 (by omega) (by omega)
        have hS2 := @y_addL (v9_50 + v9_51) 2 2 rfl (by omega) (by omega)
        have hmm := @y_mulB (g9_52 (Int32.toNatClampNeg p1)) ((v9_50 + v9_51) + 2) 20010 402 ⟨by omega, by omega⟩ ⟨by omega, by omega⟩ (by decide)
        have hll := @y_cl (g9_52 (Int32.toNatClampNeg p1)) (by omega)
        have hat := @y_atI (Int32.toNatClampNeg (g9_52 (Int32.toNatClampNeg p1))) C (g9_52 (Int32.toNatClampNeg p1)) ((v9_50 + v9_51) + 2) (by omega) (by omega) hmm.1
        have hfi := y_Fit.in (s := Int32.toNatClampNeg (g9_52 (Int32.toNatClampNeg p1))) hfit (by omega) (by omega)
        have hcl4 := @y_cl ((g9_52 (Int32.toNatClampNeg p1)) * ((v9_50 + v9_51) + 2)) (by omega)
        refine y_if (fun c12 => ?_) (fun c12 => ?_)
        · skip
          try have e13 := @y_add v9_50 r_5 (by omega) (by omega)
          have c12' := c12
          rw [Int32.lt_iff_toInt_lt] at c12'
          refine y_gd (y_gdI (by omega) (by omega)) ?_
          try have e14 := @y_add v9_50 v9_51 (by omega) (by omega)
          try have e15 := @y_addL (v9_50 + v9_51) (2 : Int32) (2) rfl (by omega) (by omega)
          try have e16 := @y_mulB (g9_52 (Int32.toNatClampNeg p1)) ((v9_50 + v9_51) + (2 : Int32)) 20010 402 ⟨by omega, by omega⟩ ⟨by omega, by omega⟩ (by decide)
          try have e17 := @y_add ((g9_52 (Int32.toNatClampNeg p1)) * ((v9_50 + v9_51) + (2 : Int32))) p2 (by omega) (by omega)
          refine y_gd (y_gdI (by omega) (by omega)) ?_
          try have e18 := @y_cl (((g9_52 (Int32.toNatClampNeg p1)) * ((v9_50 + v9_51) + (2 : Int32))) + p2) (by omega)
          exact y_some trivial
        · skip
          try have e19 := @y_add v9_50 r_5 (by omega) (by omega)
          have c12' := c12
          rw [Int32.lt_iff_toInt_lt] at c12'
          have e20 : (-1 : Int32).toInt = -1 := rfl
          exact y_some trivial
set_option maxHeartbeats 4000000 in
theorem y_X9_digest_L_2_i {v9_49 : Int32} {v9_50 : Int32} {v9_51 : Int32} {v9_58 : Int32} {g9_39 : Nat → Int32} {g9_43 : Nat → Int32} {g9_44 : Nat → Int32} {g9_52 : Nat → Int32} {g9_57 : Nat → Int32} {v9_0 : Int32} {C : Nat} {cx : Int} (k0 : 0 ≤ v9_49.toInt) (k1 : 0 ≤ v9_50.toInt) (k2 : v9_50.toInt ≤ 200) (k3 : 0 ≤ v9_51.toInt) (k4 : v9_51.toInt ≤ 200) (hC : (C : Int) = v9_50.toInt + v9_51.toInt) (hfit : y_Fit v9_49.toInt C) (hH : y_H C v9_49.toInt v9_51.toInt g9_57) (hx1 : 1 ≤ cx) (hx2 : cx ≤ 20001) (hx39 : y_NI cx g9_39) (hctx : y_RI v9_49.toInt 0 (cx - 1) g9_44) (hord : y_RI v9_49.toInt 0 (v9_49.toInt - 1) g9_52) : ∀ (m : Nat) {l1 : Int64} {l3 : Int32} {l4 : Int32} {l5 : Int32} {l6 : Int32}, (0 ≤ l3.toInt) → (l3.toInt < v9_49.toInt) → (0 ≤ l4.toInt) → (l4.toInt < v9_49.toInt) → (∀ l1 : Int64, y_Ok (f_X9_digest_L v9_49 v9_50 v9_51 v9_58 g9_39 g9_43 g9_44 g9_52 g9_57 v9_0 (0, l1, l3 + 1, 0, 0, 0)) (fun r => True)) → (0 ≤ l5.toInt) → (l5.toInt ≤ v9_50.toInt + v9_51.toInt) → (0 ≤ l6.toInt) → (l6.toInt ≤ l5.toInt) → l5.toInt - l6.toInt < m → y_Ok (f_X9_digest_L v9_49 v9_50 v9_51 v9_58 g9_39 g9_43 g9_44 g9_52 g9_57 v9_0 (2, l1, l3, l4, l5, l6)) (fun r => (True)) := by
  intro m
  induction m with
  | zero => intro l1 l3 l4 l5 l6 k13 k14 k15 k16 ihp k18 k19 k20 k21 hm; exfalso; omega
  | succ m ih =>
    intro l1 l3 l4 l5 l6 k13 k14 k15 k16 ihp k18 k19 k20 k21 hm
    have hlen := hfit.le (by omega)
    have hS1 := @y_add v9_50 v9_51 (by omega) (by omega)
    have hS2 := @y_addL (v9_50 + v9_51) 2 2 rfl (by omega) (by omega)
    have hmm := @y_mulB l4 ((v9_50 + v9_51) + 2) 20010 402 ⟨by omega, by omega⟩ ⟨by omega, by omega⟩ (by decide)
    have hll := @y_cl l4 (by omega)
    have hat := @y_atI (Int32.toNatClampNeg l4) C l4 ((v9_50 + v9_51) + 2) (by omega) (by omega) hmm.1
    have hfi := y_Fit.in (s := Int32.toNatClampNeg l4) hfit (by omega) (by omega)
    have hcl4 := @y_cl (l4 * ((v9_50 + v9_51) + 2)) (by omega)
    rw [f_X9_digest_L]
    refine y_in (by decide) ?_
    refine y_in (by decide) ?_
    refine y_ip rfl ?_
    refine y_if (fun c1 => ?_) (fun c1 => ?_)
    · skip
      have c1' := c1
      rw [Int32.le_iff_toInt_le] at c1'
      try have e2 := @y_addL l3 (1 : Int32) (1) rfl (by omega) (by omega)
      have e3 : (0 : Int32).toInt = 0 := rfl
      exact ihp _
    · skip
      have c1' := c1
      rw [Int32.le_iff_toInt_le] at c1'
      try have e4 := @y_add v9_50 v9_51 (by omega) (by omega)
      try have e5 := @y_addL (v9_50 + v9_51) (2 : Int32) (2) rfl (by omega) (by omega)
      try have e6 := @y_mulB l4 ((v9_50 + v9_51) + (2 : Int32)) 20010 402 ⟨by omega, by omega⟩ ⟨by omega, by omega⟩ (by decide)
      try have e7 := @y_add (l4 * ((v9_50 + v9_51) + (2 : Int32))) l6 (by omega) (by omega)
      refine y_gd (y_gdI (by omega) (by omega)) ?_
      try have e8 := @y_addL l6 (1 : Int32) (1) rfl (by omega) (by omega)
      exact y_Ok.mono (ih (l1 := (((31 : Int64) * l1) + (Int32.toInt64 (g9_57 (Int32.toNatClampNeg ((l4 * ((v9_50 + v9_51) + (2 : Int32))) + l6)))))) (l3 := l3) (l4 := l4) (l5 := l5) (l6 := (l6 + 1)) (by omega) (by omega) (by omega) (by omega) (by first | trivial | first | with_reducible assumption | omega | ((with_reducible refine y_Vl ?_ ?_) <;> omega)) (by omega) (by omega) (by omega) (by omega) (by omega)) (fun _ _ => trivial)
theorem y_X9_digest_L_2 {v9_49 : Int32} {v9_50 : Int32} {v9_51 : Int32} {v9_58 : Int32} {g9_39 : Nat → Int32} {g9_43 : Nat → Int32} {g9_44 : Nat → Int32} {g9_52 : Nat → Int32} {g9_57 : Nat → Int32} {v9_0 : Int32} {C : Nat} {cx : Int} {l1 : Int64} {l3 : Int32} {l4 : Int32} {l5 : Int32} {l6 : Int32} (k0 : 0 ≤ v9_49.toInt) (k1 : 0 ≤ v9_50.toInt) (k2 : v9_50.toInt ≤ 200) (k3 : 0 ≤ v9_51.toInt) (k4 : v9_51.toInt ≤ 200) (hC : (C : Int) = v9_50.toInt + v9_51.toInt) (hfit : y_Fit v9_49.toInt C) (hH : y_H C v9_49.toInt v9_51.toInt g9_57) (hx1 : 1 ≤ cx) (hx2 : cx ≤ 20001) (hx39 : y_NI cx g9_39) (hctx : y_RI v9_49.toInt 0 (cx - 1) g9_44) (hord : y_RI v9_49.toInt 0 (v9_49.toInt - 1) g9_52) (k13 : 0 ≤ l3.toInt) (k14 : l3.toInt < v9_49.toInt) (k15 : 0 ≤ l4.toInt) (k16 : l4.toInt < v9_49.toInt) (ihp : ∀ l1 : Int64, y_Ok (f_X9_digest_L v9_49 v9_50 v9_51 v9_58 g9_39 g9_43 g9_44 g9_52 g9_57 v9_0 (0, l1, l3 + 1, 0, 0, 0)) (fun r => True)) (k18 : 0 ≤ l5.toInt) (k19 : l5.toInt ≤ v9_50.toInt + v9_51.toInt) (k20 : 0 ≤ l6.toInt) (k21 : l6.toInt ≤ l5.toInt) : y_Ok (f_X9_digest_L v9_49 v9_50 v9_51 v9_58 g9_39 g9_43 g9_44 g9_52 g9_57 v9_0 (2, l1, l3, l4, l5, l6)) (fun r => (True)) := y_X9_digest_L_2_i (C := C) (cx := cx) k0 k1 k2 k3 k4 hC hfit hH hx1 hx2 hx39 hctx hord (l5.toInt - l6.toInt + 1).toNat k13 k14 k15 k16 ihp k18 k19 k20 k21 (by omega)
set_option maxHeartbeats 4000000 in
theorem y_X9_digest_L_1_i {v9_49 : Int32} {v9_50 : Int32} {v9_51 : Int32} {v9_58 : Int32} {g9_39 : Nat → Int32} {g9_43 : Nat → Int32} {g9_44 : Nat → Int32} {g9_52 : Nat → Int32} {g9_57 : Nat → Int32} {v9_0 : Int32} {C : Nat} {cx : Int} (k0 : 0 ≤ v9_49.toInt) (k1 : 0 ≤ v9_50.toInt) (k2 : v9_50.toInt ≤ 200) (k3 : 0 ≤ v9_51.toInt) (k4 : v9_51.toInt ≤ 200) (hC : (C : Int) = v9_50.toInt + v9_51.toInt) (hfit : y_Fit v9_49.toInt C) (hH : y_H C v9_49.toInt v9_51.toInt g9_57) (hx1 : 1 ≤ cx) (hx2 : cx ≤ 20001) (hx39 : y_NI cx g9_39) (hctx : y_RI v9_49.toInt 0 (cx - 1) g9_44) (hord : y_RI v9_49.toInt 0 (v9_49.toInt - 1) g9_52) : ∀ (m : Nat) {l1 : Int64} {l3 : Int32} {l4 : Int32} {l5 : Int32} {l6 : Int32}, (0 ≤ l3.toInt) → (l3.toInt < v9_49.toInt) → (0 ≤ l4.toInt) → (l4.toInt < v9_49.toInt) → (∀ l1 : Int64, y_Ok (f_X9_digest_L v9_49 v9_50 v9_51 v9_58 g9_39 g9_43 g9_44 g9_52 g9_57 v9_0 (0, l1, l3 + 1, 0, 0, 0)) (fun r => True)) → (0 ≤ l5.toInt) → (l5.toInt ≤ 4) → 4 - l5.toInt < m → y_Ok (f_X9_digest_L v9_49 v9_50 v9_51 v9_58 g9_39 g9_43 g9_44 g9_52 g9_57 v9_0 (1, l1, l3, l4, l5, l6)) (fun r => (True)) := by
  intro m
  induction m with
  | zero => intro l1 l3 l4 l5 l6 k13 k14 k15 k16 ihp k18 k19 hm; exfalso; omega
  | succ m ih =>
    intro l1 l3 l4 l5 l6 k13 k14 k15 k16 ihp k18 k19 hm
    have hlen := hfit.le (by omega)
    rw [f_X9_digest_L]
    refine y_in (by decide) ?_
    refine y_ip rfl ?_
    refine y_if (fun c1 => ?_) (fun c1 => ?_)
    · skip
      have e2 : (4 : Int32).toInt = 4 := rfl
      have c1' := c1
      rw [Int32.le_iff_toInt_le] at c1'
      have e3 : (2 : Int32).toInt = 2 := rfl
      refine y_bi (y_X9_part (C := C) (cx := cx) (tn := v9_49.toInt) (by omega) (by omega) (by omega) (by omega) (by omega) (by omega) (by omega) (by omega) (by first | trivial | first | with_reducible assumption | omega | ((with_reducible refine y_Vl ?_ ?_) <;> omega)) (by first | trivial | first | with_reducible assumption | omega | ((with_reducible refine y_Vl ?_ ?_) <;> omega)) (by first | trivial | first | with_reducible assumption | omega | ((with_reducible refine y_Vl ?_ ?_) <;> omega)) (by omega) (by first | trivial | first | with_reducible assumption | omega | ((with_reducible refine y_Vl ?_ ?_) <;> omega))) (fun r_4 h_r_4 => ?_)
      have h0_r_4 : (2 : Int32).toInt = 2 → 0 ≤ r_4.toInt ∧ r_4.toInt ≤ v9_51.toInt := h_r_4
      have h2 := h0_r_4 rfl
      have h3 := @y_add v9_50 r_4 (by omega) (by omega)
      try have e4 := @y_add v9_50 r_4 (by omega) (by omega)
      have e5 : (0 : Int32).toInt = 0 := rfl
      exact y_Ok.mono (y_X9_digest_L_2 (C := C) (cx := cx) (l1 := l1) (l3 := l3) (l4 := l4) (l5 := (v9_50 + r_4)) (l6 := 0) (by omega) (by omega) (by omega) (by omega) (by omega) (by omega) (by first | trivial | first | with_reducible assumption | omega | ((with_reducible refine y_Vl ?_ ?_) <;> omega)) (by first | trivial | first | with_reducible assumption | omega | ((with_reducible refine y_Vl ?_ ?_) <;> omega)) (by omega) (by omega) (by first | trivial | first | with_reducible assumption | omega | ((with_reducible refine y_Vl ?_ ?_) <;> omega)) (by first | trivial | first | with_reducible assumption | omega | ((with_reducible refine y_Vl ?_ ?_) <;> omega)) (by first | trivial | first | with_reducible assumption | omega | ((with_reducible refine y_Vl ?_ ?_) <;> omega)) (by omega) (by omega) (by omega) (by omega) (by first | trivial | first | with_reducible assumption | omega | ((with_reducible refine y_Vl ?_ ?_) <;> omega)) (by omega) (by omega) (by omega) (by omega)) (fun _ _ => trivial)
    · skip
      have e6 : (4 : Int32).toInt = 4 := rfl
      have c1' := c1
      rw [Int32.le_iff_toInt_le] at c1'
      refine y_bi (y_X9_part (C := C) (cx := cx) (tn := v9_49.toInt) (by omega) (by omega) (by omega) (by omega) (by omega) (by omega) (by omega) (by omega) (by first | trivial | first | with_reducible assumption | omega | ((with_reducible refine y_Vl ?_ ?_) <;> omega)) (by first | trivial | first | with_reducible assumption | omega | ((with_reducible refine y_Vl ?_ ?_) <;> omega)) (by first | trivial | first | with_reducible assumption | omega | ((with_reducible refine y_Vl ?_ ?_) <;> omega)) (by omega) (by first | trivial | first | with_reducible assumption | omega | ((with_reducible refine y_Vl ?_ ?_) <;> omega))) (fun r_5 h_r_5 => ?_)
      have h0_r_5 : l5.toInt = 2 → 0 ≤ r_5.toInt ∧ r_5.toInt ≤ v9_51.toInt := h_r_5
      try have e7 := @y_addL l5 (1 : Int32) (1) rfl (by omega) (by omega)
      have e8 : (0 : Int32).toInt = 0 := rfl
      exact y_Ok.mono (ih (l1 := (((31 : Int64) * l1) + (Int32.toInt64 r_5))) (l3 := l3) (l4 := l4) (l5 := (l5 + 1)) (l6 := 0) (by omega) (by omega) (by omega) (by omega) (by first | trivial | first | with_reducible assumption | omega | ((with_reducible refine y_Vl ?_ ?_) <;> omega)) (by omega) (by omega) (by omega)) (fun _ _ => trivial)
theorem y_X9_digest_L_1 {v9_49 : Int32} {v9_50 : Int32} {v9_51 : Int32} {v9_58 : Int32} {g9_39 : Nat → Int32} {g9_43 : Nat → Int32} {g9_44 : Nat → Int32} {g9_52 : Nat → Int32} {g9_57 : Nat → Int32} {v9_0 : Int32} {C : Nat} {cx : Int} {l1 : Int64} {l3 : Int32} {l4 : Int32} {l5 : Int32} {l6 : Int32} (k0 : 0 ≤ v9_49.toInt) (k1 : 0 ≤ v9_50.toInt) (k2 : v9_50.toInt ≤ 200) (k3 : 0 ≤ v9_51.toInt) (k4 : v9_51.toInt ≤ 200) (hC : (C : Int) = v9_50.toInt + v9_51.toInt) (hfit : y_Fit v9_49.toInt C) (hH : y_H C v9_49.toInt v9_51.toInt g9_57) (hx1 : 1 ≤ cx) (hx2 : cx ≤ 20001) (hx39 : y_NI cx g9_39) (hctx : y_RI v9_49.toInt 0 (cx - 1) g9_44) (hord : y_RI v9_49.toInt 0 (v9_49.toInt - 1) g9_52) (k13 : 0 ≤ l3.toInt) (k14 : l3.toInt < v9_49.toInt) (k15 : 0 ≤ l4.toInt) (k16 : l4.toInt < v9_49.toInt) (ihp : ∀ l1 : Int64, y_Ok (f_X9_digest_L v9_49 v9_50 v9_51 v9_58 g9_39 g9_43 g9_44 g9_52 g9_57 v9_0 (0, l1, l3 + 1, 0, 0, 0)) (fun r => True)) (k18 : 0 ≤ l5.toInt) (k19 : l5.toInt ≤ 4) : y_Ok (f_X9_digest_L v9_49 v9_50 v9_51 v9_58 g9_39 g9_43 g9_44 g9_52 g9_57 v9_0 (1, l1, l3, l4, l5, l6)) (fun r => (True)) := y_X9_digest_L_1_i (C := C) (cx := cx) k0 k1 k2 k3 k4 hC hfit hH hx1 hx2 hx39 hctx hord (4 - l5.toInt + 1).toNat k13 k14 k15 k16 ihp k18 k19 (by omega)
set_option maxHeartbeats 4000000 in
theorem y_X9_digest_L_0_i {v9_49 : Int32} {v9_50 : Int32} {v9_51 : Int32} {v9_58 : Int32} {g9_39 : Nat → Int32} {g9_43 : Nat → Int32} {g9_44 : Nat → Int32} {g9_52 : Nat → Int32} {g9_57 : Nat → Int32} {v9_0 : Int32} {C : Nat} {cx : Int} (k0 : 0 ≤ v9_49.toInt) (k1 : 0 ≤ v9_50.toInt) (k2 : v9_50.toInt ≤ 200) (k3 : 0 ≤ v9_51.toInt) (k4 : v9_51.toInt ≤ 200) (hC : (C : Int) = v9_50.toInt + v9_51.toInt) (hfit : y_Fit v9_49.toInt C) (hH : y_H C v9_49.toInt v9_51.toInt g9_57) (hx1 : 1 ≤ cx) (hx2 : cx ≤ 20001) (hx39 : y_NI cx g9_39) (hctx : y_RI v9_49.toInt 0 (cx - 1) g9_44) (hord : y_RI v9_49.toInt 0 (v9_49.toInt - 1) g9_52) : ∀ (m : Nat) {l1 : Int64} {l3 : Int32} {l4 : Int32} {l5 : Int32} {l6 : Int32}, (0 ≤ l3.toInt) → (l3.toInt ≤ v9_49.toInt) → v9_49.toInt - l3.toInt < m → y_Ok (f_X9_digest_L v9_49 v9_50 v9_51 v9_58 g9_39 g9_43 g9_44 g9_52 g9_57 v9_0 (0, l1, l3, l4, l5, l6)) (fun r => (True)) := by
  intro m
  induction m with
  | zero => intro l1 l3 l4 l5 l6 k13 k14 hm; exfalso; omega
  | succ m ih =>
    intro l1 l3 l4 l5 l6 k13 k14 hm
    have hlen := hfit.le (by omega)
    have hs3 := @y_addL l3 1 1 rfl (by omega) (by omega)
    rw [f_X9_digest_L]
    refine y_ip rfl ?_
    refine y_if (fun c1 => ?_) (fun c1 => ?_)
    · skip
      have c1' := c1
      rw [Int32.le_iff_toInt_le] at c1'
      exact y_some trivial
    · skip
      have c1' := c1
      rw [Int32.le_iff_toInt_le] at c1'
      refine y_gd (y_gdI (by omega) (by omega)) ?_
      try have e2 := @y_cl l3 (by omega)
      try have e3 := hord.at (Int32.toNatClampNeg l3) (by omega)
      have e4 : (0 : Int32).toInt = 0 := rfl
      exact y_Ok.mono (y_X9_digest_L_1 (C := C) (cx := cx) (l1 := l1) (l3 := l3) (l4 := (g9_52 (Int32.toNatClampNeg l3))) (l5 := 0) (l6 := 0) (by omega) (by omega) (by omega) (by omega) (by omega) (by omega) (by first | trivial | first | with_reducible assumption | omega | ((with_reducible refine y_Vl ?_ ?_) <;> omega) | (intro z1; exact ih (l1 := z1) (l3 := l3 + 1) (l4 := 0) (l5 := 0) (l6 := 0) (by omega) (by omega) (by omega))) (by first | trivial | first | with_reducible assumption | omega | ((with_reducible refine y_Vl ?_ ?_) <;> omega) | (intro z1; exact ih (l1 := z1) (l3 := l3 + 1) (l4 := 0) (l5 := 0) (l6 := 0) (by omega) (by omega) (by omega))) (by omega) (by omega) (by first | trivial | first | with_reducible assumption | omega | ((with_reducible refine y_Vl ?_ ?_) <;> omega) | (intro z1; exact ih (l1 := z1) (l3 := l3 + 1) (l4 := 0) (l5 := 0) (l6 := 0) (by omega) (by omega) (by omega))) (by first | trivial | first | with_reducible assumption | omega | ((with_reducible refine y_Vl ?_ ?_) <;> omega) | (intro z1; exact ih (l1 := z1) (l3 := l3 + 1) (l4 := 0) (l5 := 0) (l6 := 0) (by omega) (by omega) (by omega))) (by first | trivial | first | with_reducible assumption | omega | ((with_reducible refine y_Vl ?_ ?_) <;> omega) | (intro z1; exact ih (l1 := z1) (l3 := l3 + 1) (l4 := 0) (l5 := 0) (l6 := 0) (by omega) (by omega) (by omega))) (by omega) (by omega) (by omega) (by omega) (by first | trivial | first | with_reducible assumption | omega | ((with_reducible refine y_Vl ?_ ?_) <;> omega) | (intro z1; exact ih (l1 := z1) (l3 := l3 + 1) (l4 := 0) (l5 := 0) (l6 := 0) (by omega) (by omega) (by omega))) (by omega) (by omega)) (fun _ _ => trivial)
theorem y_X9_digest_L_0 {v9_49 : Int32} {v9_50 : Int32} {v9_51 : Int32} {v9_58 : Int32} {g9_39 : Nat → Int32} {g9_43 : Nat → Int32} {g9_44 : Nat → Int32} {g9_52 : Nat → Int32} {g9_57 : Nat → Int32} {v9_0 : Int32} {C : Nat} {cx : Int} {l1 : Int64} {l3 : Int32} {l4 : Int32} {l5 : Int32} {l6 : Int32} (k0 : 0 ≤ v9_49.toInt) (k1 : 0 ≤ v9_50.toInt) (k2 : v9_50.toInt ≤ 200) (k3 : 0 ≤ v9_51.toInt) (k4 : v9_51.toInt ≤ 200) (hC : (C : Int) = v9_50.toInt + v9_51.toInt) (hfit : y_Fit v9_49.toInt C) (hH : y_H C v9_49.toInt v9_51.toInt g9_57) (hx1 : 1 ≤ cx) (hx2 : cx ≤ 20001) (hx39 : y_NI cx g9_39) (hctx : y_RI v9_49.toInt 0 (cx - 1) g9_44) (hord : y_RI v9_49.toInt 0 (v9_49.toInt - 1) g9_52) (k13 : 0 ≤ l3.toInt) (k14 : l3.toInt ≤ v9_49.toInt) : y_Ok (f_X9_digest_L v9_49 v9_50 v9_51 v9_58 g9_39 g9_43 g9_44 g9_52 g9_57 v9_0 (0, l1, l3, l4, l5, l6)) (fun r => (True)) := y_X9_digest_L_0_i (C := C) (cx := cx) k0 k1 k2 k3 k4 hC hfit hH hx1 hx2 hx39 hctx hord (v9_49.toInt - l3.toInt + 1).toNat k13 k14 (by omega)
set_option maxHeartbeats 4000000 in
theorem y_X9_digest {v9_0 : Int32} {v9_49 : Int32} {v9_50 : Int32} {v9_51 : Int32} {v9_58 : Int32} {g9_39 : Nat → Int32} {g9_43 : Nat → Int32} {g9_44 : Nat → Int32} {g9_52 : Nat → Int32} {g9_57 : Nat → Int32} {C : Nat} {cx : Int} (k0 : 0 ≤ v9_49.toInt) (k1 : 0 ≤ v9_50.toInt) (k2 : v9_50.toInt ≤ 200) (k3 : 0 ≤ v9_51.toInt) (k4 : v9_51.toInt ≤ 200) (hC : (C : Int) = v9_50.toInt + v9_51.toInt) (hfit : y_Fit v9_49.toInt C) (hH : y_H C v9_49.toInt v9_51.toInt g9_57) (hx1 : 1 ≤ cx) (hx2 : cx ≤ 20001) (hx39 : y_NI cx g9_39) (hctx : y_RI v9_49.toInt 0 (cx - 1) g9_44) (hord : y_RI v9_49.toInt 0 (v9_49.toInt - 1) g9_52) : y_Ok (f_X9_digest v9_0 v9_49 v9_50 v9_51 v9_58 g9_39 g9_43 g9_44 g9_52 g9_57) (fun r => (True)) := by
  unfold f_X9_digest
  have e1 : (0 : Int32).toInt = 0 := rfl
  have e2 : (7 : Int32).toInt = 7 := rfl
  exact y_Ok.mono (y_X9_digest_L_0 (C := C) (cx := cx) (l1 := 7) (l3 := 0) (l4 := 0) (l5 := 0) (l6 := 0) (by omega) (by omega) (by omega) (by omega) (by omega) (by omega) (by first | trivial | first | with_reducible assumption | omega | ((with_reducible refine y_Vl ?_ ?_) <;> omega)) (by first | trivial | first | with_reducible assumption | omega | ((with_reducible refine y_Vl ?_ ?_) <;> omega)) (by omega) (by omega) (by first | trivial | first | with_reducible assumption | omega | ((with_reducible refine y_Vl ?_ ?_) <;> omega)) (by first | trivial | first | with_reducible assumption | omega | ((with_reducible refine y_Vl ?_ ?_) <;> omega)) (by first | trivial | first | with_reducible assumption | omega | ((with_reducible refine y_Vl ?_ ?_) <;> omega)) (by omega) (by omega)) (fun _ _ => trivial)
