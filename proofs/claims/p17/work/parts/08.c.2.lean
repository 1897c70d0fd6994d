/-- how many TARGETS each switch has, here and there -/
def y_SC (n : Int) (gf gu gm : Nat → Int32) : Prop := ∀ k : Nat, (k : Int) < n → (gu k).toInt - (gf k).toInt = (gm k).toInt
theorem y_SC.at {n : Int} {gf gu gm : Nat → Int32} (h : y_SC n gf gu gm) (k : Nat) (hk : (k : Int) < n) : (gu k).toInt - (gf k).toInt = (gm k).toInt := h k hk
theorem y_SC0 {n : Int} {gf gu gm : Nat → Int32} (h : n ≤ 0) : y_SC n gf gu gm := fun k hk => by omega
theorem y_SC_put {n n2 : Int} {gf gu gm : Nat → Int32} {i : Nat} {v : Int32} (h : y_SC n gf gu gm) (hi : (i : Int) = n) (hn : n2 = n + 1) : y_SC n2 (upd gf i v) (upd gu i v) (upd gm i 0) := by
  intro k hk
  by_cases e : k = i
  · subst e; rw [y_upd1, y_upd1, y_upd1]; have : (0 : Int32).toInt = 0 := rfl; omega
  · rw [y_upd2 e, y_upd2 e, y_upd2 e]; exact h k (by omega)
theorem y_SC_to {n : Int} {gf gu gm : Nat → Int32} {i : Nat} {v w : Int32} (h : y_SC n gf gu gm) (hv : v.toInt - (gf i).toInt = w.toInt) : y_SC n gf (upd gu i v) (upd gm i w) := by
  intro k hk
  by_cases e : k = i
  · subst e; rw [y_upd1, y_upd1]; exact hv
  · rw [y_upd2 e, y_upd2 e]; exact h k hk
set_option maxHeartbeats 4000000 in
theorem ye_X0_enter {v0_10 : Int32} {g0_7 : Nat → Int32} {g0_8 : Nat → Int32} {g0_9 : Nat → Int32} {g0_12 : Nat → Int32} {g0_13 : Nat → Int32} {p1 : Int32} {p2 : Int32} {p3 : Int32} {g9_27 : Nat → Int32} (k0 : 0 ≤ v0_10.toInt) (k1 : v0_10.toInt < 1000) (hSC : y_SC v0_10.toInt g0_12 g0_13 g9_27) : y_Ok (f_X0_enter v0_10 g0_7 g0_8 g0_9 g0_12 g0_13 p1 p2 p3) (fun r => (r.1.toInt = v0_10.toInt) ∧ (r.2.1.toInt = v0_10.toInt + 1) ∧ (r.2.2.1 = upd g0_7 (Int32.toNatClampNeg v0_10) p1) ∧ (y_SC r.2.1.toInt r.2.2.2.2.2.1 r.2.2.2.2.2.2 (upd g9_27 (Int32.toNatClampNeg v0_10) 0))) := by
  unfold f_X0_enter
  refine y_if (fun c1 => ?_) (fun c1 => ?_)
  · skip
    have e2 : (0 : Int32).toInt = 0 := rfl
    have c1' := c1
    rw [Int32.le_iff_toInt_le] at c1'
    refine y_gd (y_gdI (by omega) (by omega)) ?_
    refine y_gd (y_gdI (by omega) (by omega)) ?_
    refine y_gd (y_gdI (by omega) (by omega)) ?_
    refine y_gd (y_gdI (by omega) (by omega)) ?_
    refine y_gd (y_gdI (by omega) (by omega)) ?_
    try have e3 := @y_addL v0_10 (1 : Int32) (1) rfl (by omega) (by omega)
    try have e4 := @y_cl v0_10 (by omega)
    refine y_some ?_
    try dsimp only
    refine ⟨?_, ?_, ?_, ?_⟩ <;> (first | with_reducible rfl | rfl | omega | (exact y_SC_put hSC (by omega) (by omega)))
  · skip
    have e5 : (0 : Int32).toInt = 0 := rfl
    have c1' := c1
    rw [Int32.le_iff_toInt_le] at c1'
    try have e6 := @y_subL v0_10 (1 : Int32) (1) rfl (by omega) (by omega)
    refine y_gd (y_gdI (by omega) (by omega)) ?_
    refine y_gd (y_gdI (by omega) (by omega)) ?_
    refine y_gd (y_gdI (by omega) (by omega)) ?_
    refine y_gd (y_gdI (by omega) (by omega)) ?_
    refine y_gd (y_gdI (by omega) (by omega)) ?_
    refine y_gd (y_gdI (by omega) (by omega)) ?_
    try have e7 := @y_addL v0_10 (1 : Int32) (1) rfl (by omega) (by omega)
    try have e8 := @y_cl v0_10 (by omega)
    try have e9 := @y_cl (v0_10 - (1 : Int32)) (by omega)
    refine y_some ?_
    try dsimp only
    refine ⟨?_, ?_, ?_, ?_⟩ <;> (first | with_reducible rfl | rfl | omega | (exact y_SC_put hSC (by omega) (by omega)))
set_option maxHeartbeats 4000000 in
theorem ye_X0_canSwitchToMore {v0_10 : Int32} {g0_7 : Nat → Int32} {g0_12 : Nat → Int32} {g0_13 : Nat → Int32} {n0_11 : Nat} (k0 : 0 ≤ v0_10.toInt) (k1 : v0_10.toInt ≤ 1000) (hSB : y_SB v0_10.toInt n0_11 g0_12 g0_13 g0_7) : y_Ok (f_X0_canSwitchToMore v0_10 g0_7 g0_12 g0_13) (fun r => ((r.toInt = 0 ∧ ¬ (1 ≤ v0_10.toInt ∧ (g0_13 (Int32.toNatClampNeg (v0_10 - (1 : Int32)))).toInt < (g0_12 (Int32.toNatClampNeg (v0_10 - (1 : Int32)))).toInt + 50 ∧ ((g0_7 (Int32.toNatClampNeg (v0_10 - (1 : Int32)))).toInt = 170 ∨ (g0_7 (Int32.toNatClampNeg (v0_10 - (1 : Int32)))).toInt = 171))) ∨ (r.toInt = 1 ∧ (1 ≤ v0_10.toInt ∧ (g0_13 (Int32.toNatClampNeg (v0_10 - (1 : Int32)))).toInt < (g0_12 (Int32.toNatClampNeg (v0_10 - (1 : Int32)))).toInt + 50 ∧ ((g0_7 (Int32.toNatClampNeg (v0_10 - (1 : Int32)))).toInt = 170 ∨ (g0_7 (Int32.toNatClampNeg (v0_10 - (1 : Int32)))).toInt = 171))))) := by
  have hs1 := @y_subL v0_10 1 1 rfl (by omega) (by omega)
  unfold f_X0_canSwitchToMore
  refine y_if (fun c1 => ?_) (fun c1 => ?_)
  · skip
    try have e2 := @y_subL v0_10 (1 : Int32) (1) rfl (by omega) (by omega)
    have e3 : (0 : Int32).toInt = 0 := rfl
    have c1' := c1
    rw [Int32.lt_iff_toInt_lt] at c1'
    refine y_some ?_
    try dsimp only
    (first | omega | (exact Or.inl ⟨by omega, by omega⟩) | (exact Or.inr ⟨by omega, by omega⟩))
  · skip
    try have e4 := @y_subL v0_10 (1 : Int32) (1) rfl (by omega) (by omega)
    have e5 : (0 : Int32).toInt = 0 := rfl
    have c1' := c1
    rw [Int32.lt_iff_toInt_lt] at c1'
    have hc1 := @y_cl (v0_10 - (1 : Int32)) (by omega)
    have hsb := hSB.at (Int32.toNatClampNeg (v0_10 - (1 : Int32))) (by omega)
    refine y_gd (y_gdI (by omega) (by omega)) ?_
    try have e6 := @y_cl (v0_10 - (1 : Int32)) (by omega)
    refine y_bi (y_X0_isSwitch) (fun r_3 h_r_3 => ?_)
    have h0_r_3 : (r_3.toInt = 0 ∧ ¬ ((g0_7 (Int32.toNatClampNeg (v0_10 - (1 : Int32)))).toInt = 170 ∨ (g0_7 (Int32.toNatClampNeg (v0_10 - (1 : Int32)))).toInt = 171)) ∨ (r_3.toInt = 1 ∧ ((g0_7 (Int32.toNatClampNeg (v0_10 - (1 : Int32)))).toInt = 170 ∨ (g0_7 (Int32.toNatClampNeg (v0_10 - (1 : Int32)))).toInt = 171)) := h_r_3
    refine y_if (fun c7 => ?_) (fun c7 => ?_)
    · skip
      have c7' := c7
      rw [← Int32.toInt_inj] at c7'
      have e8 := y_or0 h0_r_3 c7'
      clear h0_r_3
      refine y_some ?_
      try dsimp only
      (first | omega | (exact Or.inl ⟨by omega, by omega⟩) | (exact Or.inr ⟨by omega, by omega⟩))
    · skip
      have c7' := c7
      rw [← Int32.toInt_inj] at c7'
      have e9 := y_or1 h0_r_3 c7'
      clear h0_r_3
      refine y_gd (y_gdI (by omega) (by omega)) ?_
      refine y_gd (y_gdI (by omega) (by omega)) ?_
      refine y_if (fun c10 => ?_) (fun c10 => ?_)
      · skip
        have e11 : (50 : Int32).toInt = 50 := rfl
        try have e12 := @y_sub (g0_13 (Int32.toNatClampNeg (v0_10 - (1 : Int32)))) (g0_12 (Int32.toNatClampNeg (v0_10 - (1 : Int32)))) (by omega) (by omega)
        have c10' := c10
        rw [Int32.le_iff_toInt_le] at c10'
        refine y_some ?_
        try dsimp only
        (first | omega | (exact Or.inl ⟨by omega, by omega⟩) | (exact Or.inr ⟨by omega, by omega⟩))
      · skip
        have e13 : (50 : Int32).toInt = 50 := rfl
        try have e14 := @y_sub (g0_13 (Int32.toNatClampNeg (v0_10 - (1 : Int32)))) (g0_12 (Int32.toNatClampNeg (v0_10 - (1 : Int32)))) (by omega) (by omega)
        have c10' := c10
        rw [Int32.le_iff_toInt_le] at c10'
        have e15 : (1 : Int32).toInt = 1 := rfl
        refine y_some ?_
        try dsimp only
        (first | omega | (exact Or.inl ⟨by omega, by omega⟩) | (exact Or.inr ⟨by omega, by omega⟩))
set_option maxHeartbeats 4000000 in
theorem ye_X0_switchToMore {v0_10 : Int32} {g0_11 : Nat → Int32} {n0_11 : Nat} {g0_12 : Nat → Int32} {g0_13 : Nat → Int32} {p1 : Int32} {g0_7 g9_27 : Nat → Int32} (k0 : 1 ≤ v0_10.toInt) (k1 : v0_10.toInt ≤ 1000) (k2 : 64 ≤ n0_11) (k3 : n0_11 ≤ 131072) (hSB : y_SB v0_10.toInt n0_11 g0_12 g0_13 g0_7) (hSC : y_SC v0_10.toInt g0_12 g0_13 g9_27) (hcan : (g0_13 (Int32.toNatClampNeg (v0_10 - (1 : Int32)))).toInt < (g0_12 (Int32.toNatClampNeg (v0_10 - (1 : Int32)))).toInt + 50) : y_Ok (f_X0_switchToMore v0_10 g0_11 n0_11 g0_12 g0_13 p1) (fun r => (r.1.toInt = (g0_13 (Int32.toNatClampNeg (v0_10 - (1 : Int32)))).toInt + 1 - (g0_12 (Int32.toNatClampNeg (v0_10 - (1 : Int32)))).toInt) ∧ (y_SC v0_10.toInt g0_12 r.2.2.2.1 (upd g9_27 (Int32.toNatClampNeg (v0_10 - (1 : Int32))) ((g9_27 (Int32.toNatClampNeg (v0_10 - (1 : Int32)))) + (1 : Int32))))) := by
  have hs1 := @y_subL v0_10 1 1 rfl (by omega) (by omega)
  have hc1 := @y_cl (v0_10 - (1 : Int32)) (by omega)
  have hsb := hSB.at (Int32.toNatClampNeg (v0_10 - (1 : Int32))) (by omega)
  have hon := @y_ofNat n0_11 (by omega)
  have hcn := @y_cl (Int32.ofNat n0_11) (by omega)
  have hsc := hSC.at (Int32.toNatClampNeg (v0_10 - (1 : Int32))) (by omega)
  have hm1 := @y_addL (g9_27 (Int32.toNatClampNeg (v0_10 - (1 : Int32)))) 1 1 rfl (by omega) (by omega)
  unfold f_X0_switchToMore
  try have e1 := @y_subL v0_10 (1 : Int32) (1) rfl (by omega) (by omega)
  refine y_gd (y_gdI (by omega) (by omega)) ?_
  refine y_if (fun c2 => ?_) (fun c2 => ?_)
  · skip
    try have e3 := @y_cl (v0_10 - (1 : Int32)) (by omega)
    try have e4 := @y_ofNat n0_11 (by omega)
    have c2' := c2
    rw [Int32.lt_iff_toInt_lt] at c2'
    refine y_gd (y_gdI (by omega) (by omega)) ?_
    refine y_gd (y_gdI (by omega) (by omega)) ?_
    refine y_gd (y_gdI (by omega) (by omega)) ?_
    try have e5 := @y_addL (g0_13 (Int32.toNatClampNeg (v0_10 - (1 : Int32)))) (1 : Int32) (1) rfl (by omega) (by omega)
    try have e6 := @y_sub ((g0_13 (Int32.toNatClampNeg (v0_10 - (1 : Int32)))) + (1 : Int32)) (g0_12 (Int32.toNatClampNeg (v0_10 - (1 : Int32)))) (by omega) (by omega)
    try have e7 := @y_cl (g0_13 (Int32.toNatClampNeg (v0_10 - (1 : Int32)))) (by omega)
    have e8 : (0 : Int32).toInt = 0 := rfl
    refine y_some ?_
    try dsimp only
    refine ⟨?_, ?_⟩ <;> (first | omega | (exact y_SC_to hSC (by omega)))
  · skip
    try have e9 := @y_cl (v0_10 - (1 : Int32)) (by omega)
    try have e10 := @y_ofNat n0_11 (by omega)
    have c2' := c2
    rw [Int32.lt_iff_toInt_lt] at c2'
    have e11 : (2 : Int32).toInt = 2 := rfl
    try have e12 := @y_mulL (2 : Int32) (Int32.ofNat n0_11) 2 rfl (by omega) (by omega)
    refine y_gd (y_ngI (by omega) (by omega) (by omega)) ?_
    refine y_bt ?_
    try have e13 := @y_cl ((2 : Int32) * (Int32.ofNat n0_11)) (by omega)
    refine y_gd (y_gdI (by omega) (by omega)) ?_
    refine y_gd (y_gdI (by omega) (by omega)) ?_
    refine y_gd (y_gdI (by omega) (by omega)) ?_
    refine y_some ?_
    try dsimp only
    try have e14 := @y_addL (g0_13 (Int32.toNatClampNeg (v0_10 - (1 : Int32)))) (1 : Int32) (1) rfl (by omega) (by omega)
    try have e15 := @y_sub ((g0_13 (Int32.toNatClampNeg (v0_10 - (1 : Int32)))) + (1 : Int32)) (g0_12 (Int32.toNatClampNeg (v0_10 - (1 : Int32)))) (by omega) (by omega)
    try have e16 := @y_cl (g0_13 (Int32.toNatClampNeg (v0_10 - (1 : Int32)))) (by omega)
    have e17 : (0 : Int32).toInt = 0 := rfl
    try have e18 := @y_addL (0 : Int32) (1 : Int32) (1) rfl (by omega) (by omega)
    try have e19 := @y_add (0 : Int32) (Int32.toNatClampNeg ((2 : Int32) * (Int32.ofNat n0_11))) (by omega) (by omega)
    refine y_some ?_
    try dsimp only
    refine ⟨?_, ?_⟩ <;> (first | omega | (exact y_SC_to hSC (by omega)))
set_option maxHeartbeats 4000000 in
theorem ex_put {v7_2 : Int32} {v4_2 : Int32} {v4_8 : Int32} {v0_10 : Int32} {g0_7 : Nat → Int32} {g0_8 : Nat → Int32} {g0_9 : Nat → Int32} {g0_12 : Nat → Int32} {g0_13 : Nat → Int32} {p1 : Int32} {p2 : Int32} {p3 : Int32} {v9_0 : Int32} {v9_22 : Int32} {g9_24 : Nat → Int32} {g9_25 : Nat → Int32} {g9_26 : Nat → Int32} {g9_27 : Nat → Int32} (k0 : 4 ≤ v7_2.toInt) (k1 : v7_2.toInt ≤ 200) (k2 : 0 ≤ v4_2.toInt) (k3 : v4_2.toInt ≤ 100) (k4 : 0 ≤ v4_8.toInt) (k5 : v4_8.toInt ≤ 100) (k6 : 0 ≤ v0_10.toInt) (k7 : v0_10.toInt ≤ 1000) (hSC : y_SC v0_10.toInt g0_12 g0_13 g9_27) : y_Ok ((f_X8_put v7_2 v4_2 v4_8 v0_10 g0_7 g0_8 g0_9 g0_12 g0_13 p1 p2 p3) >>= (fun R => (f_X9_put v9_0 v7_2 v4_2 v4_8 v0_10 v9_22 g0_7 g9_24 g9_25 g9_26 g9_27 p1 p2 p3) >>= (fun S => some (R.1, R.2.1, R.2.2.1, R.2.2.2.1, R.2.2.2.2.1, R.2.2.2.2.2.1, R.2.2.2.2.2.2.1, R.2.2.2.2.2.2.2, S.1, S.2.1, S.2.2.1, S.2.2.2.1, S.2.2.2.2.1, S.2.2.2.2.2.1, S.2.2.2.2.2.2.1, S.2.2.2.2.2.2.2)))) (fun r => (r.2.2.2.2.2.2.2.2.2.1.toInt = r.1.toInt) ∧ (¬ r.1.toInt = 0 ∨ r.2.1.toInt = r.2.2.2.2.2.2.2.2.1.toInt) ∧ (r.2.2.1.toInt = r.2.2.2.2.2.2.2.2.2.2.1.toInt) ∧ (r.2.2.2.1 = r.2.2.2.2.2.2.2.2.2.2.2.1) ∧ (y_SC r.2.2.1.toInt r.2.2.2.2.2.2.1 r.2.2.2.2.2.2.2.1 r.2.2.2.2.2.2.2.2.2.2.2.2.2.2.2)) := by
  unfold f_X8_put f_X9_put
  refine y_bt ?_
  refine y_bi (ye_X8_isInstruction (by omega) (by omega) (by omega) (by omega) (by omega) (by omega)) (fun r_1 h_r_1 => ?_)
  have h0_r_1 : (r_1.toInt = 0 ∧ ¬ (y_Fi p1.toInt p2.toInt p3.toInt v7_2.toInt v4_2.toInt v4_8.toInt)) ∨ (r_1.toInt = 1 ∧ (y_Fi p1.toInt p2.toInt p3.toInt v7_2.toInt v4_2.toInt v4_8.toInt)) := h_r_1
  refine y_if (fun c1 => ?_) (fun c1 => ?_)
  · skip
    have e2 : (0 : Int32).toInt = 0 := rfl
    have c1' := c1
    rw [← Int32.toInt_inj] at c1'
    have e3 := y_or0 h0_r_1 c1'
    clear h0_r_1
    refine y_some ?_
    try dsimp only
    refine y_bt ?_
    refine y_bi (ye_X9_fits (by omega) (by omega) (by omega) (by omega) (by omega) (by omega)) (fun s_1 h_s_1 => ?_)
    have h0_s_1 : (s_1.toInt = 0 ∧ ¬ (y_Fi p1.toInt p2.toInt p3.toInt v7_2.toInt v4_2.toInt v4_8.toInt)) ∨ (s_1.toInt = 1 ∧ (y_Fi p1.toInt p2.toInt p3.toInt v7_2.toInt v4_2.toInt v4_8.toInt)) := h_s_1
    refine y_if (fun c4 => ?_) (fun c4 => ?_)
    · skip
      have c4' := c4
      rw [← Int32.toInt_inj] at c4'
      have e5 := y_or0 h0_s_1 c4'
      clear h0_s_1
      refine y_bi (y_X9_bad) (fun s_10 h_s_10 => ?_)
      obtain ⟨h0_s_10, h1_s_10⟩ := h_s_10
      refine y_some ?_
      try dsimp only
      have e6 : (1 : Int32).toInt = 1 := rfl
      refine y_some ?_
      try dsimp only
      refine ⟨?_, ?_, ?_, ?_, ?_⟩ <;> (first | with_reducible rfl | with_reducible assumption | omega | (exfalso; omega) | (exfalso; with_reducible contradiction) | (rw [h2_r_4]) | (exact h3_r_4))
    · skip
      have c4' := c4
      rw [← Int32.toInt_inj] at c4'
      have e7 := y_or1 h0_s_1 c4'
      clear h0_s_1
      refine y_if (fun c8 => ?_) (fun c8 => ?_)
      · skip
        have e9 : (1000 : Int32).toInt = 1000 := rfl
        have c8' := c8
        rw [← Int32.toInt_inj] at c8'
        refine y_bi (y_X9_full) (fun s_9 h_s_9 => ?_)
        obtain ⟨h0_s_9, h1_s_9⟩ := h_s_9
        refine y_some ?_
        try dsimp only
        have e10 : (1 : Int32).toInt = 1 := rfl
        refine y_some ?_
        try dsimp only
        refine ⟨?_, ?_, ?_, ?_, ?_⟩ <;> (first | with_reducible rfl | with_reducible assumption | omega | (exfalso; omega) | (exfalso; with_reducible contradiction) | (rw [h2_r_4]) | (exact h3_r_4))
      · skip
        have e11 : (1000 : Int32).toInt = 1000 := rfl
        have c8' := c8
        rw [← Int32.toInt_inj] at c8'
        refine y_gd (y_gdI (by omega) (by omega)) ?_
        refine y_gd (y_gdI (by omega) (by omega)) ?_
        refine y_gd (y_gdI (by omega) (by omega)) ?_
        refine y_gd (y_gdI (by omega) (by omega)) ?_
        refine y_gd (y_gdI (by omega) (by omega)) ?_
        refine y_some ?_
        try dsimp only
        have e12 : (1 : Int32).toInt = 1 := rfl
        try have e13 := @y_addL v0_10 (1 : Int32) (1) rfl (by omega) (by omega)
        try have e14 := @y_cl v0_10 (by omega)
        refine y_some ?_
        try dsimp only
        refine ⟨?_, ?_, ?_, ?_, ?_⟩ <;> (first | with_reducible rfl | with_reducible assumption | omega | (exfalso; omega) | (exfalso; with_reducible contradiction) | (rw [h2_r_4]) | (exact h3_r_4))
  · skip
    have e15 : (0 : Int32).toInt = 0 := rfl
    have c1' := c1
    rw [← Int32.toInt_inj] at c1'
    have e16 := y_or1 h0_r_1 c1'
    clear h0_r_1
    refine y_if (fun c17 => ?_) (fun c17 => ?_)
    · skip
      have e18 : (1000 : Int32).toInt = 1000 := rfl
      have c17' := c17
      rw [Int32.lt_iff_toInt_lt] at c17'
      refine y_bi (ye_X0_enter (g9_27 := g9_27) (by omega) (by omega) (by first | with_reducible rfl | with_reducible assumption | omega | (exfalso; omega) | (exfalso; with_reducible contradiction) | (rw [h2_r_4]) | (exact h3_r_4))) (fun r_4 h_r_4 => ?_)
      obtain ⟨h0_r_4, h1_r_4, h2_r_4, h3_r_4⟩ := h_r_4
      refine y_some ?_
      try dsimp only
      refine y_bt ?_
      refine y_bi (ye_X9_fits (by omega) (by omega) (by omega) (by omega) (by omega) (by omega)) (fun s_1 h_s_1 => ?_)
      have h0_s_1 : (s_1.toInt = 0 ∧ ¬ (y_Fi p1.toInt p2.toInt p3.toInt v7_2.toInt v4_2.toInt v4_8.toInt)) ∨ (s_1.toInt = 1 ∧ (y_Fi p1.toInt p2.toInt p3.toInt v7_2.toInt v4_2.toInt v4_8.toInt)) := h_s_1
      refine y_if (fun c19 => ?_) (fun c19 => ?_)
      · skip
        have c19' := c19
        rw [← Int32.toInt_inj] at c19'
        have e20 := y_or0 h0_s_1 c19'
        clear h0_s_1
        refine y_bi (y_X9_bad) (fun s_10 h_s_10 => ?_)
        obtain ⟨h0_s_10, h1_s_10⟩ := h_s_10
        refine y_some ?_
        try dsimp only
        refine y_some ?_
        try dsimp only
        refine ⟨?_, ?_, ?_, ?_, ?_⟩ <;> (first | with_reducible rfl | with_reducible assumption | omega | (exfalso; omega) | (exfalso; with_reducible contradiction) | (rw [h2_r_4]) | (exact h3_r_4))
      · skip
        have c19' := c19
        rw [← Int32.toInt_inj] at c19'
        have e21 := y_or1 h0_s_1 c19'
        clear h0_s_1
        refine y_if (fun c22 => ?_) (fun c22 => ?_)
        · skip
          have c22' := c22
          rw [← Int32.toInt_inj] at c22'
          refine y_bi (y_X9_full) (fun s_9 h_s_9 => ?_)
          obtain ⟨h0_s_9, h1_s_9⟩ := h_s_9
          refine y_some ?_
          try dsimp only
          refine y_some ?_
          try dsimp only
          refine ⟨?_, ?_, ?_, ?_, ?_⟩ <;> (first | with_reducible rfl | with_reducible assumption | omega | (exfalso; omega) | (exfalso; with_reducible contradiction) | (rw [h2_r_4]) | (exact h3_r_4))
        · skip
          have c22' := c22
          rw [← Int32.toInt_inj] at c22'
          refine y_gd (y_gdI (by omega) (by omega)) ?_
          refine y_gd (y_gdI (by omega) (by omega)) ?_
          refine y_gd (y_gdI (by omega) (by omega)) ?_
          refine y_gd (y_gdI (by omega) (by omega)) ?_
          refine y_gd (y_gdI (by omega) (by omega)) ?_
          refine y_some ?_
          try dsimp only
          try have e23 := @y_addL v0_10 (1 : Int32) (1) rfl (by omega) (by omega)
          try have e24 := @y_cl v0_10 (by omega)
          refine y_some ?_
          try dsimp only
          refine ⟨?_, ?_, ?_, ?_, ?_⟩ <;> (first | with_reducible rfl | with_reducible assumption | omega | (exfalso; omega) | (exfalso; with_reducible contradiction) | (rw [h2_r_4]) | (exact h3_r_4))
    · skip
      have e25 : (1000 : Int32).toInt = 1000 := rfl
      have c17' := c17
      rw [Int32.lt_iff_toInt_lt] at c17'
      refine y_some ?_
      try dsimp only
      refine y_bt ?_
      refine y_bi (ye_X9_fits (by omega) (by omega) (by omega) (by omega) (by omega) (by omega)) (fun s_1 h_s_1 => ?_)
      have h0_s_1 : (s_1.toInt = 0 ∧ ¬ (y_Fi p1.toInt p2.toInt p3.toInt v7_2.toInt v4_2.toInt v4_8.toInt)) ∨ (s_1.toInt = 1 ∧ (y_Fi p1.toInt p2.toInt p3.toInt v7_2.toInt v4_2.toInt v4_8.toInt)) := h_s_1
      refine y_if (fun c26 => ?_) (fun c26 => ?_)
      · skip
        have c26' := c26
        rw [← Int32.toInt_inj] at c26'
        have e27 := y_or0 h0_s_1 c26'
        clear h0_s_1
        refine y_bi (y_X9_bad) (fun s_10 h_s_10 => ?_)
        obtain ⟨h0_s_10, h1_s_10⟩ := h_s_10
        refine y_some ?_
        try dsimp only
        have e28 : (2 : Int32).toInt = 2 := rfl
        refine y_some ?_
        try dsimp only
        refine ⟨?_, ?_, ?_, ?_, ?_⟩ <;> (first | with_reducible rfl | with_reducible assumption | omega | (exfalso; omega) | (exfalso; with_reducible contradiction) | (rw [h2_r_4]) | (exact h3_r_4))
      · skip
        have c26' := c26
        rw [← Int32.toInt_inj] at c26'
        have e29 := y_or1 h0_s_1 c26'
        clear h0_s_1
        refine y_if (fun c30 => ?_) (fun c30 => ?_)
        · skip
          have c30' := c30
          rw [← Int32.toInt_inj] at c30'
          refine y_bi (y_X9_full) (fun s_9 h_s_9 => ?_)
          obtain ⟨h0_s_9, h1_s_9⟩ := h_s_9
          refine y_some ?_
          try dsimp only
          have e31 : (2 : Int32).toInt = 2 := rfl
          refine y_some ?_
          try dsimp only
          refine ⟨?_, ?_, ?_, ?_, ?_⟩ <;> (first | with_reducible rfl | with_reducible assumption | omega | (exfalso; omega) | (exfalso; with_reducible contradiction) | (rw [h2_r_4]) | (exact h3_r_4))
        · skip
          have c30' := c30
          rw [← Int32.toInt_inj] at c30'
          refine y_gd (y_gdI (by omega) (by omega)) ?_
          refine y_gd (y_gdI (by omega) (by omega)) ?_
          refine y_gd (y_gdI (by omega) (by omega)) ?_
          refine y_gd (y_gdI (by omega) (by omega)) ?_
          refine y_gd (y_gdI (by omega) (by omega)) ?_
          refine y_some ?_
          try dsimp only
          have e32 : (2 : Int32).toInt = 2 := rfl
          try have e33 := @y_addL v0_10 (1 : Int32) (1) rfl (by omega) (by omega)
          try have e34 := @y_cl v0_10 (by omega)
          refine y_some ?_
          try dsimp only
          refine ⟨?_, ?_, ?_, ?_, ?_⟩ <;> (first | with_reducible rfl | with_reducible assumption | omega | (exfalso; omega) | (exfalso; with_reducible contradiction) | (rw [h2_r_4]) | (exact h3_r_4))
set_option maxHeartbeats 4000000 in
theorem ex_to {g9_26 : Nat → Int32} {v0_10 : Int32} {g0_7 : Nat → Int32} {g0_11 : Nat → Int32} {n0_11 : Nat} {g0_12 : Nat → Int32} {g0_13 : Nat → Int32} {p1 : Int32} {v9_0 : Int32} {v9_22 : Int32} {g9_27 : Nat → Int32} {g9_28 : Nat → Int32} (k0 : 0 ≤ v0_10.toInt) (k1 : v0_10.toInt ≤ 1000) (k2 : 64 ≤ n0_11) (k3 : n0_11 ≤ 131072) (hSB : y_SB v0_10.toInt n0_11 g0_12 g0_13 g0_7) (hSC : y_SC v0_10.toInt g0_12 g0_13 g9_27) (hTB : y_TB v0_10.toInt v9_22.toInt g9_26 g9_27) : y_Ok ((f_X8_to v0_10 g0_7 g0_11 n0_11 g0_12 g0_13 p1) >>= (fun R => (f_X9_to v9_0 v0_10 v9_22 g0_7 g9_27 g9_28 p1) >>= (fun S => some (R.1, R.2.1, R.2.2.1, R.2.2.2.1, R.2.2.2.2.1, S.1, S.2.1, S.2.2.1, S.2.2.2.1, S.2.2.2.2)))) (fun r => (r.2.2.2.2.2.2.1.toInt = r.1.toInt) ∧ (¬ r.1.toInt = 0 ∨ r.2.1.toInt = r.2.2.2.2.2.1.toInt) ∧ (y_SC v0_10.toInt g0_12 r.2.2.2.2.1 r.2.2.2.2.2.2.2.2.1)) := by
  have hs1 := @y_subL v0_10 1 1 rfl (by omega) (by omega)
  have hscl : v0_10.toInt ≤ 0 ∨ (g0_13 (Int32.toNatClampNeg (v0_10 - (1 : Int32)))).toInt - (g0_12 (Int32.toNatClampNeg (v0_10 - (1 : Int32)))).toInt = (g9_27 (Int32.toNatClampNeg (v0_10 - (1 : Int32)))).toInt := by by_cases hz : v0_10.toInt ≤ 0; exact Or.inl hz; exact Or.inr (hSC.at _ (by have := @y_cl (v0_10 - (1 : Int32)) (by omega); omega))
  have htbl : v0_10.toInt ≤ 0 ∨ (0 ≤ (g9_27 (Int32.toNatClampNeg (v0_10 - (1 : Int32)))).toInt ∧ (g9_27 (Int32.toNatClampNeg (v0_10 - (1 : Int32)))).toInt ≤ 50 ∧ v9_22.toInt ≤ 50 * (v0_10.toInt - 1) + (g9_27 (Int32.toNatClampNeg (v0_10 - (1 : Int32)))).toInt) := by by_cases hz : v0_10.toInt ≤ 0; exact Or.inl hz; exact Or.inr (by have h5 := @y_cl (v0_10 - (1 : Int32)) (by omega); have h6 := hTB.at (Int32.toNatClampNeg (v0_10 - (1 : Int32))) (by omega); have h7 := hTB.la (Int32.toNatClampNeg (v0_10 - (1 : Int32))) (by omega); omega)
  have hto := hTB.tos (by omega)
  have hp1 := p1.toInt_lt
  unfold f_X8_to f_X9_to
  refine y_bt ?_
  refine y_if (fun c1 => ?_) (fun c1 => ?_)
  · skip
    have e2 : (0 : Int32).toInt = 0 := rfl
    have c1' := c1
    rw [Int32.le_iff_toInt_le] at c1'
    refine y_bi (ye_X0_canSwitchToMore (n0_11 := n0_11) (by omega) (by omega) (by first | with_reducible rfl | with_reducible assumption | omega | (exfalso; omega) | (exfalso; with_reducible contradiction) | (exact h1_r_4))) (fun r_2 h_r_2 => ?_)
    have h0_r_2 : (r_2.toInt = 0 ∧ ¬ (1 ≤ v0_10.toInt ∧ (g0_13 (Int32.toNatClampNeg (v0_10 - (1 : Int32)))).toInt < (g0_12 (Int32.toNatClampNeg (v0_10 - (1 : Int32)))).toInt + 50 ∧ ((g0_7 (Int32.toNatClampNeg (v0_10 - (1 : Int32)))).toInt = 170 ∨ (g0_7 (Int32.toNatClampNeg (v0_10 - (1 : Int32)))).toInt = 171))) ∨ (r_2.toInt = 1 ∧ (1 ≤ v0_10.toInt ∧ (g0_13 (Int32.toNatClampNeg (v0_10 - (1 : Int32)))).toInt < (g0_12 (Int32.toNatClampNeg (v0_10 - (1 : Int32)))).toInt + 50 ∧ ((g0_7 (Int32.toNatClampNeg (v0_10 - (1 : Int32)))).toInt = 170 ∨ (g0_7 (Int32.toNatClampNeg (v0_10 - (1 : Int32)))).toInt = 171))) := h_r_2
    refine y_if (fun c3 => ?_) (fun c3 => ?_)
    · skip
      have c3' := c3
      rw [← Int32.toInt_inj] at c3'
      have e4 := y_or0 h0_r_2 c3'
      clear h0_r_2
      refine y_some ?_
      try dsimp only
      refine y_bt ?_
      refine y_if (fun c5 => ?_) (fun c5 => ?_)
      · skip
        have c5' := c5
        rw [Int32.le_iff_toInt_le] at c5'
        refine y_if (fun c6 => ?_) (fun c6 => ?_)
        · skip
          have c6' := c6
          rw [← Int32.toInt_inj] at c6'
          refine y_bi (y_X9_full) (fun s_3 h_s_3 => ?_)
          obtain ⟨h0_s_3, h1_s_3⟩ := h_s_3
          refine y_some ?_
          try dsimp only
          have e7 : (2 : Int32).toInt = 2 := rfl
          refine y_some ?_
          try dsimp only
          refine ⟨?_, ?_, ?_⟩ <;> (first | with_reducible rfl | with_reducible assumption | omega | (exfalso; omega) | (exfalso; with_reducible contradiction) | (exact h1_r_4))
        · skip
          have c6' := c6
          rw [← Int32.toInt_inj] at c6'
          try have e8 := @y_subL v0_10 (1 : Int32) (1) rfl (by omega) (by omega)
          refine y_gd (y_gdI (by omega) (by omega)) ?_
          refine y_if (fun c9 => ?_) (fun c9 => ?_)
          · skip
            try have e10 := @y_cl (v0_10 - (1 : Int32)) (by omega)
            have e11 : (170 : Int32).toInt = 170 := rfl
            have c9' := c9
            rw [← Int32.toInt_inj] at c9'
            refine y_gd (y_gdI (by omega) (by omega)) ?_
            refine y_if (fun c12 => ?_) (fun c12 => ?_)
            · skip
              have e13 : (50 : Int32).toInt = 50 := rfl
              have c12' := c12
              rw [← Int32.toInt_inj] at c12'
              refine y_bi (y_X9_full) (fun s_11 h_s_11 => ?_)
              obtain ⟨h0_s_11, h1_s_11⟩ := h_s_11
              refine y_some ?_
              try dsimp only
              have e14 : (2 : Int32).toInt = 2 := rfl
              refine y_some ?_
              try dsimp only
              refine ⟨?_, ?_, ?_⟩ <;> (first | with_reducible rfl | with_reducible assumption | omega | (exfalso; omega) | (exfalso; with_reducible contradiction) | (exact h1_r_4))
            · skip
              have e15 : (50 : Int32).toInt = 50 := rfl
              have c12' := c12
              rw [← Int32.toInt_inj] at c12'
              refine y_gd (y_gdI (by omega) (by omega)) ?_
              refine y_gd (y_gdI (by omega) (by omega)) ?_
              refine y_gd (y_gdI (by omega) (by omega)) ?_
              refine y_some ?_
              try dsimp only
              have e16 : (2 : Int32).toInt = 2 := rfl
              try have e17 := @y_addL (g9_27 (Int32.toNatClampNeg (v0_10 - (1 : Int32)))) (1 : Int32) (1) rfl (by omega) (by omega)
              try have e18 := @y_addL v9_22 (1 : Int32) (1) rfl (by omega) (by omega)
              try have e19 := @y_cl v9_22 (by omega)
              refine y_some ?_
              try dsimp only
              refine ⟨?_, ?_, ?_⟩ <;> (first | with_reducible rfl | with_reducible assumption | omega | (exfalso; omega) | (exfalso; with_reducible contradiction) | (exact h1_r_4))
          · skip
            try have e20 := @y_cl (v0_10 - (1 : Int32)) (by omega)
            have e21 : (170 : Int32).toInt = 170 := rfl
            have c9' := c9
            rw [← Int32.toInt_inj] at c9'
            refine y_gd (y_gdI (by omega) (by omega)) ?_
            refine y_if (fun c22 => ?_) (fun c22 => ?_)
            · skip
              have e23 : (171 : Int32).toInt = 171 := rfl
              have c22' := c22
              rw [← Int32.toInt_inj] at c22'
              refine y_gd (y_gdI (by omega) (by omega)) ?_
              refine y_if (fun c24 => ?_) (fun c24 => ?_)
              · skip
                have e25 : (50 : Int32).toInt = 50 := rfl
                have c24' := c24
                rw [← Int32.toInt_inj] at c24'
                refine y_bi (y_X9_full) (fun s_20 h_s_20 => ?_)
                obtain ⟨h0_s_20, h1_s_20⟩ := h_s_20
                refine y_some ?_
                try dsimp only
                have e26 : (2 : Int32).toInt = 2 := rfl
                refine y_some ?_
                try dsimp only
                refine ⟨?_, ?_, ?_⟩ <;> (first | with_reducible rfl | with_reducible assumption | omega | (exfalso; omega) | (exfalso; with_reducible contradiction) | (exact h1_r_4))
              · skip
                have e27 : (50 : Int32).toInt = 50 := rfl
                have c24' := c24
                rw [← Int32.toInt_inj] at c24'
                refine y_gd (y_gdI (by omega) (by omega)) ?_
                refine y_gd (y_gdI (by omega) (by omega)) ?_
                refine y_gd (y_gdI (by omega) (by omega)) ?_
                refine y_some ?_
                try dsimp only
                have e28 : (2 : Int32).toInt = 2 := rfl
                try have e29 := @y_addL (g9_27 (Int32.toNatClampNeg (v0_10 - (1 : Int32)))) (1 : Int32) (1) rfl (by omega) (by omega)
                try have e30 := @y_addL v9_22 (1 : Int32) (1) rfl (by omega) (by omega)
                try have e31 := @y_cl v9_22 (by omega)
                refine y_some ?_
                try dsimp only
                refine ⟨?_, ?_, ?_⟩ <;> (first | with_reducible rfl | with_reducible assumption | omega | (exfalso; omega) | (exfalso; with_reducible contradiction) | (exact h1_r_4))
            · skip
              have e32 : (171 : Int32).toInt = 171 := rfl
              have c22' := c22
              rw [← Int32.toInt_inj] at c22'
              refine y_bi (y_X9_full) (fun s_14 h_s_14 => ?_)
              obtain ⟨h0_s_14, h1_s_14⟩ := h_s_14
              refine y_some ?_
              try dsimp only
              have e33 : (2 : Int32).toInt = 2 := rfl
              refine y_some ?_
              try dsimp only
              refine ⟨?_, ?_, ?_⟩ <;> (first | with_reducible rfl | with_reducible assumption | omega | (exfalso; omega) | (exfalso; with_reducible contradiction) | (exact h1_r_4))
      · skip
        have c5' := c5
        rw [Int32.le_iff_toInt_le] at c5'
        refine y_bi (y_X9_bad) (fun s_21 h_s_21 => ?_)
        obtain ⟨h0_s_21, h1_s_21⟩ := h_s_21
        refine y_some ?_
        try dsimp only
        have e34 : (2 : Int32).toInt = 2 := rfl
        refine y_some ?_
        try dsimp only
        refine ⟨?_, ?_, ?_⟩ <;> (first | with_reducible rfl | with_reducible assumption | omega | (exfalso; omega) | (exfalso; with_reducible contradiction) | (exact h1_r_4))
    · skip
      have c3' := c3
      rw [← Int32.toInt_inj] at c3'
      have e35 := y_or1 h0_r_2 c3'
      clear h0_r_2
      refine y_bi (ye_X0_switchToMore (g0_7 := g0_7) (g9_27 := g9_27) (by omega) (by omega) (by omega) (by omega) (by first | with_reducible rfl | with_reducible assumption | omega | (exfalso; omega) | (exfalso; with_reducible contradiction) | (exact h1_r_4)) (by first | with_reducible rfl | with_reducible assumption | omega | (exfalso; omega) | (exfalso; with_reducible contradiction) | (exact h1_r_4)) (by omega)) (fun r_4 h_r_4 => ?_)
      obtain ⟨h0_r_4, h1_r_4⟩ := h_r_4
      refine y_bt ?_
      refine y_some ?_
      try dsimp only
      refine y_some ?_
      try dsimp only
      refine y_bt ?_
      refine y_if (fun c36 => ?_) (fun c36 => ?_)
      · skip
        have c36' := c36
        rw [Int32.le_iff_toInt_le] at c36'
        refine y_if (fun c37 => ?_) (fun c37 => ?_)
        · skip
          have c37' := c37
          rw [← Int32.toInt_inj] at c37'
          refine y_bi (y_X9_full) (fun s_3 h_s_3 => ?_)
          obtain ⟨h0_s_3, h1_s_3⟩ := h_s_3
          refine y_some ?_
          try dsimp only
          refine y_some ?_
          try dsimp only
          refine ⟨?_, ?_, ?_⟩ <;> (first | with_reducible rfl | with_reducible assumption | omega | (exfalso; omega) | (exfalso; with_reducible contradiction) | (exact h1_r_4))
        · skip
          have c37' := c37
          rw [← Int32.toInt_inj] at c37'
          try have e38 := @y_subL v0_10 (1 : Int32) (1) rfl (by omega) (by omega)
          refine y_gd (y_gdI (by omega) (by omega)) ?_
          refine y_if (fun c39 => ?_) (fun c39 => ?_)
          · skip
            try have e40 := @y_cl (v0_10 - (1 : Int32)) (by omega)
            have e41 : (170 : Int32).toInt = 170 := rfl
            have c39' := c39
            rw [← Int32.toInt_inj] at c39'
            refine y_gd (y_gdI (by omega) (by omega)) ?_
            refine y_if (fun c42 => ?_) (fun c42 => ?_)
            · skip
              have e43 : (50 : Int32).toInt = 50 := rfl
              have c42' := c42
              rw [← Int32.toInt_inj] at c42'
              refine y_bi (y_X9_full) (fun s_11 h_s_11 => ?_)
              obtain ⟨h0_s_11, h1_s_11⟩ := h_s_11
              refine y_some ?_
              try dsimp only
              refine y_some ?_
              try dsimp only
              refine ⟨?_, ?_, ?_⟩ <;> (first | with_reducible rfl | with_reducible assumption | omega | (exfalso; omega) | (exfalso; with_reducible contradiction) | (exact h1_r_4))
            · skip
              have e44 : (50 : Int32).toInt = 50 := rfl
              have c42' := c42
              rw [← Int32.toInt_inj] at c42'
              refine y_gd (y_gdI (by omega) (by omega)) ?_
              refine y_gd (y_gdI (by omega) (by omega)) ?_
              refine y_gd (y_gdI (by omega) (by omega)) ?_
              refine y_some ?_
              try dsimp only
              try have e45 := @y_addL (g9_27 (Int32.toNatClampNeg (v0_10 - (1 : Int32)))) (1 : Int32) (1) rfl (by omega) (by omega)
              try have e46 := @y_addL v9_22 (1 : Int32) (1) rfl (by omega) (by omega)
              try have e47 := @y_cl v9_22 (by omega)
              refine y_some ?_
              try dsimp only
              refine ⟨?_, ?_, ?_⟩ <;> (first | with_reducible rfl | with_reducible assumption | omega | (exfalso; omega) | (exfalso; with_reducible contradiction) | (exact h1_r_4))
          · skip
            try have e48 := @y_cl (v0_10 - (1 : Int32)) (by omega)
            have e49 : (170 : Int32).toInt = 170 := rfl
            have c39' := c39
            rw [← Int32.toInt_inj] at c39'
            refine y_gd (y_gdI (by omega) (by omega)) ?_
            refine y_if (fun c50 => ?_) (fun c50 => ?_)
            · skip
              have e51 : (171 : Int32).toInt = 171 := rfl
              have c50' := c50
              rw [← Int32.toInt_inj] at c50'
              refine y_gd (y_gdI (by omega) (by omega)) ?_
              refine y_if (fun c52 => ?_) (fun c52 => ?_)
              · skip
                have e53 : (50 : Int32).toInt = 50 := rfl
                have c52' := c52
                rw [← Int32.toInt_inj] at c52'
                refine y_bi (y_X9_full) (fun s_20 h_s_20 => ?_)
                obtain ⟨h0_s_20, h1_s_20⟩ := h_s_20
                refine y_some ?_
                try dsimp only
                refine y_some ?_
                try dsimp only
                refine ⟨?_, ?_, ?_⟩ <;> (first | with_reducible rfl | with_reducible assumption | omega | (exfalso; omega) | (exfalso; with_reducible contradiction) | (exact h1_r_4))
              · skip
                have e54 : (50 : Int32).toInt = 50 := rfl
                have c52' := c52
                rw [← Int32.toInt_inj] at c52'
                refine y_gd (y_gdI (by omega) (by omega)) ?_
                refine y_gd (y_gdI (by omega) (by omega)) ?_
                refine y_gd (y_gdI (by omega) (by omega)) ?_
                refine y_some ?_
                try dsimp only
                try have e55 := @y_addL (g9_27 (Int32.toNatClampNeg (v0_10 - (1 : Int32)))) (1 : Int32) (1) rfl (by omega) (by omega)
                try have e56 := @y_addL v9_22 (1 : Int32) (1) rfl (by omega) (by omega)
                try have e57 := @y_cl v9_22 (by omega)
                refine y_some ?_
                try dsimp only
                refine ⟨?_, ?_, ?_⟩ <;> (first | with_reducible rfl | with_reducible assumption | omega | (exfalso; omega) | (exfalso; with_reducible contradiction) | (exact h1_r_4))
            · skip
              have e58 : (171 : Int32).toInt = 171 := rfl
              have c50' := c50
              rw [← Int32.toInt_inj] at c50'
              refine y_bi (y_X9_full) (fun s_14 h_s_14 => ?_)
              obtain ⟨h0_s_14, h1_s_14⟩ := h_s_14
              refine y_some ?_
              try dsimp only
              refine y_some ?_
              try dsimp only
              refine ⟨?_, ?_, ?_⟩ <;> (first | with_reducible rfl | with_reducible assumption | omega | (exfalso; omega) | (exfalso; with_reducible contradiction) | (exact h1_r_4))
      · skip
        have c36' := c36
        rw [Int32.le_iff_toInt_le] at c36'
        refine y_bi (y_X9_bad) (fun s_21 h_s_21 => ?_)
        obtain ⟨h0_s_21, h1_s_21⟩ := h_s_21
        refine y_some ?_
        try dsimp only
        refine y_some ?_
        try dsimp only
        refine ⟨?_, ?_, ?_⟩ <;> (first | with_reducible rfl | with_reducible assumption | omega | (exfalso; omega) | (exfalso; with_reducible contradiction) | (exact h1_r_4))
  · skip
    have e59 : (0 : Int32).toInt = 0 := rfl
    have c1' := c1
    rw [Int32.le_iff_toInt_le] at c1'
    refine y_some ?_
    try dsimp only
    refine y_bt ?_
    refine y_if (fun c60 => ?_) (fun c60 => ?_)
    · skip
      have c60' := c60
      rw [Int32.le_iff_toInt_le] at c60'
      refine y_if (fun c61 => ?_) (fun c61 => ?_)
      · skip
        have c61' := c61
        rw [← Int32.toInt_inj] at c61'
        refine y_bi (y_X9_full) (fun s_3 h_s_3 => ?_)
        obtain ⟨h0_s_3, h1_s_3⟩ := h_s_3
        refine y_some ?_
        try dsimp only
        have e62 : (1 : Int32).toInt = 1 := rfl
        refine y_some ?_
        try dsimp only
        refine ⟨?_, ?_, ?_⟩ <;> (first | with_reducible rfl | with_reducible assumption | omega | (exfalso; omega) | (exfalso; with_reducible contradiction) | (exact h1_r_4))
      · skip
        have c61' := c61
        rw [← Int32.toInt_inj] at c61'
        try have e63 := @y_subL v0_10 (1 : Int32) (1) rfl (by omega) (by omega)
        refine y_gd (y_gdI (by omega) (by omega)) ?_
        refine y_if (fun c64 => ?_) (fun c64 => ?_)
        · skip
          try have e65 := @y_cl (v0_10 - (1 : Int32)) (by omega)
          have e66 : (170 : Int32).toInt = 170 := rfl
          have c64' := c64
          rw [← Int32.toInt_inj] at c64'
          refine y_gd (y_gdI (by omega) (by omega)) ?_
          refine y_if (fun c67 => ?_) (fun c67 => ?_)
          · skip
            have e68 : (50 : Int32).toInt = 50 := rfl
            have c67' := c67
            rw [← Int32.toInt_inj] at c67'
            refine y_bi (y_X9_full) (fun s_11 h_s_11 => ?_)
            obtain ⟨h0_s_11, h1_s_11⟩ := h_s_11
            refine y_some ?_
            try dsimp only
            have e69 : (1 : Int32).toInt = 1 := rfl
            refine y_some ?_
            try dsimp only
            refine ⟨?_, ?_, ?_⟩ <;> (first | with_reducible rfl | with_reducible assumption | omega | (exfalso; omega) | (exfalso; with_reducible contradiction) | (exact h1_r_4))
          · skip
            have e70 : (50 : Int32).toInt = 50 := rfl
            have c67' := c67
            rw [← Int32.toInt_inj] at c67'
            refine y_gd (y_gdI (by omega) (by omega)) ?_
            refine y_gd (y_gdI (by omega) (by omega)) ?_
            refine y_gd (y_gdI (by omega) (by omega)) ?_
            refine y_some ?_
            try dsimp only
            have e71 : (1 : Int32).toInt = 1 := rfl
            try have e72 := @y_addL (g9_27 (Int32.toNatClampNeg (v0_10 - (1 : Int32)))) (1 : Int32) (1) rfl (by omega) (by omega)
            try have e73 := @y_addL v9_22 (1 : Int32) (1) rfl (by omega) (by omega)
            try have e74 := @y_cl v9_22 (by omega)
            refine y_some ?_
            try dsimp only
            refine ⟨?_, ?_, ?_⟩ <;> (first | with_reducible rfl | with_reducible assumption | omega | (exfalso; omega) | (exfalso; with_reducible contradiction) | (exact h1_r_4))
        · skip
          try have e75 := @y_cl (v0_10 - (1 : Int32)) (by omega)
          have e76 : (170 : Int32).toInt = 170 := rfl
          have c64' := c64
          rw [← Int32.toInt_inj] at c64'
          refine y_gd (y_gdI (by omega) (by omega)) ?_
          refine y_if (fun c77 => ?_) (fun c77 => ?_)
          · skip
            have e78 : (171 : Int32).toInt = 171 := rfl
            have c77' := c77
            rw [← Int32.toInt_inj] at c77'
            refine y_gd (y_gdI (by omega) (by omega)) ?_
            refine y_if (fun c79 => ?_) (fun c79 => ?_)
            · skip
              have e80 : (50 : Int32).toInt = 50 := rfl
              have c79' := c79
              rw [← Int32.toInt_inj] at c79'
              refine y_bi (y_X9_full) (fun s_20 h_s_20 => ?_)
              obtain ⟨h0_s_20, h1_s_20⟩ := h_s_20
              refine y_some ?_
              try dsimp only
              have e81 : (1 : Int32).toInt = 1 := rfl
              refine y_some ?_
              try dsimp only
              refine ⟨?_, ?_, ?_⟩ <;> (first | with_reducible rfl | with_reducible assumption | omega | (exfalso; omega) | (exfalso; with_reducible contradiction) | (exact h1_r_4))
            · skip
              have e82 : (50 : Int32).toInt = 50 := rfl
              have c79' := c79
              rw [← Int32.toInt_inj] at c79'
              refine y_gd (y_gdI (by omega) (by omega)) ?_
              refine y_gd (y_gdI (by omega) (by omega)) ?_
              refine y_gd (y_gdI (by omega) (by omega)) ?_
              refine y_some ?_
              try dsimp only
              have e83 : (1 : Int32).toInt = 1 := rfl
              try have e84 := @y_addL (g9_27 (Int32.toNatClampNeg (v0_10 - (1 : Int32)))) (1 : Int32) (1) rfl (by omega) (by omega)
              try have e85 := @y_addL v9_22 (1 : Int32) (1) rfl (by omega) (by omega)
              try have e86 := @y_cl v9_22 (by omega)
              refine y_some ?_
              try dsimp only
              refine ⟨?_, ?_, ?_⟩ <;> (first | with_reducible rfl | with_reducible assumption | omega | (exfalso; omega) | (exfalso; with_reducible contradiction) | (exact h1_r_4))
          · skip
            have e87 : (171 : Int32).toInt = 171 := rfl
            have c77' := c77
            rw [← Int32.toInt_inj] at c77'
            refine y_bi (y_X9_full) (fun s_14 h_s_14 => ?_)
            obtain ⟨h0_s_14, h1_s_14⟩ := h_s_14
            refine y_some ?_
            try dsimp only
            have e88 : (1 : Int32).toInt = 1 := rfl
            refine y_some ?_
            try dsimp only
            refine ⟨?_, ?_, ?_⟩ <;> (first | with_reducible rfl | with_reducible assumption | omega | (exfalso; omega) | (exfalso; with_reducible contradiction) | (exact h1_r_4))
    · skip
      have c60' := c60
      rw [Int32.le_iff_toInt_le] at c60'
      refine y_bi (y_X9_bad) (fun s_21 h_s_21 => ?_)
      obtain ⟨h0_s_21, h1_s_21⟩ := h_s_21
      refine y_some ?_
      try dsimp only
      have e89 : (1 : Int32).toInt = 1 := rfl
      refine y_some ?_
      try dsimp only
      refine ⟨?_, ?_, ?_⟩ <;> (first | with_reducible rfl | with_reducible assumption | omega | (exfalso; omega) | (exfalso; with_reducible contradiction) | (exact h1_r_4))
def y_U (v7_2 : Int32) (g7_0 : Nat → Int32) (g7_1 : Nat → Int32) (v4_2 : Int32) (v4_8 : Int32) (g4_7 : Nat → Int32) (v0_6 : Int32) (v0_15 : Int32) (v9_1 : Int32) (g9_4 : Nat → Int32) (g9_5 : Nat → Int32) (v9_2 : Int32) (v9_3 : Int32) (g9_10 : Nat → Int32) (v9_18 : Int32) (v9_21 : Int32) : Prop := v7_2 = v9_1 ∧ g7_1 = g9_5 ∧ y_Ab g7_0 g9_4 ∧ v4_2 = v9_2 ∧ v4_8 = v9_3 ∧ y_TK v4_8.toInt g4_7 g9_10 ∧ v0_6 = v9_18 ∧ v0_15 = v9_21
set_option maxHeartbeats 4000000 in
theorem u_add {v7_2 : Int32} {g7_0 : Nat → Int32} {g7_1 : Nat → Int32} {p1 : Int32} {p2 : Int32} {v9_0 : Int32} {v9_1 : Int32} {g9_4 : Nat → Int32} {g9_5 : Nat → Int32} {v4_2 : Int32} {v4_8 : Int32} {g4_7 : Nat → Int32} {v0_6 : Int32} {v0_15 : Int32} {v9_2 : Int32} {v9_3 : Int32} {g9_10 : Nat → Int32} {v9_18 : Int32} {v9_21 : Int32} {R : Int32 × Int32 × Int32 × (Nat → Int32) × (Nat → Int32)} {S : Int32 × Int32 × Int32 × (Nat → Int32) × (Nat → Int32)} (hu : y_U v7_2 g7_0 g7_1 v4_2 v4_8 g4_7 v0_6 v0_15 v9_1 g9_4 g9_5 v9_2 v9_3 g9_10 v9_18 v9_21) (h7 : y_K7 v7_2 g7_0) (h8 : f_X8_add v7_2 g7_0 g7_1 p1 p2 = some R) (h9 : f_X9_add v9_0 v9_1 g9_4 g9_5 p1 p2 = some S) : (S.2.1 = R.1 ∧ (R.1 = 0 → R.2.1 = S.1)) ∧ y_U R.2.2.1 R.2.2.2.1 R.2.2.2.2 v4_2 v4_8 g4_7 v0_6 v0_15 S.2.2.1 S.2.2.2.1 S.2.2.2.2 v9_2 v9_3 g9_10 v9_18 v9_21 := by
  obtain ⟨rfl, rfl, hab, rfl, rfl, hTK, rfl, rfl⟩ := hu
  obtain ⟨q7_0, q7_1, q7_2⟩ := h7
  have h := y_two (F := fun R S => (R.1, R.2.1, R.2.2.1, R.2.2.2.1, R.2.2.2.2, S.1, S.2.1, S.2.2.1, S.2.2.2.1, S.2.2.2.2)) (ex_add (by first | with_reducible assumption | omega) (by first | with_reducible assumption | omega) (by first | with_reducible assumption | omega)) h8 h9
  dsimp only at h
  obtain ⟨e0, e1, e2, e3, e4⟩ := h
  have e0 := Int32.toInt_inj.mp e0
  exact ⟨⟨e0, fun hz => Int32.toInt_inj.mp (e1.resolve_left (fun hn => hn (by rw [hz]; rfl)))⟩, (Int32.toInt_inj.mp e2), e3, e4, rfl, rfl, hTK, rfl, rfl⟩
set_option maxHeartbeats 4000000 in
theorem u_field {v7_2 : Int32} {v4_2 : Int32} {g4_0 : Nat → Int32} {g4_1 : Nat → Int32} {p1 : Int32} {p2 : Int32} {v9_0 : Int32} {v9_1 : Int32} {v9_2 : Int32} {g9_6 : Nat → Int32} {g9_7 : Nat → Int32} {g7_0 : Nat → Int32} {g7_1 : Nat → Int32} {v4_8 : Int32} {g4_7 : Nat → Int32} {v0_6 : Int32} {v0_15 : Int32} {g9_4 : Nat → Int32} {g9_5 : Nat → Int32} {v9_3 : Int32} {g9_10 : Nat → Int32} {v9_18 : Int32} {v9_21 : Int32} {g4_3 : Nat → Int32} {g4_4 : Nat → Int32} {g4_6 : Nat → Int32} {R : Int32 × Int32 × Int32 × (Nat → Int32) × (Nat → Int32)} {S : Int32 × Int32 × Int32 × (Nat → Int32) × (Nat → Int32)} (hu : y_U v7_2 g7_0 g7_1 v4_2 v4_8 g4_7 v0_6 v0_15 v9_1 g9_4 g9_5 v9_2 v9_3 g9_10 v9_18 v9_21) (h7 : y_K7 v7_2 g7_0) (h4 : y_K4 v4_2 v4_8 g4_0 g4_1 g4_3 g4_4 g4_6 g4_7) (h8 : f_X8_field v7_2 v4_2 g4_0 g4_1 p1 p2 = some R) (h9 : f_X9_field v9_0 v9_1 v9_2 g9_6 g9_7 p1 p2 = some S) : (S.2.1 = R.1 ∧ (R.1 = 0 → R.2.1 = S.1)) ∧ y_U v7_2 g7_0 g7_1 R.2.2.1 v4_8 g4_7 v0_6 v0_15 v9_1 g9_4 g9_5 S.2.2.1 v9_3 g9_10 v9_18 v9_21 := by
  obtain ⟨rfl, rfl, hab, rfl, rfl, hTK, rfl, rfl⟩ := hu
  obtain ⟨q7_0, q7_1, q7_2⟩ := h7
  obtain ⟨q4_0, q4_1, q4_2, q4_3, q4_4, q4_5, q4_6, q4_7, q4_8, q4_9⟩ := h4
  have h := y_two (F := fun R S => (R.1, R.2.1, R.2.2.1, R.2.2.2.1, R.2.2.2.2, S.1, S.2.1, S.2.2.1, S.2.2.2.1, S.2.2.2.2)) (ex_field (by first | with_reducible assumption | omega) (by first | with_reducible assumption | omega) (by first | with_reducible assumption | omega) (by first | with_reducible assumption | omega)) h8 h9
  dsimp only at h
  obtain ⟨e0, e1, e2⟩ := h
  have e0 := Int32.toInt_inj.mp e0
  exact ⟨⟨e0, fun hz => Int32.toInt_inj.mp (e1.resolve_left (fun hn => hn (by rw [hz]; rfl)))⟩, rfl, rfl, hab, (Int32.toInt_inj.mp e2), rfl, hTK, rfl, rfl⟩
set_option maxHeartbeats 4000000 in
theorem u_shape {v7_2 : Int32} {g7_1 : Nat → Int32} {v4_8 : Int32} {g4_3 : Nat → Int32} {g4_4 : Nat → Int32} {g4_5 : Nat → Int32} {p1 : Int32} {p2 : Int32} {p3 : Int32} {v9_0 : Int32} {v9_1 : Int32} {v9_3 : Int32} {g9_5 : Nat → Int32} {g9_8 : Nat → Int32} {g9_9 : Nat → Int32} {g9_10 : Nat → Int32} {g9_12 : Nat → Int32} {g7_0 : Nat → Int32} {v4_2 : Int32} {g4_7 : Nat → Int32} {v0_6 : Int32} {v0_15 : Int32} {g9_4 : Nat → Int32} {v9_2 : Int32} {v9_18 : Int32} {v9_21 : Int32} {g4_0 : Nat → Int32} {g4_1 : Nat → Int32} {g4_6 : Nat → Int32} {R : Int32 × Int32 × Int32 × (Nat → Int32) × (Nat → Int32) × (Nat → Int32)} {S : Int32 × Int32 × Int32 × (Nat → Int32) × (Nat → Int32) × (Nat → Int32) × (Nat → Int32)} (hu : y_U v7_2 g7_0 g7_1 v4_2 v4_8 g4_7 v0_6 v0_15 v9_1 g9_4 g9_5 v9_2 v9_3 g9_10 v9_18 v9_21) (h7 : y_K7 v7_2 g7_0) (h4 : y_K4 v4_2 v4_8 g4_0 g4_1 g4_3 g4_4 g4_6 g4_7) (h8 : f_X8_shape v7_2 g7_1 v4_8 g4_3 g4_4 g4_5 p1 p2 p3 = some R) (h9 : f_X9_shape v9_0 v9_1 v9_3 g9_5 g9_8 g9_9 g9_10 g9_12 p1 p2 p3 = some S) : (S.2.1 = R.1 ∧ (R.1 = 0 → R.2.1 = S.1)) ∧ y_U v7_2 g7_0 g7_1 v4_2 R.2.2.1 g4_7 v0_6 v0_15 v9_1 g9_4 g9_5 v9_2 S.2.2.1 S.2.2.2.2.2.1 v9_18 v9_21 := by
  obtain ⟨rfl, rfl, hab, rfl, rfl, hTK, rfl, rfl⟩ := hu
  obtain ⟨q7_0, q7_1, q7_2⟩ := h7
  obtain ⟨q4_0, q4_1, q4_2, q4_3, q4_4, q4_5, q4_6, q4_7, q4_8, q4_9⟩ := h4
  have h := y_two (F := fun R S => (R.1, R.2.1, R.2.2.1, R.2.2.2.1, R.2.2.2.2.1, R.2.2.2.2.2, S.1, S.2.1, S.2.2.1, S.2.2.2.1, S.2.2.2.2.1, S.2.2.2.2.2.1, S.2.2.2.2.2.2)) (ex_shape (by first | with_reducible assumption | omega) (by first | with_reducible assumption | omega) (by first | with_reducible assumption | omega) (by first | with_reducible assumption | omega) (by first | with_reducible assumption | omega)) h8 h9
  dsimp only at h
  obtain ⟨e0, e1, e2, e3⟩ := h
  have e0 := Int32.toInt_inj.mp e0
  exact ⟨⟨e0, fun hz => Int32.toInt_inj.mp (e1.resolve_left (fun hn => hn (by rw [hz]; rfl)))⟩, rfl, rfl, hab, rfl, (Int32.toInt_inj.mp e2), e3, rfl, rfl⟩
set_option maxHeartbeats 4000000 in
theorem u_takes {v7_2 : Int32} {v4_8 : Int32} {g4_6 : Nat → Int32} {g4_7 : Nat → Int32} {p1 : Int32} {v9_0 : Int32} {v9_1 : Int32} {v9_3 : Int32} {g9_10 : Nat → Int32} {g9_11 : Nat → Int32} {g7_0 : Nat → Int32} {g7_1 : Nat → Int32} {v4_2 : Int32} {v0_6 : Int32} {v0_15 : Int32} {g9_4 : Nat → Int32} {g9_5 : Nat → Int32} {v9_2 : Int32} {v9_18 : Int32} {v9_21 : Int32} {g4_0 : Nat → Int32} {g4_1 : Nat → Int32} {g4_3 : Nat → Int32} {g4_4 : Nat → Int32} {R : Int32 × Int32 × (Nat → Int32) × (Nat → Int32)} {S : Int32 × Int32 × (Nat → Int32) × (Nat → Int32)} (hu : y_U v7_2 g7_0 g7_1 v4_2 v4_8 g4_7 v0_6 v0_15 v9_1 g9_4 g9_5 v9_2 v9_3 g9_10 v9_18 v9_21) (h7 : y_K7 v7_2 g7_0) (h4 : y_K4 v4_2 v4_8 g4_0 g4_1 g4_3 g4_4 g4_6 g4_7) (h8 : f_X8_takes v7_2 v4_8 g4_6 g4_7 p1 = some R) (h9 : f_X9_takes v9_0 v9_1 v9_3 g9_10 g9_11 p1 = some S) : (S.2.1 = R.1 ∧ (R.1 = 0 → R.2.1 = S.1)) ∧ y_U v7_2 g7_0 g7_1 v4_2 v4_8 R.2.2.2 v0_6 v0_15 v9_1 g9_4 g9_5 v9_2 v9_3 S.2.2.1 v9_18 v9_21 := by
  obtain ⟨rfl, rfl, hab, rfl, rfl, hTK, rfl, rfl⟩ := hu
  obtain ⟨q7_0, q7_1, q7_2⟩ := h7
  obtain ⟨q4_0, q4_1, q4_2, q4_3, q4_4, q4_5, q4_6, q4_7, q4_8, q4_9⟩ := h4
  have h := y_two (F := fun R S => (R.1, R.2.1, R.2.2.1, R.2.2.2, S.1, S.2.1, S.2.2.1, S.2.2.2)) (ex_takes (by first | with_reducible assumption | omega) (by first | with_reducible assumption | omega) (by first | with_reducible assumption | omega) (by first | with_reducible assumption | omega) (by first | with_reducible assumption | omega) (by first | with_reducible assumption | omega)) h8 h9
  dsimp only at h
  obtain ⟨e0, e1, e2⟩ := h
  have e0 := Int32.toInt_inj.mp e0
  exact ⟨⟨e0, fun hz => Int32.toInt_inj.mp (e1.resolve_left (fun hn => hn (by rw [hz]; rfl)))⟩, rfl, rfl, hab, rfl, rfl, e2, rfl, rfl⟩
set_option maxHeartbeats 4000000 in
theorem u_method {v7_2 : Int32} {g7_1 : Nat → Int32} {v0_0 : Int32} {v0_1 : Int32} {v0_2 : Int32} {v0_3 : Int32} {v0_4 : Int32} {v0_6 : Int32} {v0_10 : Int32} {v0_15 : Int32} {p1 : Int32} {p2 : Int32} {p3 : Int32} {p4 : Int32} {p5 : Int32} {v9_0 : Int32} {v9_1 : Int32} {v9_13 : Int32} {v9_14 : Int32} {v9_15 : Int32} {v9_16 : Int32} {v9_17 : Int32} {v9_18 : Int32} {v9_20 : Int32} {v9_21 : Int32} {v9_22 : Int32} {g9_5 : Nat → Int32} {g7_0 : Nat → Int32} {v4_2 : Int32} {v4_8 : Int32} {g4_7 : Nat → Int32} {g9_4 : Nat → Int32} {v9_2 : Int32} {v9_3 : Int32} {g9_10 : Nat → Int32} {R : Int32 × Int32 × Int32 × Int32 × Int32 × Int32 × Int32 × Int32 × Int32 × Int32} {S : Int32 × Int32 × Int32 × Int32 × Int32 × Int32 × Int32 × Int32 × Int32 × Int32 × Int32} (hu : y_U v7_2 g7_0 g7_1 v4_2 v4_8 g4_7 v0_6 v0_15 v9_1 g9_4 g9_5 v9_2 v9_3 g9_10 v9_18 v9_21) (h7 : y_K7 v7_2 g7_0) (h8 : f_X8_method v7_2 g7_1 v0_0 v0_1 v0_2 v0_3 v0_4 v0_6 v0_10 v0_15 p1 p2 p3 p4 p5 = some R) (h9 : f_X9_method v9_0 v9_1 v9_13 v9_14 v9_15 v9_16 v9_17 v9_18 v9_20 v9_21 v9_22 g9_5 p1 p2 p3 p4 p5 = some S) : (S.2.1 = R.1 ∧ (R.1 = 0 → R.2.1 = S.1)) ∧ y_U v7_2 g7_0 g7_1 v4_2 v4_8 g4_7 R.2.2.2.2.2.2.2.1 R.2.2.2.2.2.2.2.2.2 v9_1 g9_4 g9_5 v9_2 v9_3 g9_10 S.2.2.2.2.2.2.2.1 S.2.2.2.2.2.2.2.2.2.1 := by
  obtain ⟨rfl, rfl, hab, rfl, rfl, hTK, rfl, rfl⟩ := hu
  obtain ⟨q7_0, q7_1, q7_2⟩ := h7
  have h := y_two (F := fun R S => (R.1, R.2.1, R.2.2.1, R.2.2.2.1, R.2.2.2.2.1, R.2.2.2.2.2.1, R.2.2.2.2.2.2.1, R.2.2.2.2.2.2.2.1, R.2.2.2.2.2.2.2.2.1, R.2.2.2.2.2.2.2.2.2, S.1, S.2.1, S.2.2.1, S.2.2.2.1, S.2.2.2.2.1, S.2.2.2.2.2.1, S.2.2.2.2.2.2.1, S.2.2.2.2.2.2.2.1, S.2.2.2.2.2.2.2.2.1, S.2.2.2.2.2.2.2.2.2.1, S.2.2.2.2.2.2.2.2.2.2)) (ex_method (by first | with_reducible assumption | omega) (by first | with_reducible assumption | omega)) h8 h9
  dsimp only at h
  obtain ⟨e0, e1, e2, e3, e4, e5, e6, e7⟩ := h
  have e0 := Int32.toInt_inj.mp e0
  exact ⟨⟨e0, fun hz => Int32.toInt_inj.mp (e1.resolve_left (fun hn => hn (by rw [hz]; rfl)))⟩, rfl, rfl, hab, rfl, rfl, hTK, (Int32.toInt_inj.mp e2), (Int32.toInt_inj.mp e3)⟩
set_option maxHeartbeats 4000000 in
theorem u_argument {v7_2 : Int32} {v0_6 : Int32} {g0_5 : Nat → Int32} {p1 : Int32} {v9_0 : Int32} {v9_1 : Int32} {v9_18 : Int32} {g9_19 : Nat → Int32} {g7_0 : Nat → Int32} {g7_1 : Nat → Int32} {v4_2 : Int32} {v4_8 : Int32} {g4_7 : Nat → Int32} {v0_15 : Int32} {g9_4 : Nat → Int32} {g9_5 : Nat → Int32} {v9_2 : Int32} {v9_3 : Int32} {g9_10 : Nat → Int32} {v9_21 : Int32} {v0_0 : Int32} {v0_2 : Int32} {v0_3 : Int32} {v0_4 : Int32} {v0_10 : Int32} {g0_7 : Nat → Int32} {g0_8 : Nat → Int32} {g0_9 : Nat → Int32} {g0_11 : Nat → Int32} {n0_11 : Nat} {g0_12 : Nat → Int32} {g0_13 : Nat → Int32} {g0_14 : Nat → Int32} {R : Int32 × Int32 × Int32 × (Nat → Int32)} {S : Int32 × Int32 × Int32 × (Nat → Int32)} (hu : y_U v7_2 g7_0 g7_1 v4_2 v4_8 g4_7 v0_6 v0_15 v9_1 g9_4 g9_5 v9_2 v9_3 g9_10 v9_18 v9_21) (h7 : y_K7 v7_2 g7_0) (h0 : y_K0 v0_0 v0_2 v0_3 v0_4 v0_6 v0_10 v0_15 g0_5 g0_7 g0_8 g0_9 g0_11 n0_11 g0_12 g0_13 g0_14) (h8 : f_X8_argument v7_2 v0_6 g0_5 p1 = some R) (h9 : f_X9_argument v9_0 v9_1 v9_18 g9_19 p1 = some S) : (S.2.1 = R.1 ∧ (R.1 = 0 → R.2.1 = S.1)) ∧ y_U v7_2 g7_0 g7_1 v4_2 v4_8 g4_7 R.2.2.1 v0_15 v9_1 g9_4 g9_5 v9_2 v9_3 g9_10 S.2.2.1 v9_21 := by
  obtain ⟨rfl, rfl, hab, rfl, rfl, hTK, rfl, rfl⟩ := hu
  obtain ⟨q7_0, q7_1, q7_2⟩ := h7
  obtain ⟨q0_0, q0_1, q0_2, q0_3, q0_4, q0_5, q0_6, q0_7, q0_8, q0_9, q0_10, q0_11, q0_12, q0_13, q0_14, q0_15, q0_16, q0_17, q0_18, q0_19⟩ := h0
  have h := y_two (F := fun R S => (R.1, R.2.1, R.2.2.1, R.2.2.2, S.1, S.2.1, S.2.2.1, S.2.2.2)) (ex_argument (by first | with_reducible assumption | omega) (by first | with_reducible assumption | omega) (by first | with_reducible assumption | omega) (by first | with_reducible assumption | omega)) h8 h9
  dsimp only at h
  obtain ⟨e0, e1, e2⟩ := h
  have e0 := Int32.toInt_inj.mp e0
  exact ⟨⟨e0, fun hz => Int32.toInt_inj.mp (e1.resolve_left (fun hn => hn (by rw [hz]; rfl)))⟩, rfl, rfl, hab, rfl, rfl, hTK, (Int32.toInt_inj.mp e2), rfl⟩
set_option maxHeartbeats 4000000 in
theorem u_row {v7_2 : Int32} {v0_15 : Int32} {g0_14 : Nat → Int32} {p1 : Int32} {p2 : Int32} {p3 : Int32} {p4 : Int32} {v9_0 : Int32} {v9_1 : Int32} {v9_21 : Int32} {g9_29 : Nat → Int32} {g9_30 : Nat → Int32} {g9_31 : Nat → Int32} {g9_32 : Nat → Int32} {g7_0 : Nat → Int32} {g7_1 : Nat → Int32} {v4_2 : Int32} {v4_8 : Int32} {g4_7 : Nat → Int32} {v0_6 : Int32} {g9_4 : Nat → Int32} {g9_5 : Nat → Int32} {v9_2 : Int32} {v9_3 : Int32} {g9_10 : Nat → Int32} {v9_18 : Int32} {v0_0 : Int32} {v0_2 : Int32} {v0_3 : Int32} {v0_4 : Int32} {v0_10 : Int32} {g0_5 : Nat → Int32} {g0_7 : Nat → Int32} {g0_8 : Nat → Int32} {g0_9 : Nat → Int32} {g0_11 : Nat → Int32} {n0_11 : Nat} {g0_12 : Nat → Int32} {g0_13 : Nat → Int32} {R : Int32 × Int32 × Int32 × (Nat → Int32)} {S : Int32 × Int32 × Int32 × (Nat → Int32) × (Nat → Int32) × (Nat → Int32) × (Nat → Int32)} (hu : y_U v7_2 g7_0 g7_1 v4_2 v4_8 g4_7 v0_6 v0_15 v9_1 g9_4 g9_5 v9_2 v9_3 g9_10 v9_18 v9_21) (h7 : y_K7 v7_2 g7_0) (h0 : y_K0 v0_0 v0_2 v0_3 v0_4 v0_6 v0_10 v0_15 g0_5 g0_7 g0_8 g0_9 g0_11 n0_11 g0_12 g0_13 g0_14) (h8 : f_X8_row v7_2 v0_15 g0_14 p1 p2 p3 p4 = some R) (h9 : f_X9_row v9_0 v9_1 v9_21 g9_29 g9_30 g9_31 g9_32 p1 p2 p3 p4 = some S) : (S.2.1 = R.1 ∧ (R.1 = 0 → R.2.1 = S.1)) ∧ y_U v7_2 g7_0 g7_1 v4_2 v4_8 g4_7 v0_6 R.2.2.1 v9_1 g9_4 g9_5 v9_2 v9_3 g9_10 v9_18 S.2.2.1 := by
  obtain ⟨rfl, rfl, hab, rfl, rfl, hTK, rfl, rfl⟩ := hu
  obtain ⟨q7_0, q7_1, q7_2⟩ := h7
  obtain ⟨q0_0, q0_1, q0_2, q0_3, q0_4, q0_5, q0_6, q0_7, q0_8, q0_9, q0_10, q0_11, q0_12, q0_13, q0_14, q0_15, q0_16, q0_17, q0_18, q0_19⟩ := h0
  have h := y_two (F := fun R S => (R.1, R.2.1, R.2.2.1, R.2.2.2, S.1, S.2.1, S.2.2.1, S.2.2.2.1, S.2.2.2.2.1, S.2.2.2.2.2.1, S.2.2.2.2.2.2)) (ex_row (by first | with_reducible assumption | omega) (by first | with_reducible assumption | omega) (by first | with_reducible assumption | omega) (by first | with_reducible assumption | omega)) h8 h9
  dsimp only at h
  obtain ⟨e0, e1, e2⟩ := h
  have e0 := Int32.toInt_inj.mp e0
  exact ⟨⟨e0, fun hz => Int32.toInt_inj.mp (e1.resolve_left (fun hn => hn (by rw [hz]; rfl)))⟩, rfl, rfl, hab, rfl, rfl, hTK, rfl, (Int32.toInt_inj.mp e2)⟩
def y_U2 (v7_2 : Int32) (g7_0 : Nat → Int32) (g7_1 : Nat → Int32) (v4_2 : Int32) (v4_8 : Int32) (g4_7 : Nat → Int32) (v0_6 : Int32) (v0_15 : Int32) (v0_10 : Int32) (g0_7 : Nat → Int32) (g0_12 : Nat → Int32) (g0_13 : Nat → Int32) (v9_1 : Int32) (g9_4 : Nat → Int32) (g9_5 : Nat → Int32) (v9_2 : Int32) (v9_3 : Int32) (g9_10 : Nat → Int32) (v9_18 : Int32) (v9_21 : Int32) (v9_20 : Int32) (g9_23 : Nat → Int32) (g9_27 : Nat → Int32) : Prop := y_U v7_2 g7_0 g7_1 v4_2 v4_8 g4_7 v0_6 v0_15 v9_1 g9_4 g9_5 v9_2 v9_3 g9_10 v9_18 v9_21 ∧ v0_10 = v9_20 ∧ g0_7 = g9_23 ∧ y_SC v0_10.toInt g0_12 g0_13 g9_27
set_option maxHeartbeats 4000000 in
theorem u2_add {v7_2 : Int32} {g7_0 : Nat → Int32} {g7_1 : Nat → Int32} {p1 : Int32} {p2 : Int32} {v9_0 : Int32} {v9_1 : Int32} {g9_4 : Nat → Int32} {g9_5 : Nat → Int32} {v4_2 : Int32} {v4_8 : Int32} {g4_7 : Nat → Int32} {v0_6 : Int32} {v0_15 : Int32} {v0_10 : Int32} {g0_7 : Nat → Int32} {g0_12 : Nat → Int32} {g0_13 : Nat → Int32} {v9_2 : Int32} {v9_3 : Int32} {g9_10 : Nat → Int32} {v9_18 : Int32} {v9_21 : Int32} {v9_20 : Int32} {g9_23 : Nat → Int32} {g9_27 : Nat → Int32} {R : Int32 × Int32 × Int32 × (Nat → Int32) × (Nat → Int32)} {S : Int32 × Int32 × Int32 × (Nat → Int32) × (Nat → Int32)} (hu : y_U2 v7_2 g7_0 g7_1 v4_2 v4_8 g4_7 v0_6 v0_15 v0_10 g0_7 g0_12 g0_13 v9_1 g9_4 g9_5 v9_2 v9_3 g9_10 v9_18 v9_21 v9_20 g9_23 g9_27) (h7 : y_K7 v7_2 g7_0) (h8 : f_X8_add v7_2 g7_0 g7_1 p1 p2 = some R) (h9 : f_X9_add v9_0 v9_1 g9_4 g9_5 p1 p2 = some S) : (S.2.1 = R.1 ∧ (R.1 = 0 → R.2.1 = S.1)) ∧ y_U2 R.2.2.1 R.2.2.2.1 R.2.2.2.2 v4_2 v4_8 g4_7 v0_6 v0_15 v0_10 g0_7 g0_12 g0_13 S.2.2.1 S.2.2.2.1 S.2.2.2.2 v9_2 v9_3 g9_10 v9_18 v9_21 v9_20 g9_23 g9_27 := by
  obtain ⟨hu, e1, e2, hSC⟩ := hu
  have h := u_add hu h7 h8 h9
  exact ⟨h.1, h.2, e1, e2, hSC⟩
set_option maxHeartbeats 4000000 in
theorem u2_field {v7_2 : Int32} {v4_2 : Int32} {g4_0 : Nat → Int32} {g4_1 : Nat → Int32} {p1 : Int32} {p2 : Int32} {v9_0 : Int32} {v9_1 : Int32} {v9_2 : Int32} {g9_6 : Nat → Int32} {g9_7 : Nat → Int32} {g7_0 : Nat → Int32} {g7_1 : Nat → Int32} {v4_8 : Int32} {g4_7 : Nat → Int32} {v0_6 : Int32} {v0_15 : Int32} {v0_10 : Int32} {g0_7 : Nat → Int32} {g0_12 : Nat → Int32} {g0_13 : Nat → Int32} {g9_4 : Nat → Int32} {g9_5 : Nat → Int32} {v9_3 : Int32} {g9_10 : Nat → Int32} {v9_18 : Int32} {v9_21 : Int32} {v9_20 : Int32} {g9_23 : Nat → Int32} {g9_27 : Nat → Int32} {g4_3 : Nat → Int32} {g4_4 : Nat → Int32} {g4_6 : Nat → Int32} {R : Int32 × Int32 × Int32 × (Nat → Int32) × (Nat → Int32)} {S : Int32 × Int32 × Int32 × (Nat → Int32) × (Nat → Int32)} (hu : y_U2 v7_2 g7_0 g7_1 v4_2 v4_8 g4_7 v0_6 v0_15 v0_10 g0_7 g0_12 g0_13 v9_1 g9_4 g9_5 v9_2 v9_3 g9_10 v9_18 v9_21 v9_20 g9_23 g9_27) (h7 : y_K7 v7_2 g7_0) (h4 : y_K4 v4_2 v4_8 g4_0 g4_1 g4_3 g4_4 g4_6 g4_7) (h8 : f_X8_field v7_2 v4_2 g4_0 g4_1 p1 p2 = some R) (h9 : f_X9_field v9_0 v9_1 v9_2 g9_6 g9_7 p1 p2 = some S) : (S.2.1 = R.1 ∧ (R.1 = 0 → R.2.1 = S.1)) ∧ y_U2 v7_2 g7_0 g7_1 R.2.2.1 v4_8 g4_7 v0_6 v0_15 v0_10 g0_7 g0_12 g0_13 v9_1 g9_4 g9_5 S.2.2.1 v9_3 g9_10 v9_18 v9_21 v9_20 g9_23 g9_27 := by
  obtain ⟨hu, e1, e2, hSC⟩ := hu
  have h := u_field hu h7 h4 h8 h9
  exact ⟨h.1, h.2, e1, e2, hSC⟩
set_option maxHeartbeats 4000000 in
theorem u2_shape {v7_2 : Int32} {g7_1 : Nat → Int32} {v4_8 : Int32} {g4_3 : Nat → Int32} {g4_4 : Nat → Int32} {g4_5 : Nat → Int32} {p1 : Int32} {p2 : Int32} {p3 : Int32} {v9_0 : Int32} {v9_1 : Int32} {v9_3 : Int32} {g9_5 : Nat → Int32} {g9_8 : Nat → Int32} {g9_9 : Nat → Int32} {g9_10 : Nat → Int32} {g9_12 : Nat → Int32} {g7_0 : Nat → Int32} {v4_2 : Int32} {g4_7 : Nat → Int32} {v0_6 : Int32} {v0_15 : Int32} {v0_10 : Int32} {g0_7 : Nat → Int32} {g0_12 : Nat → Int32} {g0_13 : Nat → Int32} {g9_4 : Nat → Int32} {v9_2 : Int32} {v9_18 : Int32} {v9_21 : Int32} {v9_20 : Int32} {g9_23 : Nat → Int32} {g9_27 : Nat → Int32} {g4_0 : Nat → Int32} {g4_1 : Nat → Int32} {g4_6 : Nat → Int32} {R : Int32 × Int32 × Int32 × (Nat → Int32) × (Nat → Int32) × (Nat → Int32)} {S : Int32 × Int32 × Int32 × (Nat → Int32) × (Nat → Int32) × (Nat → Int32) × (Nat → Int32)} (hu : y_U2 v7_2 g7_0 g7_1 v4_2 v4_8 g4_7 v0_6 v0_15 v0_10 g0_7 g0_12 g0_13 v9_1 g9_4 g9_5 v9_2 v9_3 g9_10 v9_18 v9_21 v9_20 g9_23 g9_27) (h7 : y_K7 v7_2 g7_0) (h4 : y_K4 v4_2 v4_8 g4_0 g4_1 g4_3 g4_4 g4_6 g4_7) (h8 : f_X8_shape v7_2 g7_1 v4_8 g4_3 g4_4 g4_5 p1 p2 p3 = some R) (h9 : f_X9_shape v9_0 v9_1 v9_3 g9_5 g9_8 g9_9 g9_10 g9_12 p1 p2 p3 = some S) : (S.2.1 = R.1 ∧ (R.1 = 0 → R.2.1 = S.1)) ∧ y_U2 v7_2 g7_0 g7_1 v4_2 R.2.2.1 g4_7 v0_6 v0_15 v0_10 g0_7 g0_12 g0_13 v9_1 g9_4 g9_5 v9_2 S.2.2.1 S.2.2.2.2.2.1 v9_18 v9_21 v9_20 g9_23 g9_27 := by
  obtain ⟨hu, e1, e2, hSC⟩ := hu
  have h := u_shape hu h7 h4 h8 h9
  exact ⟨h.1, h.2, e1, e2, hSC⟩
set_option maxHeartbeats 4000000 in
theorem u2_takes {v7_2 : Int32} {v4_8 : Int32} {g4_6 : Nat → Int32} {g4_7 : Nat → Int32} {p1 : Int32} {v9_0 : Int32} {v9_1 : Int32} {v9_3 : Int32} {g9_10 : Nat → Int32} {g9_11 : Nat → Int32} {g7_0 : Nat → Int32} {g7_1 : Nat → Int32} {v4_2 : Int32} {v0_6 : Int32} {v0_15 : Int32} {v0_10 : Int32} {g0_7 : Nat → Int32} {g0_12 : Nat → Int32} {g0_13 : Nat → Int32} {g9_4 : Nat → Int32} {g9_5 : Nat → Int32} {v9_2 : Int32} {v9_18 : Int32} {v9_21 : Int32} {v9_20 : Int32} {g9_23 : Nat → Int32} {g9_27 : Nat → Int32} {g4_0 : Nat → Int32} {g4_1 : Nat → Int32} {g4_3 : Nat → Int32} {g4_4 : Nat → Int32} {R : Int32 × Int32 × (Nat → Int32) × (Nat → Int32)} {S : Int32 × Int32 × (Nat → Int32) × (Nat → Int32)} (hu : y_U2 v7_2 g7_0 g7_1 v4_2 v4_8 g4_7 v0_6 v0_15 v0_10 g0_7 g0_12 g0_13 v9_1 g9_4 g9_5 v9_2 v9_3 g9_10 v9_18 v9_21 v9_20 g9_23 g9_27) (h7 : y_K7 v7_2 g7_0) (h4 : y_K4 v4_2 v4_8 g4_0 g4_1 g4_3 g4_4 g4_6 g4_7) (h8 : f_X8_takes v7_2 v4_8 g4_6 g4_7 p1 = some R) (h9 : f_X9_takes v9_0 v9_1 v9_3 g9_10 g9_11 p1 = some S) : (S.2.1 = R.1 ∧ (R.1 = 0 → R.2.1 = S.1)) ∧ y_U2 v7_2 g7_0 g7_1 v4_2 v4_8 R.2.2.2 v0_6 v0_15 v0_10 g0_7 g0_12 g0_13 v9_1 g9_4 g9_5 v9_2 v9_3 S.2.2.1 v9_18 v9_21 v9_20 g9_23 g9_27 := by
  obtain ⟨hu, e1, e2, hSC⟩ := hu
  have h := u_takes hu h7 h4 h8 h9
  exact ⟨h.1, h.2, e1, e2, hSC⟩
set_option maxHeartbeats 4000000 in
theorem u2_method {v7_2 : Int32} {g7_1 : Nat → Int32} {v0_0 : Int32} {v0_1 : Int32} {v0_2 : Int32} {v0_3 : Int32} {v0_4 : Int32} {v0_6 : Int32} {v0_10 : Int32} {v0_15 : Int32} {p1 : Int32} {p2 : Int32} {p3 : Int32} {p4 : Int32} {p5 : Int32} {v9_0 : Int32} {v9_1 : Int32} {v9_13 : Int32} {v9_14 : Int32} {v9_15 : Int32} {v9_16 : Int32} {v9_17 : Int32} {v9_18 : Int32} {v9_20 : Int32} {v9_21 : Int32} {v9_22 : Int32} {g9_5 : Nat → Int32} {g7_0 : Nat → Int32} {v4_2 : Int32} {v4_8 : Int32} {g4_7 : Nat → Int32} {g0_7 : Nat → Int32} {g0_12 : Nat → Int32} {g0_13 : Nat → Int32} {g9_4 : Nat → Int32} {v9_2 : Int32} {v9_3 : Int32} {g9_10 : Nat → Int32} {g9_23 : Nat → Int32} {g9_27 : Nat → Int32} {R : Int32 × Int32 × Int32 × Int32 × Int32 × Int32 × Int32 × Int32 × Int32 × Int32} {S : Int32 × Int32 × Int32 × Int32 × Int32 × Int32 × Int32 × Int32 × Int32 × Int32 × Int32} (hu : y_U2 v7_2 g7_0 g7_1 v4_2 v4_8 g4_7 v0_6 v0_15 v0_10 g0_7 g0_12 g0_13 v9_1 g9_4 g9_5 v9_2 v9_3 g9_10 v9_18 v9_21 v9_20 g9_23 g9_27) (h7 : y_K7 v7_2 g7_0) (h8 : f_X8_method v7_2 g7_1 v0_0 v0_1 v0_2 v0_3 v0_4 v0_6 v0_10 v0_15 p1 p2 p3 p4 p5 = some R) (h9 : f_X9_method v9_0 v9_1 v9_13 v9_14 v9_15 v9_16 v9_17 v9_18 v9_20 v9_21 v9_22 g9_5 p1 p2 p3 p4 p5 = some S) : (S.2.1 = R.1 ∧ (R.1 = 0 → R.2.1 = S.1)) ∧ y_U2 v7_2 g7_0 g7_1 v4_2 v4_8 g4_7 R.2.2.2.2.2.2.2.1 R.2.2.2.2.2.2.2.2.2 R.2.2.2.2.2.2.2.2.1 g0_7 g0_12 g0_13 v9_1 g9_4 g9_5 v9_2 v9_3 g9_10 S.2.2.2.2.2.2.2.1 S.2.2.2.2.2.2.2.2.2.1 S.2.2.2.2.2.2.2.2.1 g9_23 g9_27 := by
  obtain ⟨hu, e1, e2, hSC⟩ := hu
  have hq := u_method hu h7 h8 h9
  have hu0 := hu
  obtain ⟨rfl, rfl, hab, rfl, rfl, hTK, rfl, rfl⟩ := hu
  obtain ⟨q7_0, q7_1, q7_2⟩ := h7
  have h := y_two (F := fun R S => (R.1, R.2.1, R.2.2.1, R.2.2.2.1, R.2.2.2.2.1, R.2.2.2.2.2.1, R.2.2.2.2.2.2.1, R.2.2.2.2.2.2.2.1, R.2.2.2.2.2.2.2.2.1, R.2.2.2.2.2.2.2.2.2, S.1, S.2.1, S.2.2.1, S.2.2.2.1, S.2.2.2.2.1, S.2.2.2.2.2.1, S.2.2.2.2.2.2.1, S.2.2.2.2.2.2.2.1, S.2.2.2.2.2.2.2.2.1, S.2.2.2.2.2.2.2.2.2.1, S.2.2.2.2.2.2.2.2.2.2)) (ex_method (by first | with_reducible assumption | omega) (by first | with_reducible assumption | omega)) h8 h9
  dsimp only at h
  obtain ⟨e10, e11, e12, e13, e14, e15, e16, e17⟩ := h
  refine ⟨hq.1, hq.2, ?_, e2, ?_⟩
  · by_cases hz : (R.1).toInt = 0
    · exact Int32.toInt_inj.mp (by have := e14.resolve_left (fun hn => hn hz); have := e15.resolve_left (fun hn => hn hz); omega)
    · rw [e16.resolve_left hz, e17.resolve_left hz]; exact e1
  · by_cases hz : (R.1).toInt = 0
    · exact y_SC0 (by have := e14.resolve_left (fun hn => hn hz); omega)
    · rw [e16.resolve_left hz]; exact hSC
set_option maxHeartbeats 4000000 in
theorem u2_argument {v7_2 : Int32} {v0_6 : Int32} {g0_5 : Nat → Int32} {p1 : Int32} {v9_0 : Int32} {v9_1 : Int32} {v9_18 : Int32} {g9_19 : Nat → Int32} {g7_0 : Nat → Int32} {g7_1 : Nat → Int32} {v4_2 : Int32} {v4_8 : Int32} {g4_7 : Nat → Int32} {v0_15 : Int32} {v0_10 : Int32} {g0_7 : Nat → Int32} {g0_12 : Nat → Int32} {g0_13 : Nat → Int32} {g9_4 : Nat → Int32} {g9_5 : Nat → Int32} {v9_2 : Int32} {v9_3 : Int32} {g9_10 : Nat → Int32} {v9_21 : Int32} {v9_20 : Int32} {g9_23 : Nat → Int32} {g9_27 : Nat → Int32} {v0_0 : Int32} {v0_2 : Int32} {v0_3 : Int32} {v0_4 : Int32} {g0_8 : Nat → Int32} {g0_9 : Nat → Int32} {g0_11 : Nat → Int32} {n0_11 : Nat} {g0_14 : Nat → Int32} {R : Int32 × Int32 × Int32 × (Nat → Int32)} {S : Int32 × Int32 × Int32 × (Nat → Int32)} (hu : y_U2 v7_2 g7_0 g7_1 v4_2 v4_8 g4_7 v0_6 v0_15 v0_10 g0_7 g0_12 g0_13 v9_1 g9_4 g9_5 v9_2 v9_3 g9_10 v9_18 v9_21 v9_20 g9_23 g9_27) (h7 : y_K7 v7_2 g7_0) (h0 : y_K0 v0_0 v0_2 v0_3 v0_4 v0_6 v0_10 v0_15 g0_5 g0_7 g0_8 g0_9 g0_11 n0_11 g0_12 g0_13 g0_14) (h8 : f_X8_argument v7_2 v0_6 g0_5 p1 = some R) (h9 : f_X9_argument v9_0 v9_1 v9_18 g9_19 p1 = some S) : (S.2.1 = R.1 ∧ (R.1 = 0 → R.2.1 = S.1)) ∧ y_U2 v7_2 g7_0 g7_1 v4_2 v4_8 g4_7 R.2.2.1 v0_15 v0_10 g0_7 g0_12 g0_13 v9_1 g9_4 g9_5 v9_2 v9_3 g9_10 S.2.2.1 v9_21 v9_20 g9_23 g9_27 := by
  obtain ⟨hu, e1, e2, hSC⟩ := hu
  have h := u_argument hu h7 h0 h8 h9
  exact ⟨h.1, h.2, e1, e2, hSC⟩
set_option maxHeartbeats 4000000 in
theorem u2_row {v7_2 : Int32} {v0_15 : Int32} {g0_14 : Nat → Int32} {p1 : Int32} {p2 : Int32} {p3 : Int32} {p4 : Int32} {v9_0 : Int32} {v9_1 : Int32} {v9_21 : Int32} {g9_29 : Nat → Int32} {g9_30 : Nat → Int32} {g9_31 : Nat → Int32} {g9_32 : Nat → Int32} {g7_0 : Nat → Int32} {g7_1 : Nat → Int32} {v4_2 : Int32} {v4_8 : Int32} {g4_7 : Nat → Int32} {v0_6 : Int32} {v0_10 : Int32} {g0_7 : Nat → Int32} {g0_12 : Nat → Int32} {g0_13 : Nat → Int32} {g9_4 : Nat → Int32} {g9_5 : Nat → Int32} {v9_2 : Int32} {v9_3 : Int32} {g9_10 : Nat → Int32} {v9_18 : Int32} {v9_20 : Int32} {g9_23 : Nat → Int32} {g9_27 : Nat → Int32} {v0_0 : Int32} {v0_2 : Int32} {v0_3 : Int32} {v0_4 : Int32} {g0_5 : Nat → Int32} {g0_8 : Nat → Int32} {g0_9 : Nat → Int32} {g0_11 : Nat → Int32} {n0_11 : Nat} {R : Int32 × Int32 × Int32 × (Nat → Int32)} {S : Int32 × Int32 × Int32 × (Nat → Int32) × (Nat → Int32) × (Nat → Int32) × (Nat → Int32)} (hu : y_U2 v7_2 g7_0 g7_1 v4_2 v4_8 g4_7 v0_6 v0_15 v0_10 g0_7 g0_12 g0_13 v9_1 g9_4 g9_5 v9_2 v9_3 g9_10 v9_18 v9_21 v9_20 g9_23 g9_27) (h7 : y_K7 v7_2 g7_0) (h0 : y_K0 v0_0 v0_2 v0_3 v0_4 v0_6 v0_10 v0_15 g0_5 g0_7 g0_8 g0_9 g0_11 n0_11 g0_12 g0_13 g0_14) (h8 : f_X8_row v7_2 v0_15 g0_14 p1 p2 p3 p4 = some R) (h9 : f_X9_row v9_0 v9_1 v9_21 g9_29 g9_30 g9_31 g9_32 p1 p2 p3 p4 = some S) : (S.2.1 = R.1 ∧ (R.1 = 0 → R.2.1 = S.1)) ∧ y_U2 v7_2 g7_0 g7_1 v4_2 v4_8 g4_7 v0_6 R.2.2.1 v0_10 g0_7 g0_12 g0_13 v9_1 g9_4 g9_5 v9_2 v9_3 g9_10 v9_18 S.2.2.1 v9_20 g9_23 g9_27 := by
  obtain ⟨hu, e1, e2, hSC⟩ := hu
  have h := u_row hu h7 h0 h8 h9
  exact ⟨h.1, h.2, e1, e2, hSC⟩
set_option maxHeartbeats 4000000 in
theorem u2_put {v7_2 : Int32} {v4_2 : Int32} {v4_8 : Int32} {v0_10 : Int32} {g0_7 : Nat → Int32} {g0_8 : Nat → Int32} {g0_9 : Nat → Int32} {g0_12 : Nat → Int32} {g0_13 : Nat → Int32} {p1 : Int32} {p2 : Int32} {p3 : Int32} {v9_0 : Int32} {v9_1 : Int32} {v9_2 : Int32} {v9_3 : Int32} {v9_20 : Int32} {v9_22 : Int32} {g9_23 : Nat → Int32} {g9_24 : Nat → Int32} {g9_25 : Nat → Int32} {g9_26 : Nat → Int32} {g9_27 : Nat → Int32} {g7_0 : Nat → Int32} {g7_1 : Nat → Int32} {g4_7 : Nat → Int32} {v0_6 : Int32} {v0_15 : Int32} {g9_4 : Nat → Int32} {g9_5 : Nat → Int32} {g9_10 : Nat → Int32} {v9_18 : Int32} {v9_21 : Int32} {g4_0 : Nat → Int32} {g4_1 : Nat → Int32} {g4_3 : Nat → Int32} {g4_4 : Nat → Int32} {g4_6 : Nat → Int32} {v0_0 : Int32} {v0_2 : Int32} {v0_3 : Int32} {v0_4 : Int32} {g0_5 : Nat → Int32} {g0_11 : Nat → Int32} {n0_11 : Nat} {g0_14 : Nat → Int32} {R : Int32 × Int32 × Int32 × (Nat → Int32) × (Nat → Int32) × (Nat → Int32) × (Nat → Int32) × (Nat → Int32)} {S : Int32 × Int32 × Int32 × (Nat → Int32) × (Nat → Int32) × (Nat → Int32) × (Nat → Int32) × (Nat → Int32)} (hu : y_U2 v7_2 g7_0 g7_1 v4_2 v4_8 g4_7 v0_6 v0_15 v0_10 g0_7 g0_12 g0_13 v9_1 g9_4 g9_5 v9_2 v9_3 g9_10 v9_18 v9_21 v9_20 g9_23 g9_27) (h7 : y_K7 v7_2 g7_0) (h4 : y_K4 v4_2 v4_8 g4_0 g4_1 g4_3 g4_4 g4_6 g4_7) (h0 : y_K0 v0_0 v0_2 v0_3 v0_4 v0_6 v0_10 v0_15 g0_5 g0_7 g0_8 g0_9 g0_11 n0_11 g0_12 g0_13 g0_14) (h8 : f_X8_put v7_2 v4_2 v4_8 v0_10 g0_7 g0_8 g0_9 g0_12 g0_13 p1 p2 p3 = some R) (h9 : f_X9_put v9_0 v9_1 v9_2 v9_3 v9_20 v9_22 g9_23 g9_24 g9_25 g9_26 g9_27 p1 p2 p3 = some S) : (S.2.1 = R.1 ∧ (R.1 = 0 → R.2.1 = S.1)) ∧ y_U2 v7_2 g7_0 g7_1 v4_2 v4_8 g4_7 v0_6 v0_15 R.2.2.1 R.2.2.2.1 R.2.2.2.2.2.2.1 R.2.2.2.2.2.2.2 v9_1 g9_4 g9_5 v9_2 v9_3 g9_10 v9_18 v9_21 S.2.2.1 S.2.2.2.1 S.2.2.2.2.2.2.2 := by
  obtain ⟨hu, e1, e2, hSC⟩ := hu
  have hu0 := hu
  obtain ⟨rfl, rfl, hab, rfl, rfl, hTK, rfl, rfl⟩ := hu
  obtain ⟨rfl, rfl⟩ := And.intro e1 e2
  obtain ⟨q7_0, q7_1, q7_2⟩ := h7
  obtain ⟨q4_0, q4_1, q4_2, q4_3, q4_4, q4_5, q4_6, q4_7, q4_8, q4_9⟩ := h4
  obtain ⟨q0_0, q0_1, q0_2, q0_3, q0_4, q0_5, q0_6, q0_7, q0_8, q0_9, q0_10, q0_11, q0_12, q0_13, q0_14, q0_15, q0_16, q0_17, q0_18, q0_19⟩ := h0
  have h := y_two (F := fun R S => (R.1, R.2.1, R.2.2.1, R.2.2.2.1, R.2.2.2.2.1, R.2.2.2.2.2.1, R.2.2.2.2.2.2.1, R.2.2.2.2.2.2.2, S.1, S.2.1, S.2.2.1, S.2.2.2.1, S.2.2.2.2.1, S.2.2.2.2.2.1, S.2.2.2.2.2.2.1, S.2.2.2.2.2.2.2)) (ex_put (by first | with_reducible assumption | omega) (by first | with_reducible assumption | omega) (by first | with_reducible assumption | omega) (by first | with_reducible assumption | omega) (by first | with_reducible assumption | omega) (by first | with_reducible assumption | omega) (by first | with_reducible assumption | omega) (by first | with_reducible assumption | omega) (by first | with_reducible assumption | omega)) h8 h9
  dsimp only at h
  obtain ⟨e10, e11, e12, e13, e14⟩ := h
  exact ⟨⟨Int32.toInt_inj.mp e10, fun hz => Int32.toInt_inj.mp (e11.resolve_left (fun hn => hn (by rw [hz]; rfl)))⟩, hu0, Int32.toInt_inj.mp e12, e13, e14⟩
set_option maxHeartbeats 4000000 in
theorem u2_to {v0_10 : Int32} {g0_7 : Nat → Int32} {g0_11 : Nat → Int32} {n0_11 : Nat} {g0_12 : Nat → Int32} {g0_13 : Nat → Int32} {p1 : Int32} {v9_0 : Int32} {v9_20 : Int32} {v9_22 : Int32} {g9_23 : Nat → Int32} {g9_27 : Nat → Int32} {g9_28 : Nat → Int32} {v7_2 : Int32} {g7_0 : Nat → Int32} {g7_1 : Nat → Int32} {v4_2 : Int32} {v4_8 : Int32} {g4_7 : Nat → Int32} {v0_6 : Int32} {v0_15 : Int32} {v9_1 : Int32} {g9_4 : Nat → Int32} {g9_5 : Nat → Int32} {v9_2 : Int32} {v9_3 : Int32} {g9_10 : Nat → Int32} {v9_18 : Int32} {v9_21 : Int32} {v0_0 : Int32} {v0_2 : Int32} {v0_3 : Int32} {v0_4 : Int32} {g0_5 : Nat → Int32} {g0_8 : Nat → Int32} {g0_9 : Nat → Int32} {g0_14 : Nat → Int32} {v9_13 : Int32} {v9_15 : Int32} {v9_16 : Int32} {v9_17 : Int32} {g9_19 : Nat → Int32} {g9_24 : Nat → Int32} {g9_25 : Nat → Int32} {g9_26 : Nat → Int32} {g9_31 : Nat → Int32} {g9_32 : Nat → Int32} {R : Int32 × Int32 × (Nat → Int32) × Nat × (Nat → Int32) × Nat × Nat} {S : Int32 × Int32 × Int32 × (Nat → Int32) × (Nat → Int32)} (hu : y_U2 v7_2 g7_0 g7_1 v4_2 v4_8 g4_7 v0_6 v0_15 v0_10 g0_7 g0_12 g0_13 v9_1 g9_4 g9_5 v9_2 v9_3 g9_10 v9_18 v9_21 v9_20 g9_23 g9_27) (h0 : y_K0 v0_0 v0_2 v0_3 v0_4 v0_6 v0_10 v0_15 g0_5 g0_7 g0_8 g0_9 g0_11 n0_11 g0_12 g0_13 g0_14) (hc : y_Kc v9_13 v9_15 v9_16 v9_17 v9_18 v9_20 v9_21 v9_22 g9_19 g9_23 g9_24 g9_25 g9_26 g9_27 g9_28 g9_31 g9_32) (h8 : f_X8_to v0_10 g0_7 g0_11 n0_11 g0_12 g0_13 p1 = some R) (h9 : f_X9_to v9_0 v9_20 v9_22 g9_23 g9_27 g9_28 p1 = some S) : (S.2.1 = R.1 ∧ (R.1 = 0 → R.2.1 = S.1)) ∧ y_U2 v7_2 g7_0 g7_1 v4_2 v4_8 g4_7 v0_6 v0_15 v0_10 g0_7 g0_12 R.2.2.2.2.1 v9_1 g9_4 g9_5 v9_2 v9_3 g9_10 v9_18 v9_21 v9_20 g9_23 S.2.2.2.1 := by
  obtain ⟨hu, e1, e2, hSC⟩ := hu
  have hu0 := hu
  obtain ⟨rfl, rfl, hab, rfl, rfl, hTK, rfl, rfl⟩ := hu
  obtain ⟨rfl, rfl⟩ := And.intro e1 e2
  obtain ⟨q0_0, q0_1, q0_2, q0_3, q0_4, q0_5, q0_6, q0_7, q0_8, q0_9, q0_10, q0_11, q0_12, q0_13, q0_14, q0_15, q0_16, q0_17, q0_18, q0_19⟩ := h0
  obtain ⟨qc_0, qc_1, qc_2, qc_3, qc_4, qc_5, qc_6, qc_7, qc_8, qc_9, qc_10, qc_11, qc_12, qc_13, qc_14, qc_15, qc_16, qc_17, qc_18⟩ := hc
  have h := y_two (F := fun R S => (R.1, R.2.1, R.2.2.1, R.2.2.2.1, R.2.2.2.2.1, S.1, S.2.1, S.2.2.1, S.2.2.2.1, S.2.2.2.2)) (ex_to (g9_26 := g9_26) (by first | with_reducible assumption | omega) (by first | with_reducible assumption | omega) (by first | with_reducible assumption | omega) (by first | with_reducible assumption | omega) (by first | with_reducible assumption | omega) (by first | with_reducible assumption | omega) (by first | with_reducible assumption | omega)) h8 h9
  dsimp only at h
  obtain ⟨e10, e11, e12⟩ := h
  exact ⟨⟨Int32.toInt_inj.mp e10, fun hz => Int32.toInt_inj.mp (e11.resolve_left (fun hn => hn (by rw [hz]; rfl)))⟩, hu0, rfl, rfl, e12⟩
