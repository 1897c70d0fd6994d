/-! class and reference side by side -/
def y_Ab (g h : Nat → Int32) : Prop := ∀ k : Nat, 1 ≤ k → g k = h k
theorem y_Ab_upd {g h : Nat → Int32} {i : Nat} {v : Int32} (hh : y_Ab g h) : y_Ab (upd g i v) (upd h i v) := by
  intro k hk
  by_cases e : k = i
  · subst e; rw [y_upd1, y_upd1]
  · rw [y_upd2 e, y_upd2 e]; exact hh k hk
def y_TK (n : Int) (g h : Nat → Int32) : Prop := (∀ k : Nat, (k : Int) < n → g k = h k) ∧ ∀ k : Nat, n ≤ k → g k = 0
theorem y_TK.at {n : Int} {g h : Nat → Int32} (hh : y_TK n g h) (k : Nat) (hk : (k : Int) < n) : g k = h k := hh.1 k hk
theorem y_TK_shape {n n2 : Int} {g h : Nat → Int32} {i : Nat} (hh : y_TK n g h) (hi : (i : Int) = n) (hn : n2 = n + 1) : y_TK n2 g (upd h i 0) := by
  refine ⟨fun k hk => ?_, fun k hk => hh.2 k (by omega)⟩
  by_cases e : k = i
  · subst e; rw [y_upd1]; exact hh.2 k (by omega)
  · rw [y_upd2 e]; exact hh.1 k (by omega)
theorem y_TK_takes {n : Int} {g h : Nat → Int32} {i : Nat} {v w : Int32} (hh : y_TK n g h) (hi : (i : Int) < n) (hv : v = w) : y_TK n (upd g i v) (upd h i w) := by
  subst hv
  refine ⟨fun k hk => ?_, fun k hk => ?_⟩
  · by_cases e : k = i
    · subst e; rw [y_upd1, y_upd1]
    · rw [y_upd2 e, y_upd2 e]; exact hh.1 k hk
  · rw [y_upd2 (by omega)]; exact hh.2 k hk
theorem y_two {α β γ : Type} {f8 : Option α} {f9 : Option β} {F : α → β → γ} {Q : γ → Prop} {R : α} {S : β} (h : y_Ok (f8 >>= fun R => f9 >>= fun S => some (F R S)) Q) (h8 : f8 = some R) (h9 : f9 = some S) : Q (F R S) := by
  subst h8 h9
  obtain ⟨r, hr, hq⟩ := h
  cases hr
  exact hq
set_option maxHeartbeats 4000000 in
theorem ye_X7_enter {v7_2 : Int32} {g7_0 : Nat → Int32} {g7_1 : Nat → Int32} {p1 : Int32} {p2 : Int32} (k0 : 4 ≤ v7_2.toInt) (k1 : v7_2.toInt < 200) : y_Ok (f_X7_enter v7_2 g7_0 g7_1 p1 p2) (fun r => (r.1.toInt = v7_2.toInt) ∧ (r.2.1.toInt = v7_2.toInt + 1) ∧ (r.2.2.1 = upd g7_0 (Int32.toNatClampNeg v7_2) p1) ∧ (r.2.2.2 = upd g7_1 (Int32.toNatClampNeg v7_2) (vp_nar .boolean p2))) := by
  unfold f_X7_enter
  refine y_gd (y_gdI (by omega) (by omega)) ?_
  refine y_gd (y_gdI (by omega) (by omega)) ?_
  try have e1 := @y_addL v7_2 (1 : Int32) (1) rfl (by omega) (by omega)
  try have e2 := @y_cl v7_2 (by omega)
  try have e3 := @y_nb p2 (by omega) (by omega)
  refine y_some ?_
  try dsimp only
  refine ⟨?_, ?_, ?_, ?_⟩ <;> (first | with_reducible rfl | rfl | omega)
set_option maxHeartbeats 4000000 in
theorem ye_X4_enterField {v4_2 : Int32} {g4_0 : Nat → Int32} {g4_1 : Nat → Int32} {p1 : Int32} {p2 : Int32} (k0 : 0 ≤ v4_2.toInt) (k1 : v4_2.toInt < 100) : y_Ok (f_X4_enterField v4_2 g4_0 g4_1 p1 p2) (fun r => (r.1.toInt = v4_2.toInt) ∧ (r.2.1.toInt = v4_2.toInt + 1)) := by
  unfold f_X4_enterField
  refine y_gd (y_gdI (by omega) (by omega)) ?_
  refine y_gd (y_gdI (by omega) (by omega)) ?_
  try have e1 := @y_addL v4_2 (1 : Int32) (1) rfl (by omega) (by omega)
  try have e2 := @y_cl v4_2 (by omega)
  refine y_some ?_
  try dsimp only
  refine ⟨?_, ?_⟩ <;> (first | with_reducible rfl | rfl | omega)
set_option maxHeartbeats 4000000 in
theorem ye_X4_enterShape {v4_8 : Int32} {g4_3 : Nat → Int32} {g4_4 : Nat → Int32} {g4_5 : Nat → Int32} {p1 : Int32} {p2 : Int32} {p3 : Int32} (k0 : 0 ≤ v4_8.toInt) (k1 : v4_8.toInt < 100) : y_Ok (f_X4_enterShape v4_8 g4_3 g4_4 g4_5 p1 p2 p3) (fun r => (r.1.toInt = v4_8.toInt) ∧ (r.2.1.toInt = v4_8.toInt + 1)) := by
  unfold f_X4_enterShape
  refine y_gd (y_gdI (by omega) (by omega)) ?_
  refine y_gd (y_gdI (by omega) (by omega)) ?_
  refine y_gd (y_gdI (by omega) (by omega)) ?_
  try have e1 := @y_addL v4_8 (1 : Int32) (1) rfl (by omega) (by omega)
  try have e2 := @y_cl v4_8 (by omega)
  try have e3 := @y_nb p3 (by omega) (by omega)
  refine y_some ?_
  try dsimp only
  refine ⟨?_, ?_⟩ <;> (first | with_reducible rfl | rfl | omega)
set_option maxHeartbeats 4000000 in
theorem ye_X4_canTakeMore {v4_8 : Int32} {g4_7 : Nat → Int32} (k0 : 0 ≤ v4_8.toInt) (k1 : v4_8.toInt ≤ 100) : y_Ok (f_X4_canTakeMore v4_8 g4_7) (fun r => ((r.toInt = 0 ∧ (v4_8.toInt ≤ 0 ∨ 20 ≤ (g4_7 (Int32.toNatClampNeg (v4_8 - (1 : Int32)))).toInt)) ∨ (r.toInt = 1 ∧ 1 ≤ v4_8.toInt ∧ (g4_7 (Int32.toNatClampNeg (v4_8 - (1 : Int32)))).toInt < 20))) := by
  unfold f_X4_canTakeMore
  refine y_if (fun c1 => ?_) (fun c1 => ?_)
  · skip
    have e2 : (0 : Int32).toInt = 0 := rfl
    have c1' := c1
    rw [Int32.le_iff_toInt_le] at c1'
    refine y_some ?_
    try dsimp only
    (first | omega | (exact Or.inl ⟨by omega, by omega⟩) | (exact Or.inr ⟨by omega, by omega, by omega⟩))
  · skip
    have e3 : (0 : Int32).toInt = 0 := rfl
    have c1' := c1
    rw [Int32.le_iff_toInt_le] at c1'
    try have e4 := @y_subL v4_8 (1 : Int32) (1) rfl (by omega) (by omega)
    refine y_gd (y_gdI (by omega) (by omega)) ?_
    refine y_if (fun c5 => ?_) (fun c5 => ?_)
    · skip
      have e6 : (20 : Int32).toInt = 20 := rfl
      try have e7 := @y_cl (v4_8 - (1 : Int32)) (by omega)
      have c5' := c5
      rw [Int32.le_iff_toInt_le] at c5'
      refine y_some ?_
      try dsimp only
      (first | omega | (exact Or.inl ⟨by omega, by omega⟩) | (exact Or.inr ⟨by omega, by omega, by omega⟩))
    · skip
      have e8 : (20 : Int32).toInt = 20 := rfl
      try have e9 := @y_cl (v4_8 - (1 : Int32)) (by omega)
      have c5' := c5
      rw [Int32.le_iff_toInt_le] at c5'
      have e10 : (1 : Int32).toInt = 1 := rfl
      refine y_some ?_
      try dsimp only
      (first | omega | (exact Or.inl ⟨by omega, by omega⟩) | (exact Or.inr ⟨by omega, by omega, by omega⟩))
set_option maxHeartbeats 4000000 in
theorem ye_X4_takeMore {v4_8 : Int32} {g4_6 : Nat → Int32} {g4_7 : Nat → Int32} {p1 : Int32} (k0 : 0 ≤ v4_8.toInt) (k1 : v4_8.toInt ≤ 100) (hkt : y_Rg 100 0 20 g4_7) (k3 : 1 ≤ v4_8.toInt) (k4 : (g4_7 (Int32.toNatClampNeg (v4_8 - (1 : Int32)))).toInt < 20) : y_Ok (f_X4_takeMore v4_8 g4_6 g4_7 p1) (fun r => (r.1 = (g4_7 (Int32.toNatClampNeg (v4_8 - (1 : Int32)))) + (1 : Int32)) ∧ (r.2.2 = upd g4_7 (Int32.toNatClampNeg (v4_8 - (1 : Int32))) ((g4_7 (Int32.toNatClampNeg (v4_8 - (1 : Int32)))) + (1 : Int32)))) := by
  unfold f_X4_takeMore
  try have e1 := @y_subL v4_8 (1 : Int32) (1) rfl (by omega) (by omega)
  refine y_gd (y_gdI (by omega) (by omega)) ?_
  have e2 : (20 : Int32).toInt = 20 := rfl
  try have e3 := @y_mulR (v4_8 - (1 : Int32)) (20 : Int32) 20 rfl (by omega) (by omega)
  try have e4 := @y_cl (v4_8 - (1 : Int32)) (by omega)
  try have e5 := hkt.at (Int32.toNatClampNeg (v4_8 - (1 : Int32))) (by omega)
  try have e6 := @y_add ((v4_8 - (1 : Int32)) * (20 : Int32)) (g4_7 (Int32.toNatClampNeg (v4_8 - (1 : Int32)))) (by omega) (by omega)
  refine y_gd (y_gdI (by omega) (by omega)) ?_
  refine y_gd (y_gdI (by omega) (by omega)) ?_
  refine y_gd (y_gdI (by omega) (by omega)) ?_
  refine y_gd (y_gdI (by omega) (by omega)) ?_
  try have e7 := @y_addL (g4_7 (Int32.toNatClampNeg (v4_8 - (1 : Int32)))) (1 : Int32) (1) rfl (by omega) (by omega)
  try have e8 : y_Rg 100 0 20 (upd g4_7 (Int32.toNatClampNeg (v4_8 - (1 : Int32))) ((g4_7 (Int32.toNatClampNeg (v4_8 - (1 : Int32)))) + (1 : Int32))) := y_Rg_upd hkt (by omega) (by omega)
  try have e9 := e8.at (Int32.toNatClampNeg (v4_8 - (1 : Int32))) (by omega)
  try have e10 := @y_cl (((v4_8 - (1 : Int32)) * (20 : Int32)) + (g4_7 (Int32.toNatClampNeg (v4_8 - (1 : Int32))))) (by omega)
  refine y_some ?_
  try dsimp only
  refine ⟨?_, ?_⟩ <;> (first | with_reducible rfl | rfl | omega | (exact y_upd1 _ _ _))
set_option maxHeartbeats 4000000 in
theorem ye_X0_takeMore {v0_6 : Int32} {g0_5 : Nat → Int32} {p1 : Int32} (k0 : 0 ≤ v0_6.toInt) (k1 : v0_6.toInt < 20) : y_Ok (f_X0_takeMore v0_6 g0_5 p1) (fun r => (r.1.toInt = v0_6.toInt + 1) ∧ (r.2.1.toInt = v0_6.toInt + 1)) := by
  unfold f_X0_takeMore
  refine y_gd (y_gdI (by omega) (by omega)) ?_
  try have e1 := @y_addL v0_6 (1 : Int32) (1) rfl (by omega) (by omega)
  try have e2 := @y_cl v0_6 (by omega)
  refine y_some ?_
  try dsimp only
  refine ⟨?_, ?_⟩ <;> (first | with_reducible rfl | rfl | omega)
set_option maxHeartbeats 4000000 in
theorem ye_X0_enterRow {v0_15 : Int32} {g0_14 : Nat → Int32} {p1 : Int32} {p2 : Int32} {p3 : Int32} {p4 : Int32} (k0 : 0 ≤ v0_15.toInt) (k1 : v0_15.toInt < 50) : y_Ok (f_X0_enterRow v0_15 g0_14 p1 p2 p3 p4) (fun r => (r.1.toInt = v0_15.toInt + 1) ∧ (r.2.1.toInt = v0_15.toInt + 1)) := by
  unfold f_X0_enterRow
  have e1 : (4 : Int32).toInt = 4 := rfl
  try have e2 := @y_mulL (4 : Int32) v0_15 4 rfl (by omega) (by omega)
  refine y_gd (y_gdI (by omega) (by omega)) ?_
  try have e3 := @y_addL ((4 : Int32) * v0_15) (1 : Int32) (1) rfl (by omega) (by omega)
  refine y_gd (y_gdI (by omega) (by omega)) ?_
  try have e4 := @y_addL ((4 : Int32) * v0_15) (2 : Int32) (2) rfl (by omega) (by omega)
  refine y_gd (y_gdI (by omega) (by omega)) ?_
  try have e5 := @y_addL ((4 : Int32) * v0_15) (3 : Int32) (3) rfl (by omega) (by omega)
  refine y_gd (y_gdI (by omega) (by omega)) ?_
  try have e6 := @y_addL v0_15 (1 : Int32) (1) rfl (by omega) (by omega)
  try have e7 := @y_cl ((4 : Int32) * v0_15) (by omega)
  try have e8 := @y_cl (((4 : Int32) * v0_15) + (1 : Int32)) (by omega)
  try have e9 := @y_cl (((4 : Int32) * v0_15) + (2 : Int32)) (by omega)
  try have e10 := @y_cl (((4 : Int32) * v0_15) + (3 : Int32)) (by omega)
  refine y_some ?_
  try dsimp only
  refine ⟨?_, ?_⟩ <;> (first | with_reducible rfl | rfl | omega)
set_option maxHeartbeats 4000000 in
theorem ye_X0_begin {v0_0 : Int32} {v0_1 : Int32} {v0_2 : Int32} {v0_3 : Int32} {v0_4 : Int32} {v0_6 : Int32} {v0_10 : Int32} {v0_15 : Int32} {p1 : Int32} {p2 : Int32} {p3 : Int32} {p4 : Int32} {p5 : Int32}  : y_Ok (f_X0_begin v0_0 v0_1 v0_2 v0_3 v0_4 v0_6 v0_10 v0_15 p1 p2 p3 p4 p5) (fun r => (r.2.2.2.2.2.1.toInt = 0) ∧ (r.2.2.2.2.2.2.1.toInt = 0) ∧ (r.2.2.2.2.2.2.2.toInt = 0)) := by
  unfold f_X0_begin
  have e1 : (0 : Int32).toInt = 0 := rfl
  refine y_some ?_
  try dsimp only
  refine ⟨?_, ?_, ?_⟩ <;> (first | with_reducible rfl | rfl | omega)
set_option maxHeartbeats 4000000 in
theorem ex_add {v7_2 : Int32} {g7_0 : Nat → Int32} {g7_1 : Nat → Int32} {p1 : Int32} {p2 : Int32} {v9_0 : Int32} {g9_4 : Nat → Int32} (k0 : 4 ≤ v7_2.toInt) (k1 : v7_2.toInt ≤ 200) (hab : y_Ab g7_0 g9_4) : y_Ok ((f_X8_add v7_2 g7_0 g7_1 p1 p2) >>= (fun R => (f_X9_add v9_0 v7_2 g9_4 g7_1 p1 p2) >>= (fun S => some (R.1, R.2.1, R.2.2.1, R.2.2.2.1, R.2.2.2.2, S.1, S.2.1, S.2.2.1, S.2.2.2.1, S.2.2.2.2)))) (fun r => (r.2.2.2.2.2.2.1.toInt = r.1.toInt) ∧ (¬ r.1.toInt = 0 ∨ r.2.1.toInt = r.2.2.2.2.2.1.toInt) ∧ (r.2.2.1.toInt = r.2.2.2.2.2.2.2.1.toInt) ∧ (r.2.2.2.2.1 = r.2.2.2.2.2.2.2.2.2) ∧ (y_Ab r.2.2.2.1 r.2.2.2.2.2.2.2.2.1)) := by
  unfold f_X8_add f_X9_add
  refine y_bt ?_
  refine y_bi (y_X7_isClass) (fun r_1 h_r_1 => ?_)
  have h0_r_1 : (r_1.toInt = 0 ∧ ¬ (0 ≤ p1.toInt ∧ p1.toInt < v7_2.toInt)) ∨ (r_1.toInt = 1 ∧ (0 ≤ p1.toInt ∧ p1.toInt < v7_2.toInt)) := h_r_1
  refine y_if (fun c1 => ?_) (fun c1 => ?_)
  · skip
    have e2 : (0 : Int32).toInt = 0 := rfl
    have c1' := c1
    rw [← Int32.toInt_inj] at c1'
    have e3 := y_or0 h0_r_1 c1'
    clear h0_r_1
    refine y_some ?_
    try dsimp only
    refine y_bt ?_
    refine y_bi (y_X9_isClass) (fun s_1 h_s_1 => ?_)
    have h0_s_1 : (s_1.toInt = 0 ∧ ¬ (0 ≤ p1.toInt ∧ p1.toInt < v7_2.toInt)) ∨ (s_1.toInt = 1 ∧ (0 ≤ p1.toInt ∧ p1.toInt < v7_2.toInt)) := h_s_1
    refine y_if (fun c4 => ?_) (fun c4 => ?_)
    · skip
      have c4' := c4
      rw [← Int32.toInt_inj] at c4'
      have e5 := y_or0 h0_s_1 c4'
      clear h0_s_1
      refine y_bi (y_X9_bad) (fun s_3 h_s_3 => ?_)
      obtain ⟨h0_s_3, h1_s_3⟩ := h_s_3
      refine y_some ?_
      try dsimp only
      have e6 : (1 : Int32).toInt = 1 := rfl
      refine y_some ?_
      try dsimp only
      refine ⟨?_, ?_, ?_, ?_, ?_⟩ <;> (first | with_reducible rfl | with_reducible assumption | omega | (exfalso; omega) | (rw [h3_r_7]) | (rw [h2_r_7]; exact y_Ab_upd (by with_reducible assumption)) | (rw [h3_r_10]) | (rw [h2_r_10]; exact y_Ab_upd (by with_reducible assumption)))
    · skip
      have c4' := c4
      rw [← Int32.toInt_inj] at c4'
      have e7 := y_or1 h0_s_1 c4'
      clear h0_s_1
      refine y_gd (y_gdI (by omega) (by omega)) ?_
      refine y_if (fun c8 => ?_) (fun c8 => ?_)
      · skip
        try have e9 := @y_cl p1 (by omega)
        have c8' := c8
        rw [← Int32.toInt_inj] at c8'
        refine y_if (fun c10 => ?_) (fun c10 => ?_)
        · skip
          have c10' := c10
          rw [← Int32.toInt_inj] at c10'
          refine y_if (fun c11 => ?_) (fun c11 => ?_)
          · skip
            have e12 : (200 : Int32).toInt = 200 := rfl
            have c11' := c11
            rw [← Int32.toInt_inj] at c11'
            refine y_bi (y_X9_full) (fun s_11 h_s_11 => ?_)
            obtain ⟨h0_s_11, h1_s_11⟩ := h_s_11
            refine y_some ?_
            try dsimp only
            have e13 : (1 : Int32).toInt = 1 := rfl
            refine y_some ?_
            try dsimp only
            refine ⟨?_, ?_, ?_, ?_, ?_⟩ <;> (first | with_reducible rfl | with_reducible assumption | omega | (exfalso; omega) | (rw [h3_r_7]) | (rw [h2_r_7]; exact y_Ab_upd (by with_reducible assumption)) | (rw [h3_r_10]) | (rw [h2_r_10]; exact y_Ab_upd (by with_reducible assumption)))
          · skip
            have e14 : (200 : Int32).toInt = 200 := rfl
            have c11' := c11
            rw [← Int32.toInt_inj] at c11'
            refine y_gd (y_gdI (by omega) (by omega)) ?_
            refine y_gd (y_gdI (by omega) (by omega)) ?_
            refine y_some ?_
            try dsimp only
            have e15 : (1 : Int32).toInt = 1 := rfl
            try have e16 := @y_addL v7_2 (1 : Int32) (1) rfl (by omega) (by omega)
            try have e17 := @y_cl v7_2 (by omega)
            try have e18 := @y_nb p2 (by omega) (by omega)
            refine y_some ?_
            try dsimp only
            refine ⟨?_, ?_, ?_, ?_, ?_⟩ <;> (first | with_reducible rfl | with_reducible assumption | omega | (exfalso; omega) | (rw [h3_r_7]) | (rw [h2_r_7]; exact y_Ab_upd (by with_reducible assumption)) | (rw [h3_r_10]) | (rw [h2_r_10]; exact y_Ab_upd (by with_reducible assumption)))
        · skip
          have c10' := c10
          rw [← Int32.toInt_inj] at c10'
          refine y_if (fun c19 => ?_) (fun c19 => ?_)
          · skip
            have c19' := c19
            rw [← Int32.toInt_inj] at c19'
            refine y_if (fun c20 => ?_) (fun c20 => ?_)
            · skip
              have e21 : (200 : Int32).toInt = 200 := rfl
              have c20' := c20
              rw [← Int32.toInt_inj] at c20'
              refine y_bi (y_X9_full) (fun s_16 h_s_16 => ?_)
              obtain ⟨h0_s_16, h1_s_16⟩ := h_s_16
              refine y_some ?_
              try dsimp only
              have e22 : (1 : Int32).toInt = 1 := rfl
              refine y_some ?_
              try dsimp only
              refine ⟨?_, ?_, ?_, ?_, ?_⟩ <;> (first | with_reducible rfl | with_reducible assumption | omega | (exfalso; omega) | (rw [h3_r_7]) | (rw [h2_r_7]; exact y_Ab_upd (by with_reducible assumption)) | (rw [h3_r_10]) | (rw [h2_r_10]; exact y_Ab_upd (by with_reducible assumption)))
            · skip
              have e23 : (200 : Int32).toInt = 200 := rfl
              have c20' := c20
              rw [← Int32.toInt_inj] at c20'
              refine y_gd (y_gdI (by omega) (by omega)) ?_
              refine y_gd (y_gdI (by omega) (by omega)) ?_
              refine y_some ?_
              try dsimp only
              have e24 : (1 : Int32).toInt = 1 := rfl
              try have e25 := @y_addL v7_2 (1 : Int32) (1) rfl (by omega) (by omega)
              try have e26 := @y_cl v7_2 (by omega)
              try have e27 := @y_nb p2 (by omega) (by omega)
              refine y_some ?_
              try dsimp only
              refine ⟨?_, ?_, ?_, ?_, ?_⟩ <;> (first | with_reducible rfl | with_reducible assumption | omega | (exfalso; omega) | (rw [h3_r_7]) | (rw [h2_r_7]; exact y_Ab_upd (by with_reducible assumption)) | (rw [h3_r_10]) | (rw [h2_r_10]; exact y_Ab_upd (by with_reducible assumption)))
          · skip
            have c19' := c19
            rw [← Int32.toInt_inj] at c19'
            refine y_bi (y_X9_bad) (fun s_17 h_s_17 => ?_)
            obtain ⟨h0_s_17, h1_s_17⟩ := h_s_17
            refine y_some ?_
            try dsimp only
            have e28 : (1 : Int32).toInt = 1 := rfl
            refine y_some ?_
            try dsimp only
            refine ⟨?_, ?_, ?_, ?_, ?_⟩ <;> (first | with_reducible rfl | with_reducible assumption | omega | (exfalso; omega) | (rw [h3_r_7]) | (rw [h2_r_7]; exact y_Ab_upd (by with_reducible assumption)) | (rw [h3_r_10]) | (rw [h2_r_10]; exact y_Ab_upd (by with_reducible assumption)))
      · skip
        try have e29 := @y_cl p1 (by omega)
        have c8' := c8
        rw [← Int32.toInt_inj] at c8'
        refine y_bi (y_X9_bad) (fun s_6 h_s_6 => ?_)
        obtain ⟨h0_s_6, h1_s_6⟩ := h_s_6
        refine y_some ?_
        try dsimp only
        have e30 : (1 : Int32).toInt = 1 := rfl
        refine y_some ?_
        try dsimp only
        refine ⟨?_, ?_, ?_, ?_, ?_⟩ <;> (first | with_reducible rfl | with_reducible assumption | omega | (exfalso; omega) | (rw [h3_r_7]) | (rw [h2_r_7]; exact y_Ab_upd (by with_reducible assumption)) | (rw [h3_r_10]) | (rw [h2_r_10]; exact y_Ab_upd (by with_reducible assumption)))
  · skip
    have e31 : (0 : Int32).toInt = 0 := rfl
    have c1' := c1
    rw [← Int32.toInt_inj] at c1'
    have e32 := y_or1 h0_r_1 c1'
    clear h0_r_1
    refine y_gd (y_gdI (by omega) (by omega)) ?_
    refine y_if (fun c33 => ?_) (fun c33 => ?_)
    · skip
      try have e34 := @y_cl p1 (by omega)
      have c33' := c33
      rw [← Int32.toInt_inj] at c33'
      refine y_if (fun c35 => ?_) (fun c35 => ?_)
      · skip
        have c35' := c35
        rw [← Int32.toInt_inj] at c35'
        refine y_if (fun c36 => ?_) (fun c36 => ?_)
        · skip
          have e37 : (200 : Int32).toInt = 200 := rfl
          have c36' := c36
          rw [Int32.lt_iff_toInt_lt] at c36'
          refine y_bi (ye_X7_enter (by omega) (by omega)) (fun r_7 h_r_7 => ?_)
          obtain ⟨h0_r_7, h1_r_7, h2_r_7, h3_r_7⟩ := h_r_7
          refine y_some ?_
          try dsimp only
          refine y_bt ?_
          refine y_bi (y_X9_isClass) (fun s_1 h_s_1 => ?_)
          have h0_s_1 : (s_1.toInt = 0 ∧ ¬ (0 ≤ p1.toInt ∧ p1.toInt < v7_2.toInt)) ∨ (s_1.toInt = 1 ∧ (0 ≤ p1.toInt ∧ p1.toInt < v7_2.toInt)) := h_s_1
          refine y_if (fun c38 => ?_) (fun c38 => ?_)
          · skip
            have c38' := c38
            rw [← Int32.toInt_inj] at c38'
            have e39 := y_or0 h0_s_1 c38'
            clear h0_s_1
            refine y_bi (y_X9_bad) (fun s_3 h_s_3 => ?_)
            obtain ⟨h0_s_3, h1_s_3⟩ := h_s_3
            refine y_some ?_
            try dsimp only
            refine y_some ?_
            try dsimp only
            refine ⟨?_, ?_, ?_, ?_, ?_⟩ <;> (first | with_reducible rfl | with_reducible assumption | omega | (exfalso; omega) | (rw [h3_r_7]) | (rw [h2_r_7]; exact y_Ab_upd (by with_reducible assumption)) | (rw [h3_r_10]) | (rw [h2_r_10]; exact y_Ab_upd (by with_reducible assumption)))
          · skip
            have c38' := c38
            rw [← Int32.toInt_inj] at c38'
            have e40 := y_or1 h0_s_1 c38'
            clear h0_s_1
            refine y_gd (y_gdI (by omega) (by omega)) ?_
            refine y_if (fun c41 => ?_) (fun c41 => ?_)
            · skip
              have c41' := c41
              rw [← Int32.toInt_inj] at c41'
              refine y_if (fun c42 => ?_) (fun c42 => ?_)
              · skip
                have c42' := c42
                rw [← Int32.toInt_inj] at c42'
                refine y_if (fun c43 => ?_) (fun c43 => ?_)
                · skip
                  have c43' := c43
                  rw [← Int32.toInt_inj] at c43'
                  refine y_bi (y_X9_full) (fun s_11 h_s_11 => ?_)
                  obtain ⟨h0_s_11, h1_s_11⟩ := h_s_11
                  refine y_some ?_
                  try dsimp only
                  refine y_some ?_
                  try dsimp only
                  refine ⟨?_, ?_, ?_, ?_, ?_⟩ <;> (first | with_reducible rfl | with_reducible assumption | omega | (exfalso; omega) | (rw [h3_r_7]) | (rw [h2_r_7]; exact y_Ab_upd (by with_reducible assumption)) | (rw [h3_r_10]) | (rw [h2_r_10]; exact y_Ab_upd (by with_reducible assumption)))
                · skip
                  have c43' := c43
                  rw [← Int32.toInt_inj] at c43'
                  refine y_gd (y_gdI (by omega) (by omega)) ?_
                  refine y_gd (y_gdI (by omega) (by omega)) ?_
                  refine y_some ?_
                  try dsimp only
                  try have e44 := @y_addL v7_2 (1 : Int32) (1) rfl (by omega) (by omega)
                  try have e45 := @y_cl v7_2 (by omega)
                  try have e46 := @y_nb p2 (by omega) (by omega)
                  refine y_some ?_
                  try dsimp only
                  refine ⟨?_, ?_, ?_, ?_, ?_⟩ <;> (first | with_reducible rfl | with_reducible assumption | omega | (exfalso; omega) | (rw [h3_r_7]) | (rw [h2_r_7]; exact y_Ab_upd (by with_reducible assumption)) | (rw [h3_r_10]) | (rw [h2_r_10]; exact y_Ab_upd (by with_reducible assumption)))
              · skip
                have c42' := c42
                rw [← Int32.toInt_inj] at c42'
                refine y_if (fun c47 => ?_) (fun c47 => ?_)
                · skip
                  have c47' := c47
                  rw [← Int32.toInt_inj] at c47'
                  refine y_if (fun c48 => ?_) (fun c48 => ?_)
                  · skip
                    have c48' := c48
                    rw [← Int32.toInt_inj] at c48'
                    refine y_bi (y_X9_full) (fun s_16 h_s_16 => ?_)
                    obtain ⟨h0_s_16, h1_s_16⟩ := h_s_16
                    refine y_some ?_
                    try dsimp only
                    refine y_some ?_
                    try dsimp only
                    refine ⟨?_, ?_, ?_, ?_, ?_⟩ <;> (first | with_reducible rfl | with_reducible assumption | omega | (exfalso; omega) | (rw [h3_r_7]) | (rw [h2_r_7]; exact y_Ab_upd (by with_reducible assumption)) | (rw [h3_r_10]) | (rw [h2_r_10]; exact y_Ab_upd (by with_reducible assumption)))
                  · skip
                    have c48' := c48
                    rw [← Int32.toInt_inj] at c48'
                    refine y_gd (y_gdI (by omega) (by omega)) ?_
                    refine y_gd (y_gdI (by omega) (by omega)) ?_
                    refine y_some ?_
                    try dsimp only
                    try have e49 := @y_addL v7_2 (1 : Int32) (1) rfl (by omega) (by omega)
                    try have e50 := @y_cl v7_2 (by omega)
                    try have e51 := @y_nb p2 (by omega) (by omega)
                    refine y_some ?_
                    try dsimp only
                    refine ⟨?_, ?_, ?_, ?_, ?_⟩ <;> (first | with_reducible rfl | with_reducible assumption | omega | (exfalso; omega) | (rw [h3_r_7]) | (rw [h2_r_7]; exact y_Ab_upd (by with_reducible assumption)) | (rw [h3_r_10]) | (rw [h2_r_10]; exact y_Ab_upd (by with_reducible assumption)))
                · skip
                  have c47' := c47
                  rw [← Int32.toInt_inj] at c47'
                  refine y_bi (y_X9_bad) (fun s_17 h_s_17 => ?_)
                  obtain ⟨h0_s_17, h1_s_17⟩ := h_s_17
                  refine y_some ?_
                  try dsimp only
                  refine y_some ?_
                  try dsimp only
                  refine ⟨?_, ?_, ?_, ?_, ?_⟩ <;> (first | with_reducible rfl | with_reducible assumption | omega | (exfalso; omega) | (rw [h3_r_7]) | (rw [h2_r_7]; exact y_Ab_upd (by with_reducible assumption)) | (rw [h3_r_10]) | (rw [h2_r_10]; exact y_Ab_upd (by with_reducible assumption)))
            · skip
              have c41' := c41
              rw [← Int32.toInt_inj] at c41'
              refine y_bi (y_X9_bad) (fun s_6 h_s_6 => ?_)
              obtain ⟨h0_s_6, h1_s_6⟩ := h_s_6
              refine y_some ?_
              try dsimp only
              refine y_some ?_
              try dsimp only
              refine ⟨?_, ?_, ?_, ?_, ?_⟩ <;> (first | with_reducible rfl | with_reducible assumption | omega | (exfalso; omega) | (rw [h3_r_7]) | (rw [h2_r_7]; exact y_Ab_upd (by with_reducible assumption)) | (rw [h3_r_10]) | (rw [h2_r_10]; exact y_Ab_upd (by with_reducible assumption)))
        · skip
          have e52 : (200 : Int32).toInt = 200 := rfl
          have c36' := c36
          rw [Int32.lt_iff_toInt_lt] at c36'
          refine y_some ?_
          try dsimp only
          refine y_bt ?_
          refine y_bi (y_X9_isClass) (fun s_1 h_s_1 => ?_)
          have h0_s_1 : (s_1.toInt = 0 ∧ ¬ (0 ≤ p1.toInt ∧ p1.toInt < v7_2.toInt)) ∨ (s_1.toInt = 1 ∧ (0 ≤ p1.toInt ∧ p1.toInt < v7_2.toInt)) := h_s_1
          refine y_if (fun c53 => ?_) (fun c53 => ?_)
          · skip
            have c53' := c53
            rw [← Int32.toInt_inj] at c53'
            have e54 := y_or0 h0_s_1 c53'
            clear h0_s_1
            refine y_bi (y_X9_bad) (fun s_3 h_s_3 => ?_)
            obtain ⟨h0_s_3, h1_s_3⟩ := h_s_3
            refine y_some ?_
            try dsimp only
            have e55 : (2 : Int32).toInt = 2 := rfl
            refine y_some ?_
            try dsimp only
            refine ⟨?_, ?_, ?_, ?_, ?_⟩ <;> (first | with_reducible rfl | with_reducible assumption | omega | (exfalso; omega) | (rw [h3_r_7]) | (rw [h2_r_7]; exact y_Ab_upd (by with_reducible assumption)) | (rw [h3_r_10]) | (rw [h2_r_10]; exact y_Ab_upd (by with_reducible assumption)))
          · skip
            have c53' := c53
            rw [← Int32.toInt_inj] at c53'
            have e56 := y_or1 h0_s_1 c53'
            clear h0_s_1
            refine y_gd (y_gdI (by omega) (by omega)) ?_
            refine y_if (fun c57 => ?_) (fun c57 => ?_)
            · skip
              have c57' := c57
              rw [← Int32.toInt_inj] at c57'
              refine y_if (fun c58 => ?_) (fun c58 => ?_)
              · skip
                have c58' := c58
                rw [← Int32.toInt_inj] at c58'
                refine y_if (fun c59 => ?_) (fun c59 => ?_)
                · skip
                  have c59' := c59
                  rw [← Int32.toInt_inj] at c59'
                  refine y_bi (y_X9_full) (fun s_11 h_s_11 => ?_)
                  obtain ⟨h0_s_11, h1_s_11⟩ := h_s_11
                  refine y_some ?_
                  try dsimp only
                  have e60 : (2 : Int32).toInt = 2 := rfl
                  refine y_some ?_
                  try dsimp only
                  refine ⟨?_, ?_, ?_, ?_, ?_⟩ <;> (first | with_reducible rfl | with_reducible assumption | omega | (exfalso; omega) | (rw [h3_r_7]) | (rw [h2_r_7]; exact y_Ab_upd (by with_reducible assumption)) | (rw [h3_r_10]) | (rw [h2_r_10]; exact y_Ab_upd (by with_reducible assumption)))
                · skip
                  have c59' := c59
                  rw [← Int32.toInt_inj] at c59'
                  refine y_gd (y_gdI (by omega) (by omega)) ?_
                  refine y_gd (y_gdI (by omega) (by omega)) ?_
                  refine y_some ?_
                  try dsimp only
                  have e61 : (2 : Int32).toInt = 2 := rfl
                  try have e62 := @y_addL v7_2 (1 : Int32) (1) rfl (by omega) (by omega)
                  try have e63 := @y_cl v7_2 (by omega)
                  try have e64 := @y_nb p2 (by omega) (by omega)
                  refine y_some ?_
                  try dsimp only
                  refine ⟨?_, ?_, ?_, ?_, ?_⟩ <;> (first | with_reducible rfl | with_reducible assumption | omega | (exfalso; omega) | (rw [h3_r_7]) | (rw [h2_r_7]; exact y_Ab_upd (by with_reducible assumption)) | (rw [h3_r_10]) | (rw [h2_r_10]; exact y_Ab_upd (by with_reducible assumption)))
              · skip
                have c58' := c58
                rw [← Int32.toInt_inj] at c58'
                refine y_if (fun c65 => ?_) (fun c65 => ?_)
                · skip
                  have c65' := c65
                  rw [← Int32.toInt_inj] at c65'
                  refine y_if (fun c66 => ?_) (fun c66 => ?_)
                  · skip
                    have c66' := c66
                    rw [← Int32.toInt_inj] at c66'
                    refine y_bi (y_X9_full) (fun s_16 h_s_16 => ?_)
                    obtain ⟨h0_s_16, h1_s_16⟩ := h_s_16
                    refine y_some ?_
                    try dsimp only
                    have e67 : (2 : Int32).toInt = 2 := rfl
                    refine y_some ?_
                    try dsimp only
                    refine ⟨?_, ?_, ?_, ?_, ?_⟩ <;> (first | with_reducible rfl | with_reducible assumption | omega | (exfalso; omega) | (rw [h3_r_7]) | (rw [h2_r_7]; exact y_Ab_upd (by with_reducible assumption)) | (rw [h3_r_10]) | (rw [h2_r_10]; exact y_Ab_upd (by with_reducible assumption)))
                  · skip
                    have c66' := c66
                    rw [← Int32.toInt_inj] at c66'
                    refine y_gd (y_gdI (by omega) (by omega)) ?_
                    refine y_gd (y_gdI (by omega) (by omega)) ?_
                    refine y_some ?_
                    try dsimp only
                    have e68 : (2 : Int32).toInt = 2 := rfl
                    try have e69 := @y_addL v7_2 (1 : Int32) (1) rfl (by omega) (by omega)
                    try have e70 := @y_cl v7_2 (by omega)
                    try have e71 := @y_nb p2 (by omega) (by omega)
                    refine y_some ?_
                    try dsimp only
                    refine ⟨?_, ?_, ?_, ?_, ?_⟩ <;> (first | with_reducible rfl | with_reducible assumption | omega | (exfalso; omega) | (rw [h3_r_7]) | (rw [h2_r_7]; exact y_Ab_upd (by with_reducible assumption)) | (rw [h3_r_10]) | (rw [h2_r_10]; exact y_Ab_upd (by with_reducible assumption)))
                · skip
                  have c65' := c65
                  rw [← Int32.toInt_inj] at c65'
                  refine y_bi (y_X9_bad) (fun s_17 h_s_17 => ?_)
                  obtain ⟨h0_s_17, h1_s_17⟩ := h_s_17
                  refine y_some ?_
                  try dsimp only
                  have e72 : (2 : Int32).toInt = 2 := rfl
                  refine y_some ?_
                  try dsimp only
                  refine ⟨?_, ?_, ?_, ?_, ?_⟩ <;> (first | with_reducible rfl | with_reducible assumption | omega | (exfalso; omega) | (rw [h3_r_7]) | (rw [h2_r_7]; exact y_Ab_upd (by with_reducible assumption)) | (rw [h3_r_10]) | (rw [h2_r_10]; exact y_Ab_upd (by with_reducible assumption)))
            · skip
              have c57' := c57
              rw [← Int32.toInt_inj] at c57'
              refine y_bi (y_X9_bad) (fun s_6 h_s_6 => ?_)
              obtain ⟨h0_s_6, h1_s_6⟩ := h_s_6
              refine y_some ?_
              try dsimp only
              have e73 : (2 : Int32).toInt = 2 := rfl
              refine y_some ?_
              try dsimp only
              refine ⟨?_, ?_, ?_, ?_, ?_⟩ <;> (first | with_reducible rfl | with_reducible assumption | omega | (exfalso; omega) | (rw [h3_r_7]) | (rw [h2_r_7]; exact y_Ab_upd (by with_reducible assumption)) | (rw [h3_r_10]) | (rw [h2_r_10]; exact y_Ab_upd (by with_reducible assumption)))
      · skip
        have c35' := c35
        rw [← Int32.toInt_inj] at c35'
        refine y_if (fun c74 => ?_) (fun c74 => ?_)
        · skip
          have c74' := c74
          rw [← Int32.toInt_inj] at c74'
          refine y_if (fun c75 => ?_) (fun c75 => ?_)
          · skip
            have e76 : (200 : Int32).toInt = 200 := rfl
            have c75' := c75
            rw [Int32.lt_iff_toInt_lt] at c75'
            refine y_bi (ye_X7_enter (by omega) (by omega)) (fun r_10 h_r_10 => ?_)
            obtain ⟨h0_r_10, h1_r_10, h2_r_10, h3_r_10⟩ := h_r_10
            refine y_some ?_
            try dsimp only
            refine y_bt ?_
            refine y_bi (y_X9_isClass) (fun s_1 h_s_1 => ?_)
            have h0_s_1 : (s_1.toInt = 0 ∧ ¬ (0 ≤ p1.toInt ∧ p1.toInt < v7_2.toInt)) ∨ (s_1.toInt = 1 ∧ (0 ≤ p1.toInt ∧ p1.toInt < v7_2.toInt)) := h_s_1
            refine y_if (fun c77 => ?_) (fun c77 => ?_)
            · skip
              have c77' := c77
              rw [← Int32.toInt_inj] at c77'
              have e78 := y_or0 h0_s_1 c77'
              clear h0_s_1
              refine y_bi (y_X9_bad) (fun s_3 h_s_3 => ?_)
              obtain ⟨h0_s_3, h1_s_3⟩ := h_s_3
              refine y_some ?_
              try dsimp only
              refine y_some ?_
              try dsimp only
              refine ⟨?_, ?_, ?_, ?_, ?_⟩ <;> (first | with_reducible rfl | with_reducible assumption | omega | (exfalso; omega) | (rw [h3_r_7]) | (rw [h2_r_7]; exact y_Ab_upd (by with_reducible assumption)) | (rw [h3_r_10]) | (rw [h2_r_10]; exact y_Ab_upd (by with_reducible assumption)))
            · skip
              have c77' := c77
              rw [← Int32.toInt_inj] at c77'
              have e79 := y_or1 h0_s_1 c77'
              clear h0_s_1
              refine y_gd (y_gdI (by omega) (by omega)) ?_
              refine y_if (fun c80 => ?_) (fun c80 => ?_)
              · skip
                have c80' := c80
                rw [← Int32.toInt_inj] at c80'
                refine y_if (fun c81 => ?_) (fun c81 => ?_)
                · skip
                  have c81' := c81
                  rw [← Int32.toInt_inj] at c81'
                  refine y_if (fun c82 => ?_) (fun c82 => ?_)
                  · skip
                    have c82' := c82
                    rw [← Int32.toInt_inj] at c82'
                    refine y_bi (y_X9_full) (fun s_11 h_s_11 => ?_)
                    obtain ⟨h0_s_11, h1_s_11⟩ := h_s_11
                    refine y_some ?_
                    try dsimp only
                    refine y_some ?_
                    try dsimp only
                    refine ⟨?_, ?_, ?_, ?_, ?_⟩ <;> (first | with_reducible rfl | with_reducible assumption | omega | (exfalso; omega) | (rw [h3_r_7]) | (rw [h2_r_7]; exact y_Ab_upd (by with_reducible assumption)) | (rw [h3_r_10]) | (rw [h2_r_10]; exact y_Ab_upd (by with_reducible assumption)))
                  · skip
                    have c82' := c82
                    rw [← Int32.toInt_inj] at c82'
                    refine y_gd (y_gdI (by omega) (by omega)) ?_
                    refine y_gd (y_gdI (by omega) (by omega)) ?_
                    refine y_some ?_
                    try dsimp only
                    try have e83 := @y_addL v7_2 (1 : Int32) (1) rfl (by omega) (by omega)
                    try have e84 := @y_cl v7_2 (by omega)
                    try have e85 := @y_nb p2 (by omega) (by omega)
                    refine y_some ?_
                    try dsimp only
                    refine ⟨?_, ?_, ?_, ?_, ?_⟩ <;> (first | with_reducible rfl | with_reducible assumption | omega | (exfalso; omega) | (rw [h3_r_7]) | (rw [h2_r_7]; exact y_Ab_upd (by with_reducible assumption)) | (rw [h3_r_10]) | (rw [h2_r_10]; exact y_Ab_upd (by with_reducible assumption)))
                · skip
                  have c81' := c81
                  rw [← Int32.toInt_inj] at c81'
                  refine y_if (fun c86 => ?_) (fun c86 => ?_)
                  · skip
                    have c86' := c86
                    rw [← Int32.toInt_inj] at c86'
                    refine y_if (fun c87 => ?_) (fun c87 => ?_)
                    · skip
                      have c87' := c87
                      rw [← Int32.toInt_inj] at c87'
                      refine y_bi (y_X9_full) (fun s_16 h_s_16 => ?_)
                      obtain ⟨h0_s_16, h1_s_16⟩ := h_s_16
                      refine y_some ?_
                      try dsimp only
                      refine y_some ?_
                      try dsimp only
                      refine ⟨?_, ?_, ?_, ?_, ?_⟩ <;> (first | with_reducible rfl | with_reducible assumption | omega | (exfalso; omega) | (rw [h3_r_7]) | (rw [h2_r_7]; exact y_Ab_upd (by with_reducible assumption)) | (rw [h3_r_10]) | (rw [h2_r_10]; exact y_Ab_upd (by with_reducible assumption)))
                    · skip
                      have c87' := c87
                      rw [← Int32.toInt_inj] at c87'
                      refine y_gd (y_gdI (by omega) (by omega)) ?_
                      refine y_gd (y_gdI (by omega) (by omega)) ?_
                      refine y_some ?_
                      try dsimp only
                      try have e88 := @y_addL v7_2 (1 : Int32) (1) rfl (by omega) (by omega)
                      try have e89 := @y_cl v7_2 (by omega)
                      try have e90 := @y_nb p2 (by omega) (by omega)
                      refine y_some ?_
                      try dsimp only
                      refine ⟨?_, ?_, ?_, ?_, ?_⟩ <;> (first | with_reducible rfl | with_reducible assumption | omega | (exfalso; omega) | (rw [h3_r_7]) | (rw [h2_r_7]; exact y_Ab_upd (by with_reducible assumption)) | (rw [h3_r_10]) | (rw [h2_r_10]; exact y_Ab_upd (by with_reducible assumption)))
                  · skip
                    have c86' := c86
                    rw [← Int32.toInt_inj] at c86'
                    refine y_bi (y_X9_bad) (fun s_17 h_s_17 => ?_)
                    obtain ⟨h0_s_17, h1_s_17⟩ := h_s_17
                    refine y_some ?_
                    try dsimp only
                    refine y_some ?_
                    try dsimp only
                    refine ⟨?_, ?_, ?_, ?_, ?_⟩ <;> (first | with_reducible rfl | with_reducible assumption | omega | (exfalso; omega) | (rw [h3_r_7]) | (rw [h2_r_7]; exact y_Ab_upd (by with_reducible assumption)) | (rw [h3_r_10]) | (rw [h2_r_10]; exact y_Ab_upd (by with_reducible assumption)))
              · skip
                have c80' := c80
                rw [← Int32.toInt_inj] at c80'
                refine y_bi (y_X9_bad) (fun s_6 h_s_6 => ?_)
                obtain ⟨h0_s_6, h1_s_6⟩ := h_s_6
                refine y_some ?_
                try dsimp only
                refine y_some ?_
                try dsimp only
                refine ⟨?_, ?_, ?_, ?_, ?_⟩ <;> (first | with_reducible rfl | with_reducible assumption | omega | (exfalso; omega) | (rw [h3_r_7]) | (rw [h2_r_7]; exact y_Ab_upd (by with_reducible assumption)) | (rw [h3_r_10]) | (rw [h2_r_10]; exact y_Ab_upd (by with_reducible assumption)))
          · skip
            have e91 : (200 : Int32).toInt = 200 := rfl
            have c75' := c75
            rw [Int32.lt_iff_toInt_lt] at c75'
            refine y_some ?_
            try dsimp only
            refine y_bt ?_
            refine y_bi (y_X9_isClass) (fun s_1 h_s_1 => ?_)
            have h0_s_1 : (s_1.toInt = 0 ∧ ¬ (0 ≤ p1.toInt ∧ p1.toInt < v7_2.toInt)) ∨ (s_1.toInt = 1 ∧ (0 ≤ p1.toInt ∧ p1.toInt < v7_2.toInt)) := h_s_1
            refine y_if (fun c92 => ?_) (fun c92 => ?_)
            · skip
              have c92' := c92
              rw [← Int32.toInt_inj] at c92'
              have e93 := y_or0 h0_s_1 c92'
              clear h0_s_1
              refine y_bi (y_X9_bad) (fun s_3 h_s_3 => ?_)
              obtain ⟨h0_s_3, h1_s_3⟩ := h_s_3
              refine y_some ?_
              try dsimp only
              have e94 : (2 : Int32).toInt = 2 := rfl
              refine y_some ?_
              try dsimp only
              refine ⟨?_, ?_, ?_, ?_, ?_⟩ <;> (first | with_reducible rfl | with_reducible assumption | omega | (exfalso; omega) | (rw [h3_r_7]) | (rw [h2_r_7]; exact y_Ab_upd (by with_reducible assumption)) | (rw [h3_r_10]) | (rw [h2_r_10]; exact y_Ab_upd (by with_reducible assumption)))
            · skip
              have c92' := c92
              rw [← Int32.toInt_inj] at c92'
              have e95 := y_or1 h0_s_1 c92'
              clear h0_s_1
              refine y_gd (y_gdI (by omega) (by omega)) ?_
              refine y_if (fun c96 => ?_) (fun c96 => ?_)
              · skip
                have c96' := c96
                rw [← Int32.toInt_inj] at c96'
                refine y_if (fun c97 => ?_) (fun c97 => ?_)
                · skip
                  have c97' := c97
                  rw [← Int32.toInt_inj] at c97'
                  refine y_if (fun c98 => ?_) (fun c98 => ?_)
                  · skip
                    have c98' := c98
                    rw [← Int32.toInt_inj] at c98'
                    refine y_bi (y_X9_full) (fun s_11 h_s_11 => ?_)
                    obtain ⟨h0_s_11, h1_s_11⟩ := h_s_11
                    refine y_some ?_
                    try dsimp only
                    have e99 : (2 : Int32).toInt = 2 := rfl
                    refine y_some ?_
                    try dsimp only
                    refine ⟨?_, ?_, ?_, ?_, ?_⟩ <;> (first | with_reducible rfl | with_reducible assumption | omega | (exfalso; omega) | (rw [h3_r_7]) | (rw [h2_r_7]; exact y_Ab_upd (by with_reducible assumption)) | (rw [h3_r_10]) | (rw [h2_r_10]; exact y_Ab_upd (by with_reducible assumption)))
                  · skip
                    have c98' := c98
                    rw [← Int32.toInt_inj] at c98'
                    refine y_gd (y_gdI (by omega) (by omega)) ?_
                    refine y_gd (y_gdI (by omega) (by omega)) ?_
                    refine y_some ?_
                    try dsimp only
                    have e100 : (2 : Int32).toInt = 2 := rfl
                    try have e101 := @y_addL v7_2 (1 : Int32) (1) rfl (by omega) (by omega)
                    try have e102 := @y_cl v7_2 (by omega)
                    try have e103 := @y_nb p2 (by omega) (by omega)
                    refine y_some ?_
                    try dsimp only
                    refine ⟨?_, ?_, ?_, ?_, ?_⟩ <;> (first | with_reducible rfl | with_reducible assumption | omega | (exfalso; omega) | (rw [h3_r_7]) | (rw [h2_r_7]; exact y_Ab_upd (by with_reducible assumption)) | (rw [h3_r_10]) | (rw [h2_r_10]; exact y_Ab_upd (by with_reducible assumption)))
                · skip
                  have c97' := c97
                  rw [← Int32.toInt_inj] at c97'
                  refine y_if (fun c104 => ?_) (fun c104 => ?_)
                  · skip
                    have c104' := c104
                    rw [← Int32.toInt_inj] at c104'
                    refine y_if (fun c105 => ?_) (fun c105 => ?_)
                    · skip
                      have c105' := c105
                      rw [← Int32.toInt_inj] at c105'
                      refine y_bi (y_X9_full) (fun s_16 h_s_16 => ?_)
                      obtain ⟨h0_s_16, h1_s_16⟩ := h_s_16
                      refine y_some ?_
                      try dsimp only
                      have e106 : (2 : Int32).toInt = 2 := rfl
                      refine y_some ?_
                      try dsimp only
                      refine ⟨?_, ?_, ?_, ?_, ?_⟩ <;> (first | with_reducible rfl | with_reducible assumption | omega | (exfalso; omega) | (rw [h3_r_7]) | (rw [h2_r_7]; exact y_Ab_upd (by with_reducible assumption)) | (rw [h3_r_10]) | (rw [h2_r_10]; exact y_Ab_upd (by with_reducible assumption)))
                    · skip
                      have c105' := c105
                      rw [← Int32.toInt_inj] at c105'
                      refine y_gd (y_gdI (by omega) (by omega)) ?_
                      refine y_gd (y_gdI (by omega) (by omega)) ?_
                      refine y_some ?_
                      try dsimp only
                      have e107 : (2 : Int32).toInt = 2 := rfl
                      try have e108 := @y_addL v7_2 (1 : Int32) (1) rfl (by omega) (by omega)
                      try have e109 := @y_cl v7_2 (by omega)
                      try have e110 := @y_nb p2 (by omega) (by omega)
                      refine y_some ?_
                      try dsimp only
                      refine ⟨?_, ?_, ?_, ?_, ?_⟩ <;> (first | with_reducible rfl | with_reducible assumption | omega | (exfalso; omega) | (rw [h3_r_7]) | (rw [h2_r_7]; exact y_Ab_upd (by with_reducible assumption)) | (rw [h3_r_10]) | (rw [h2_r_10]; exact y_Ab_upd (by with_reducible assumption)))
                  · skip
                    have c104' := c104
                    rw [← Int32.toInt_inj] at c104'
                    refine y_bi (y_X9_bad) (fun s_17 h_s_17 => ?_)
                    obtain ⟨h0_s_17, h1_s_17⟩ := h_s_17
                    refine y_some ?_
                    try dsimp only
                    have e111 : (2 : Int32).toInt = 2 := rfl
                    refine y_some ?_
                    try dsimp only
                    refine ⟨?_, ?_, ?_, ?_, ?_⟩ <;> (first | with_reducible rfl | with_reducible assumption | omega | (exfalso; omega) | (rw [h3_r_7]) | (rw [h2_r_7]; exact y_Ab_upd (by with_reducible assumption)) | (rw [h3_r_10]) | (rw [h2_r_10]; exact y_Ab_upd (by with_reducible assumption)))
              · skip
                have c96' := c96
                rw [← Int32.toInt_inj] at c96'
                refine y_bi (y_X9_bad) (fun s_6 h_s_6 => ?_)
                obtain ⟨h0_s_6, h1_s_6⟩ := h_s_6
                refine y_some ?_
                try dsimp only
                have e112 : (2 : Int32).toInt = 2 := rfl
                refine y_some ?_
                try dsimp only
                refine ⟨?_, ?_, ?_, ?_, ?_⟩ <;> (first | with_reducible rfl | with_reducible assumption | omega | (exfalso; omega) | (rw [h3_r_7]) | (rw [h2_r_7]; exact y_Ab_upd (by with_reducible assumption)) | (rw [h3_r_10]) | (rw [h2_r_10]; exact y_Ab_upd (by with_reducible assumption)))
        · skip
          have c74' := c74
          rw [← Int32.toInt_inj] at c74'
          refine y_some ?_
          try dsimp only
          refine y_bt ?_
          refine y_bi (y_X9_isClass) (fun s_1 h_s_1 => ?_)
          have h0_s_1 : (s_1.toInt = 0 ∧ ¬ (0 ≤ p1.toInt ∧ p1.toInt < v7_2.toInt)) ∨ (s_1.toInt = 1 ∧ (0 ≤ p1.toInt ∧ p1.toInt < v7_2.toInt)) := h_s_1
          refine y_if (fun c113 => ?_) (fun c113 => ?_)
          · skip
            have c113' := c113
            rw [← Int32.toInt_inj] at c113'
            have e114 := y_or0 h0_s_1 c113'
            clear h0_s_1
            refine y_bi (y_X9_bad) (fun s_3 h_s_3 => ?_)
            obtain ⟨h0_s_3, h1_s_3⟩ := h_s_3
            refine y_some ?_
            try dsimp only
            have e115 : (1 : Int32).toInt = 1 := rfl
            refine y_some ?_
            try dsimp only
            refine ⟨?_, ?_, ?_, ?_, ?_⟩ <;> (first | with_reducible rfl | with_reducible assumption | omega | (exfalso; omega) | (rw [h3_r_7]) | (rw [h2_r_7]; exact y_Ab_upd (by with_reducible assumption)) | (rw [h3_r_10]) | (rw [h2_r_10]; exact y_Ab_upd (by with_reducible assumption)))
          · skip
            have c113' := c113
            rw [← Int32.toInt_inj] at c113'
            have e116 := y_or1 h0_s_1 c113'
            clear h0_s_1
            refine y_gd (y_gdI (by omega) (by omega)) ?_
            refine y_if (fun c117 => ?_) (fun c117 => ?_)
            · skip
              have c117' := c117
              rw [← Int32.toInt_inj] at c117'
              refine y_if (fun c118 => ?_) (fun c118 => ?_)
              · skip
                have c118' := c118
                rw [← Int32.toInt_inj] at c118'
                refine y_if (fun c119 => ?_) (fun c119 => ?_)
                · skip
                  have e120 : (200 : Int32).toInt = 200 := rfl
                  have c119' := c119
                  rw [← Int32.toInt_inj] at c119'
                  refine y_bi (y_X9_full) (fun s_11 h_s_11 => ?_)
                  obtain ⟨h0_s_11, h1_s_11⟩ := h_s_11
                  refine y_some ?_
                  try dsimp only
                  have e121 : (1 : Int32).toInt = 1 := rfl
                  refine y_some ?_
                  try dsimp only
                  refine ⟨?_, ?_, ?_, ?_, ?_⟩ <;> (first | with_reducible rfl | with_reducible assumption | omega | (exfalso; omega) | (rw [h3_r_7]) | (rw [h2_r_7]; exact y_Ab_upd (by with_reducible assumption)) | (rw [h3_r_10]) | (rw [h2_r_10]; exact y_Ab_upd (by with_reducible assumption)))
                · skip
                  have e122 : (200 : Int32).toInt = 200 := rfl
                  have c119' := c119
                  rw [← Int32.toInt_inj] at c119'
                  refine y_gd (y_gdI (by omega) (by omega)) ?_
                  refine y_gd (y_gdI (by omega) (by omega)) ?_
                  refine y_some ?_
                  try dsimp only
                  have e123 : (1 : Int32).toInt = 1 := rfl
                  try have e124 := @y_addL v7_2 (1 : Int32) (1) rfl (by omega) (by omega)
                  try have e125 := @y_cl v7_2 (by omega)
                  try have e126 := @y_nb p2 (by omega) (by omega)
                  refine y_some ?_
                  try dsimp only
                  refine ⟨?_, ?_, ?_, ?_, ?_⟩ <;> (first | with_reducible rfl | with_reducible assumption | omega | (exfalso; omega) | (rw [h3_r_7]) | (rw [h2_r_7]; exact y_Ab_upd (by with_reducible assumption)) | (rw [h3_r_10]) | (rw [h2_r_10]; exact y_Ab_upd (by with_reducible assumption)))
              · skip
                have c118' := c118
                rw [← Int32.toInt_inj] at c118'
                refine y_if (fun c127 => ?_) (fun c127 => ?_)
                · skip
                  have c127' := c127
                  rw [← Int32.toInt_inj] at c127'
                  refine y_if (fun c128 => ?_) (fun c128 => ?_)
                  · skip
                    have e129 : (200 : Int32).toInt = 200 := rfl
                    have c128' := c128
                    rw [← Int32.toInt_inj] at c128'
                    refine y_bi (y_X9_full) (fun s_16 h_s_16 => ?_)
                    obtain ⟨h0_s_16, h1_s_16⟩ := h_s_16
                    refine y_some ?_
                    try dsimp only
                    have e130 : (1 : Int32).toInt = 1 := rfl
                    refine y_some ?_
                    try dsimp only
                    refine ⟨?_, ?_, ?_, ?_, ?_⟩ <;> (first | with_reducible rfl | with_reducible assumption | omega | (exfalso; omega) | (rw [h3_r_7]) | (rw [h2_r_7]; exact y_Ab_upd (by with_reducible assumption)) | (rw [h3_r_10]) | (rw [h2_r_10]; exact y_Ab_upd (by with_reducible assumption)))
                  · skip
                    have e131 : (200 : Int32).toInt = 200 := rfl
                    have c128' := c128
                    rw [← Int32.toInt_inj] at c128'
                    refine y_gd (y_gdI (by omega) (by omega)) ?_
                    refine y_gd (y_gdI (by omega) (by omega)) ?_
                    refine y_some ?_
                    try dsimp only
                    have e132 : (1 : Int32).toInt = 1 := rfl
                    try have e133 := @y_addL v7_2 (1 : Int32) (1) rfl (by omega) (by omega)
                    try have e134 := @y_cl v7_2 (by omega)
                    try have e135 := @y_nb p2 (by omega) (by omega)
                    refine y_some ?_
                    try dsimp only
                    refine ⟨?_, ?_, ?_, ?_, ?_⟩ <;> (first | with_reducible rfl | with_reducible assumption | omega | (exfalso; omega) | (rw [h3_r_7]) | (rw [h2_r_7]; exact y_Ab_upd (by with_reducible assumption)) | (rw [h3_r_10]) | (rw [h2_r_10]; exact y_Ab_upd (by with_reducible assumption)))
                · skip
                  have c127' := c127
                  rw [← Int32.toInt_inj] at c127'
                  refine y_bi (y_X9_bad) (fun s_17 h_s_17 => ?_)
                  obtain ⟨h0_s_17, h1_s_17⟩ := h_s_17
                  refine y_some ?_
                  try dsimp only
                  have e136 : (1 : Int32).toInt = 1 := rfl
                  refine y_some ?_
                  try dsimp only
                  refine ⟨?_, ?_, ?_, ?_, ?_⟩ <;> (first | with_reducible rfl | with_reducible assumption | omega | (exfalso; omega) | (rw [h3_r_7]) | (rw [h2_r_7]; exact y_Ab_upd (by with_reducible assumption)) | (rw [h3_r_10]) | (rw [h2_r_10]; exact y_Ab_upd (by with_reducible assumption)))
            · skip
              have c117' := c117
              rw [← Int32.toInt_inj] at c117'
              refine y_bi (y_X9_bad) (fun s_6 h_s_6 => ?_)
              obtain ⟨h0_s_6, h1_s_6⟩ := h_s_6
              refine y_some ?_
              try dsimp only
              have e137 : (1 : Int32).toInt = 1 := rfl
              refine y_some ?_
              try dsimp only
              refine ⟨?_, ?_, ?_, ?_, ?_⟩ <;> (first | with_reducible rfl | with_reducible assumption | omega | (exfalso; omega) | (rw [h3_r_7]) | (rw [h2_r_7]; exact y_Ab_upd (by with_reducible assumption)) | (rw [h3_r_10]) | (rw [h2_r_10]; exact y_Ab_upd (by with_reducible assumption)))
    · skip
      try have e138 := @y_cl p1 (by omega)
      have c33' := c33
      rw [← Int32.toInt_inj] at c33'
      refine y_some ?_
      try dsimp only
      refine y_bt ?_
      refine y_bi (y_X9_isClass) (fun s_1 h_s_1 => ?_)
      have h0_s_1 : (s_1.toInt = 0 ∧ ¬ (0 ≤ p1.toInt ∧ p1.toInt < v7_2.toInt)) ∨ (s_1.toInt = 1 ∧ (0 ≤ p1.toInt ∧ p1.toInt < v7_2.toInt)) := h_s_1
      refine y_if (fun c139 => ?_) (fun c139 => ?_)
      · skip
        have c139' := c139
        rw [← Int32.toInt_inj] at c139'
        have e140 := y_or0 h0_s_1 c139'
        clear h0_s_1
        refine y_bi (y_X9_bad) (fun s_3 h_s_3 => ?_)
        obtain ⟨h0_s_3, h1_s_3⟩ := h_s_3
        refine y_some ?_
        try dsimp only
        have e141 : (1 : Int32).toInt = 1 := rfl
        refine y_some ?_
        try dsimp only
        refine ⟨?_, ?_, ?_, ?_, ?_⟩ <;> (first | with_reducible rfl | with_reducible assumption | omega | (exfalso; omega) | (rw [h3_r_7]) | (rw [h2_r_7]; exact y_Ab_upd (by with_reducible assumption)) | (rw [h3_r_10]) | (rw [h2_r_10]; exact y_Ab_upd (by with_reducible assumption)))
      · skip
        have c139' := c139
        rw [← Int32.toInt_inj] at c139'
        have e142 := y_or1 h0_s_1 c139'
        clear h0_s_1
        refine y_gd (y_gdI (by omega) (by omega)) ?_
        refine y_if (fun c143 => ?_) (fun c143 => ?_)
        · skip
          have c143' := c143
          rw [← Int32.toInt_inj] at c143'
          refine y_if (fun c144 => ?_) (fun c144 => ?_)
          · skip
            have c144' := c144
            rw [← Int32.toInt_inj] at c144'
            refine y_if (fun c145 => ?_) (fun c145 => ?_)
            · skip
              have e146 : (200 : Int32).toInt = 200 := rfl
              have c145' := c145
              rw [← Int32.toInt_inj] at c145'
              refine y_bi (y_X9_full) (fun s_11 h_s_11 => ?_)
              obtain ⟨h0_s_11, h1_s_11⟩ := h_s_11
              refine y_some ?_
              try dsimp only
              have e147 : (1 : Int32).toInt = 1 := rfl
              refine y_some ?_
              try dsimp only
              refine ⟨?_, ?_, ?_, ?_, ?_⟩ <;> (first | with_reducible rfl | with_reducible assumption | omega | (exfalso; omega) | (rw [h3_r_7]) | (rw [h2_r_7]; exact y_Ab_upd (by with_reducible assumption)) | (rw [h3_r_10]) | (rw [h2_r_10]; exact y_Ab_upd (by with_reducible assumption)))
            · skip
              have e148 : (200 : Int32).toInt = 200 := rfl
              have c145' := c145
              rw [← Int32.toInt_inj] at c145'
              refine y_gd (y_gdI (by omega) (by omega)) ?_
              refine y_gd (y_gdI (by omega) (by omega)) ?_
              refine y_some ?_
              try dsimp only
              have e149 : (1 : Int32).toInt = 1 := rfl
              try have e150 := @y_addL v7_2 (1 : Int32) (1) rfl (by omega) (by omega)
              try have e151 := @y_cl v7_2 (by omega)
              try have e152 := @y_nb p2 (by omega) (by omega)
              refine y_some ?_
              try dsimp only
              refine ⟨?_, ?_, ?_, ?_, ?_⟩ <;> (first | with_reducible rfl | with_reducible assumption | omega | (exfalso; omega) | (rw [h3_r_7]) | (rw [h2_r_7]; exact y_Ab_upd (by with_reducible assumption)) | (rw [h3_r_10]) | (rw [h2_r_10]; exact y_Ab_upd (by with_reducible assumption)))
          · skip
            have c144' := c144
            rw [← Int32.toInt_inj] at c144'
            refine y_if (fun c153 => ?_) (fun c153 => ?_)
            · skip
              have c153' := c153
              rw [← Int32.toInt_inj] at c153'
              refine y_if (fun c154 => ?_) (fun c154 => ?_)
              · skip
                have e155 : (200 : Int32).toInt = 200 := rfl
                have c154' := c154
                rw [← Int32.toInt_inj] at c154'
                refine y_bi (y_X9_full) (fun s_16 h_s_16 => ?_)
                obtain ⟨h0_s_16, h1_s_16⟩ := h_s_16
                refine y_some ?_
                try dsimp only
                have e156 : (1 : Int32).toInt = 1 := rfl
                refine y_some ?_
                try dsimp only
                refine ⟨?_, ?_, ?_, ?_, ?_⟩ <;> (first | with_reducible rfl | with_reducible assumption | omega | (exfalso; omega) | (rw [h3_r_7]) | (rw [h2_r_7]; exact y_Ab_upd (by with_reducible assumption)) | (rw [h3_r_10]) | (rw [h2_r_10]; exact y_Ab_upd (by with_reducible assumption)))
              · skip
                have e157 : (200 : Int32).toInt = 200 := rfl
                have c154' := c154
                rw [← Int32.toInt_inj] at c154'
                refine y_gd (y_gdI (by omega) (by omega)) ?_
                refine y_gd (y_gdI (by omega) (by omega)) ?_
                refine y_some ?_
                try dsimp only
                have e158 : (1 : Int32).toInt = 1 := rfl
                try have e159 := @y_addL v7_2 (1 : Int32) (1) rfl (by omega) (by omega)
                try have e160 := @y_cl v7_2 (by omega)
                try have e161 := @y_nb p2 (by omega) (by omega)
                refine y_some ?_
                try dsimp only
                refine ⟨?_, ?_, ?_, ?_, ?_⟩ <;> (first | with_reducible rfl | with_reducible assumption | omega | (exfalso; omega) | (rw [h3_r_7]) | (rw [h2_r_7]; exact y_Ab_upd (by with_reducible assumption)) | (rw [h3_r_10]) | (rw [h2_r_10]; exact y_Ab_upd (by with_reducible assumption)))
            · skip
              have c153' := c153
              rw [← Int32.toInt_inj] at c153'
              refine y_bi (y_X9_bad) (fun s_17 h_s_17 => ?_)
              obtain ⟨h0_s_17, h1_s_17⟩ := h_s_17
              refine y_some ?_
              try dsimp only
              have e162 : (1 : Int32).toInt = 1 := rfl
              refine y_some ?_
              try dsimp only
              refine ⟨?_, ?_, ?_, ?_, ?_⟩ <;> (first | with_reducible rfl | with_reducible assumption | omega | (exfalso; omega) | (rw [h3_r_7]) | (rw [h2_r_7]; exact y_Ab_upd (by with_reducible assumption)) | (rw [h3_r_10]) | (rw [h2_r_10]; exact y_Ab_upd (by with_reducible assumption)))
        · skip
          have c143' := c143
          rw [← Int32.toInt_inj] at c143'
          refine y_bi (y_X9_bad) (fun s_6 h_s_6 => ?_)
          obtain ⟨h0_s_6, h1_s_6⟩ := h_s_6
          refine y_some ?_
          try dsimp only
          have e163 : (1 : Int32).toInt = 1 := rfl
          refine y_some ?_
          try dsimp only
          refine ⟨?_, ?_, ?_, ?_, ?_⟩ <;> (first | with_reducible rfl | with_reducible assumption | omega | (exfalso; omega) | (rw [h3_r_7]) | (rw [h2_r_7]; exact y_Ab_upd (by with_reducible assumption)) | (rw [h3_r_10]) | (rw [h2_r_10]; exact y_Ab_upd (by with_reducible assumption)))
set_option maxHeartbeats 4000000 in
theorem ex_field {v7_2 : Int32} {v4_2 : Int32} {g4_0 : Nat → Int32} {g4_1 : Nat → Int32} {p1 : Int32} {p2 : Int32} {v9_0 : Int32} {g9_6 : Nat → Int32} {g9_7 : Nat → Int32} (k0 : 4 ≤ v7_2.toInt) (k1 : v7_2.toInt ≤ 200) (k2 : 0 ≤ v4_2.toInt) (k3 : v4_2.toInt ≤ 100) : y_Ok ((f_X8_field v7_2 v4_2 g4_0 g4_1 p1 p2) >>= (fun R => (f_X9_field v9_0 v7_2 v4_2 g9_6 g9_7 p1 p2) >>= (fun S => some (R.1, R.2.1, R.2.2.1, R.2.2.2.1, R.2.2.2.2, S.1, S.2.1, S.2.2.1, S.2.2.2.1, S.2.2.2.2)))) (fun r => (r.2.2.2.2.2.2.1.toInt = r.1.toInt) ∧ (¬ r.1.toInt = 0 ∨ r.2.1.toInt = r.2.2.2.2.2.1.toInt) ∧ (r.2.2.1.toInt = r.2.2.2.2.2.2.2.1.toInt)) := by
  unfold f_X8_field f_X9_field
  refine y_bt ?_
  refine y_bi (y_X7_isClass) (fun r_1 h_r_1 => ?_)
  have h0_r_1 : (r_1.toInt = 0 ∧ ¬ (0 ≤ p1.toInt ∧ p1.toInt < v7_2.toInt)) ∨ (r_1.toInt = 1 ∧ (0 ≤ p1.toInt ∧ p1.toInt < v7_2.toInt)) := h_r_1
  refine y_if (fun c1 => ?_) (fun c1 => ?_)
  · skip
    have e2 : (0 : Int32).toInt = 0 := rfl
    have c1' := c1
    rw [← Int32.toInt_inj] at c1'
    have e3 := y_or0 h0_r_1 c1'
    clear h0_r_1
    refine y_some ?_
    try dsimp only
    refine y_bt ?_
    refine y_bi (y_X9_isClass) (fun s_1 h_s_1 => ?_)
    have h0_s_1 : (s_1.toInt = 0 ∧ ¬ (0 ≤ p1.toInt ∧ p1.toInt < v7_2.toInt)) ∨ (s_1.toInt = 1 ∧ (0 ≤ p1.toInt ∧ p1.toInt < v7_2.toInt)) := h_s_1
    refine y_if (fun c4 => ?_) (fun c4 => ?_)
    · skip
      have c4' := c4
      rw [← Int32.toInt_inj] at c4'
      have e5 := y_or0 h0_s_1 c4'
      clear h0_s_1
      refine y_bi (y_X9_bad) (fun s_3 h_s_3 => ?_)
      obtain ⟨h0_s_3, h1_s_3⟩ := h_s_3
      refine y_some ?_
      try dsimp only
      have e6 : (1 : Int32).toInt = 1 := rfl
      refine y_some ?_
      try dsimp only
      refine ⟨?_, ?_, ?_⟩ <;> (first | with_reducible rfl | with_reducible assumption | omega | (exfalso; omega))
    · skip
      have c4' := c4
      rw [← Int32.toInt_inj] at c4'
      have e7 := y_or1 h0_s_1 c4'
      clear h0_s_1
      refine y_bi (y_X9_isType (by omega) (by omega)) (fun s_4 h_s_4 => ?_)
      have h0_s_4 : (s_4.toInt = 0 ∧ ¬ (0 ≤ p2.toInt ∧ p2.toInt < 16777216 ∧ (p2.toInt % 65536 < v7_2.toInt ∨ 65528 ≤ p2.toInt % 65536))) ∨ (s_4.toInt = 1 ∧ (0 ≤ p2.toInt ∧ p2.toInt < 16777216 ∧ (p2.toInt % 65536 < v7_2.toInt ∨ 65528 ≤ p2.toInt % 65536))) := h_s_4
      refine y_if (fun c8 => ?_) (fun c8 => ?_)
      · skip
        have c8' := c8
        rw [← Int32.toInt_inj] at c8'
        have e9 := y_or0 h0_s_4 c8'
        clear h0_s_4
        refine y_bi (y_X9_bad) (fun s_10 h_s_10 => ?_)
        obtain ⟨h0_s_10, h1_s_10⟩ := h_s_10
        refine y_some ?_
        try dsimp only
        have e10 : (1 : Int32).toInt = 1 := rfl
        refine y_some ?_
        try dsimp only
        refine ⟨?_, ?_, ?_⟩ <;> (first | with_reducible rfl | with_reducible assumption | omega | (exfalso; omega))
      · skip
        have c8' := c8
        rw [← Int32.toInt_inj] at c8'
        have e11 := y_or1 h0_s_4 c8'
        clear h0_s_4
        refine y_if (fun c12 => ?_) (fun c12 => ?_)
        · skip
          have e13 : (100 : Int32).toInt = 100 := rfl
          have c12' := c12
          rw [← Int32.toInt_inj] at c12'
          refine y_bi (y_X9_full) (fun s_9 h_s_9 => ?_)
          obtain ⟨h0_s_9, h1_s_9⟩ := h_s_9
          refine y_some ?_
          try dsimp only
          have e14 : (1 : Int32).toInt = 1 := rfl
          refine y_some ?_
          try dsimp only
          refine ⟨?_, ?_, ?_⟩ <;> (first | with_reducible rfl | with_reducible assumption | omega | (exfalso; omega))
        · skip
          have e15 : (100 : Int32).toInt = 100 := rfl
          have c12' := c12
          rw [← Int32.toInt_inj] at c12'
          refine y_gd (y_gdI (by omega) (by omega)) ?_
          refine y_gd (y_gdI (by omega) (by omega)) ?_
          refine y_some ?_
          try dsimp only
          have e16 : (1 : Int32).toInt = 1 := rfl
          try have e17 := @y_addL v4_2 (1 : Int32) (1) rfl (by omega) (by omega)
          try have e18 := @y_cl v4_2 (by omega)
          refine y_some ?_
          try dsimp only
          refine ⟨?_, ?_, ?_⟩ <;> (first | with_reducible rfl | with_reducible assumption | omega | (exfalso; omega))
  · skip
    have e19 : (0 : Int32).toInt = 0 := rfl
    have c1' := c1
    rw [← Int32.toInt_inj] at c1'
    have e20 := y_or1 h0_r_1 c1'
    clear h0_r_1
    refine y_bi (y_X7_isType (by omega) (by omega)) (fun r_3 h_r_3 => ?_)
    have h0_r_3 : (r_3.toInt = 0 ∧ ¬ (0 ≤ p2.toInt ∧ p2.toInt < 16777216 ∧ (p2.toInt % 65536 < v7_2.toInt ∨ 65528 ≤ p2.toInt % 65536))) ∨ (r_3.toInt = 1 ∧ (0 ≤ p2.toInt ∧ p2.toInt < 16777216 ∧ (p2.toInt % 65536 < v7_2.toInt ∨ 65528 ≤ p2.toInt % 65536))) := h_r_3
    refine y_if (fun c21 => ?_) (fun c21 => ?_)
    · skip
      have c21' := c21
      rw [← Int32.toInt_inj] at c21'
      have e22 := y_or0 h0_r_3 c21'
      clear h0_r_3
      refine y_some ?_
      try dsimp only
      refine y_bt ?_
      refine y_bi (y_X9_isClass) (fun s_1 h_s_1 => ?_)
      have h0_s_1 : (s_1.toInt = 0 ∧ ¬ (0 ≤ p1.toInt ∧ p1.toInt < v7_2.toInt)) ∨ (s_1.toInt = 1 ∧ (0 ≤ p1.toInt ∧ p1.toInt < v7_2.toInt)) := h_s_1
      refine y_if (fun c23 => ?_) (fun c23 => ?_)
      · skip
        have c23' := c23
        rw [← Int32.toInt_inj] at c23'
        have e24 := y_or0 h0_s_1 c23'
        clear h0_s_1
        refine y_bi (y_X9_bad) (fun s_3 h_s_3 => ?_)
        obtain ⟨h0_s_3, h1_s_3⟩ := h_s_3
        refine y_some ?_
        try dsimp only
        have e25 : (1 : Int32).toInt = 1 := rfl
        refine y_some ?_
        try dsimp only
        refine ⟨?_, ?_, ?_⟩ <;> (first | with_reducible rfl | with_reducible assumption | omega | (exfalso; omega))
      · skip
        have c23' := c23
        rw [← Int32.toInt_inj] at c23'
        have e26 := y_or1 h0_s_1 c23'
        clear h0_s_1
        refine y_bi (y_X9_isType (by omega) (by omega)) (fun s_4 h_s_4 => ?_)
        have h0_s_4 : (s_4.toInt = 0 ∧ ¬ (0 ≤ p2.toInt ∧ p2.toInt < 16777216 ∧ (p2.toInt % 65536 < v7_2.toInt ∨ 65528 ≤ p2.toInt % 65536))) ∨ (s_4.toInt = 1 ∧ (0 ≤ p2.toInt ∧ p2.toInt < 16777216 ∧ (p2.toInt % 65536 < v7_2.toInt ∨ 65528 ≤ p2.toInt % 65536))) := h_s_4
        refine y_if (fun c27 => ?_) (fun c27 => ?_)
        · skip
          have c27' := c27
          rw [← Int32.toInt_inj] at c27'
          have e28 := y_or0 h0_s_4 c27'
          clear h0_s_4
          refine y_bi (y_X9_bad) (fun s_10 h_s_10 => ?_)
          obtain ⟨h0_s_10, h1_s_10⟩ := h_s_10
          refine y_some ?_
          try dsimp only
          have e29 : (1 : Int32).toInt = 1 := rfl
          refine y_some ?_
          try dsimp only
          refine ⟨?_, ?_, ?_⟩ <;> (first | with_reducible rfl | with_reducible assumption | omega | (exfalso; omega))
        · skip
          have c27' := c27
          rw [← Int32.toInt_inj] at c27'
          have e30 := y_or1 h0_s_4 c27'
          clear h0_s_4
          refine y_if (fun c31 => ?_) (fun c31 => ?_)
          · skip
            have e32 : (100 : Int32).toInt = 100 := rfl
            have c31' := c31
            rw [← Int32.toInt_inj] at c31'
            refine y_bi (y_X9_full) (fun s_9 h_s_9 => ?_)
            obtain ⟨h0_s_9, h1_s_9⟩ := h_s_9
            refine y_some ?_
            try dsimp only
            have e33 : (1 : Int32).toInt = 1 := rfl
            refine y_some ?_
            try dsimp only
            refine ⟨?_, ?_, ?_⟩ <;> (first | with_reducible rfl | with_reducible assumption | omega | (exfalso; omega))
          · skip
            have e34 : (100 : Int32).toInt = 100 := rfl
            have c31' := c31
            rw [← Int32.toInt_inj] at c31'
            refine y_gd (y_gdI (by omega) (by omega)) ?_
            refine y_gd (y_gdI (by omega) (by omega)) ?_
            refine y_some ?_
            try dsimp only
            have e35 : (1 : Int32).toInt = 1 := rfl
            try have e36 := @y_addL v4_2 (1 : Int32) (1) rfl (by omega) (by omega)
            try have e37 := @y_cl v4_2 (by omega)
            refine y_some ?_
            try dsimp only
            refine ⟨?_, ?_, ?_⟩ <;> (first | with_reducible rfl | with_reducible assumption | omega | (exfalso; omega))
    · skip
      have c21' := c21
      rw [← Int32.toInt_inj] at c21'
      have e38 := y_or1 h0_r_3 c21'
      clear h0_r_3
      refine y_if (fun c39 => ?_) (fun c39 => ?_)
      · skip
        have e40 : (100 : Int32).toInt = 100 := rfl
        have c39' := c39
        rw [Int32.lt_iff_toInt_lt] at c39'
        refine y_bi (ye_X4_enterField (by omega) (by omega)) (fun r_6 h_r_6 => ?_)
        obtain ⟨h0_r_6, h1_r_6⟩ := h_r_6
        refine y_some ?_
        try dsimp only
        refine y_bt ?_
        refine y_bi (y_X9_isClass) (fun s_1 h_s_1 => ?_)
        have h0_s_1 : (s_1.toInt = 0 ∧ ¬ (0 ≤ p1.toInt ∧ p1.toInt < v7_2.toInt)) ∨ (s_1.toInt = 1 ∧ (0 ≤ p1.toInt ∧ p1.toInt < v7_2.toInt)) := h_s_1
        refine y_if (fun c41 => ?_) (fun c41 => ?_)
        · skip
          have c41' := c41
          rw [← Int32.toInt_inj] at c41'
          have e42 := y_or0 h0_s_1 c41'
          clear h0_s_1
          refine y_bi (y_X9_bad) (fun s_3 h_s_3 => ?_)
          obtain ⟨h0_s_3, h1_s_3⟩ := h_s_3
          refine y_some ?_
          try dsimp only
          refine y_some ?_
          try dsimp only
          refine ⟨?_, ?_, ?_⟩ <;> (first | with_reducible rfl | with_reducible assumption | omega | (exfalso; omega))
        · skip
          have c41' := c41
          rw [← Int32.toInt_inj] at c41'
          have e43 := y_or1 h0_s_1 c41'
          clear h0_s_1
          refine y_bi (y_X9_isType (by omega) (by omega)) (fun s_4 h_s_4 => ?_)
          have h0_s_4 : (s_4.toInt = 0 ∧ ¬ (0 ≤ p2.toInt ∧ p2.toInt < 16777216 ∧ (p2.toInt % 65536 < v7_2.toInt ∨ 65528 ≤ p2.toInt % 65536))) ∨ (s_4.toInt = 1 ∧ (0 ≤ p2.toInt ∧ p2.toInt < 16777216 ∧ (p2.toInt % 65536 < v7_2.toInt ∨ 65528 ≤ p2.toInt % 65536))) := h_s_4
          refine y_if (fun c44 => ?_) (fun c44 => ?_)
          · skip
            have c44' := c44
            rw [← Int32.toInt_inj] at c44'
            have e45 := y_or0 h0_s_4 c44'
            clear h0_s_4
            refine y_bi (y_X9_bad) (fun s_10 h_s_10 => ?_)
            obtain ⟨h0_s_10, h1_s_10⟩ := h_s_10
            refine y_some ?_
            try dsimp only
            refine y_some ?_
            try dsimp only
            refine ⟨?_, ?_, ?_⟩ <;> (first | with_reducible rfl | with_reducible assumption | omega | (exfalso; omega))
          · skip
            have c44' := c44
            rw [← Int32.toInt_inj] at c44'
            have e46 := y_or1 h0_s_4 c44'
            clear h0_s_4
            refine y_if (fun c47 => ?_) (fun c47 => ?_)
            · skip
              have c47' := c47
              rw [← Int32.toInt_inj] at c47'
              refine y_bi (y_X9_full) (fun s_9 h_s_9 => ?_)
              obtain ⟨h0_s_9, h1_s_9⟩ := h_s_9
              refine y_some ?_
              try dsimp only
              refine y_some ?_
              try dsimp only
              refine ⟨?_, ?_, ?_⟩ <;> (first | with_reducible rfl | with_reducible assumption | omega | (exfalso; omega))
            · skip
              have c47' := c47
              rw [← Int32.toInt_inj] at c47'
              refine y_gd (y_gdI (by omega) (by omega)) ?_
              refine y_gd (y_gdI (by omega) (by omega)) ?_
              refine y_some ?_
              try dsimp only
              try have e48 := @y_addL v4_2 (1 : Int32) (1) rfl (by omega) (by omega)
              try have e49 := @y_cl v4_2 (by omega)
              refine y_some ?_
              try dsimp only
              refine ⟨?_, ?_, ?_⟩ <;> (first | with_reducible rfl | with_reducible assumption | omega | (exfalso; omega))
      · skip
        have e50 : (100 : Int32).toInt = 100 := rfl
        have c39' := c39
        rw [Int32.lt_iff_toInt_lt] at c39'
        refine y_some ?_
        try dsimp only
        refine y_bt ?_
        refine y_bi (y_X9_isClass) (fun s_1 h_s_1 => ?_)
        have h0_s_1 : (s_1.toInt = 0 ∧ ¬ (0 ≤ p1.toInt ∧ p1.toInt < v7_2.toInt)) ∨ (s_1.toInt = 1 ∧ (0 ≤ p1.toInt ∧ p1.toInt < v7_2.toInt)) := h_s_1
        refine y_if (fun c51 => ?_) (fun c51 => ?_)
        · skip
          have c51' := c51
          rw [← Int32.toInt_inj] at c51'
          have e52 := y_or0 h0_s_1 c51'
          clear h0_s_1
          refine y_bi (y_X9_bad) (fun s_3 h_s_3 => ?_)
          obtain ⟨h0_s_3, h1_s_3⟩ := h_s_3
          refine y_some ?_
          try dsimp only
          have e53 : (2 : Int32).toInt = 2 := rfl
          refine y_some ?_
          try dsimp only
          refine ⟨?_, ?_, ?_⟩ <;> (first | with_reducible rfl | with_reducible assumption | omega | (exfalso; omega))
        · skip
          have c51' := c51
          rw [← Int32.toInt_inj] at c51'
          have e54 := y_or1 h0_s_1 c51'
          clear h0_s_1
          refine y_bi (y_X9_isType (by omega) (by omega)) (fun s_4 h_s_4 => ?_)
          have h0_s_4 : (s_4.toInt = 0 ∧ ¬ (0 ≤ p2.toInt ∧ p2.toInt < 16777216 ∧ (p2.toInt % 65536 < v7_2.toInt ∨ 65528 ≤ p2.toInt % 65536))) ∨ (s_4.toInt = 1 ∧ (0 ≤ p2.toInt ∧ p2.toInt < 16777216 ∧ (p2.toInt % 65536 < v7_2.toInt ∨ 65528 ≤ p2.toInt % 65536))) := h_s_4
          refine y_if (fun c55 => ?_) (fun c55 => ?_)
          · skip
            have c55' := c55
            rw [← Int32.toInt_inj] at c55'
            have e56 := y_or0 h0_s_4 c55'
            clear h0_s_4
            refine y_bi (y_X9_bad) (fun s_10 h_s_10 => ?_)
            obtain ⟨h0_s_10, h1_s_10⟩ := h_s_10
            refine y_some ?_
            try dsimp only
            have e57 : (2 : Int32).toInt = 2 := rfl
            refine y_some ?_
            try dsimp only
            refine ⟨?_, ?_, ?_⟩ <;> (first | with_reducible rfl | with_reducible assumption | omega | (exfalso; omega))
          · skip
            have c55' := c55
            rw [← Int32.toInt_inj] at c55'
            have e58 := y_or1 h0_s_4 c55'
            clear h0_s_4
            refine y_if (fun c59 => ?_) (fun c59 => ?_)
            · skip
              have c59' := c59
              rw [← Int32.toInt_inj] at c59'
              refine y_bi (y_X9_full) (fun s_9 h_s_9 => ?_)
              obtain ⟨h0_s_9, h1_s_9⟩ := h_s_9
              refine y_some ?_
              try dsimp only
              have e60 : (2 : Int32).toInt = 2 := rfl
              refine y_some ?_
              try dsimp only
              refine ⟨?_, ?_, ?_⟩ <;> (first | with_reducible rfl | with_reducible assumption | omega | (exfalso; omega))
            · skip
              have c59' := c59
              rw [← Int32.toInt_inj] at c59'
              refine y_gd (y_gdI (by omega) (by omega)) ?_
              refine y_gd (y_gdI (by omega) (by omega)) ?_
              refine y_some ?_
              try dsimp only
              have e61 : (2 : Int32).toInt = 2 := rfl
              try have e62 := @y_addL v4_2 (1 : Int32) (1) rfl (by omega) (by omega)
              try have e63 := @y_cl v4_2 (by omega)
              refine y_some ?_
              try dsimp only
              refine ⟨?_, ?_, ?_⟩ <;> (first | with_reducible rfl | with_reducible assumption | omega | (exfalso; omega))
set_option maxHeartbeats 4000000 in
theorem ex_shape {g4_7 : Nat → Int32} {v7_2 : Int32} {g7_1 : Nat → Int32} {v4_8 : Int32} {g4_3 : Nat → Int32} {g4_4 : Nat → Int32} {g4_5 : Nat → Int32} {p1 : Int32} {p2 : Int32} {p3 : Int32} {v9_0 : Int32} {g9_8 : Nat → Int32} {g9_9 : Nat → Int32} {g9_10 : Nat → Int32} {g9_12 : Nat → Int32} (k0 : 4 ≤ v7_2.toInt) (k1 : v7_2.toInt ≤ 200) (k2 : 0 ≤ v4_8.toInt) (k3 : v4_8.toInt ≤ 100) (hTK : y_TK v4_8.toInt g4_7 g9_10) : y_Ok ((f_X8_shape v7_2 g7_1 v4_8 g4_3 g4_4 g4_5 p1 p2 p3) >>= (fun R => (f_X9_shape v9_0 v7_2 v4_8 g7_1 g9_8 g9_9 g9_10 g9_12 p1 p2 p3) >>= (fun S => some (R.1, R.2.1, R.2.2.1, R.2.2.2.1, R.2.2.2.2.1, R.2.2.2.2.2, S.1, S.2.1, S.2.2.1, S.2.2.2.1, S.2.2.2.2.1, S.2.2.2.2.2.1, S.2.2.2.2.2.2)))) (fun r => (r.2.2.2.2.2.2.2.1.toInt = r.1.toInt) ∧ (¬ r.1.toInt = 0 ∨ r.2.1.toInt = r.2.2.2.2.2.2.1.toInt) ∧ (r.2.2.1.toInt = r.2.2.2.2.2.2.2.2.1.toInt) ∧ (y_TK r.2.2.1.toInt g4_7 r.2.2.2.2.2.2.2.2.2.2.2.1)) := by
  unfold f_X8_shape f_X9_shape
  refine y_bt ?_
  refine y_bi (y_X7_isClass) (fun r_1 h_r_1 => ?_)
  have h0_r_1 : (r_1.toInt = 0 ∧ ¬ (0 ≤ p1.toInt ∧ p1.toInt < v7_2.toInt)) ∨ (r_1.toInt = 1 ∧ (0 ≤ p1.toInt ∧ p1.toInt < v7_2.toInt)) := h_r_1
  refine y_if (fun c1 => ?_) (fun c1 => ?_)
  · skip
    have e2 : (0 : Int32).toInt = 0 := rfl
    have c1' := c1
    rw [← Int32.toInt_inj] at c1'
    have e3 := y_or0 h0_r_1 c1'
    clear h0_r_1
    refine y_some ?_
    try dsimp only
    refine y_bt ?_
    refine y_bi (y_X9_isClass) (fun s_1 h_s_1 => ?_)
    have h0_s_1 : (s_1.toInt = 0 ∧ ¬ (0 ≤ p1.toInt ∧ p1.toInt < v7_2.toInt)) ∨ (s_1.toInt = 1 ∧ (0 ≤ p1.toInt ∧ p1.toInt < v7_2.toInt)) := h_s_1
    refine y_if (fun c4 => ?_) (fun c4 => ?_)
    · skip
      have c4' := c4
      rw [← Int32.toInt_inj] at c4'
      have e5 := y_or0 h0_s_1 c4'
      clear h0_s_1
      refine y_bi (y_X9_bad) (fun s_3 h_s_3 => ?_)
      obtain ⟨h0_s_3, h1_s_3⟩ := h_s_3
      refine y_some ?_
      try dsimp only
      have e6 : (1 : Int32).toInt = 1 := rfl
      refine y_some ?_
      try dsimp only
      refine ⟨?_, ?_, ?_, ?_⟩ <;> (first | with_reducible rfl | with_reducible assumption | omega | (exfalso; omega) | (exact y_TK_shape hTK (by omega) (by omega)))
    · skip
      have c4' := c4
      rw [← Int32.toInt_inj] at c4'
      have e7 := y_or1 h0_s_1 c4'
      clear h0_s_1
      refine y_if (fun c8 => ?_) (fun c8 => ?_)
      · skip
        have c8' : p2.toInt = -1 := (y_eqN rfl).mp c8
        refine y_if (fun c9 => ?_) (fun c9 => ?_)
        · skip
          have c9' := c9
          rw [← Int32.toInt_inj] at c9'
          refine y_if (fun c10 => ?_) (fun c10 => ?_)
          · skip
            have e11 : (100 : Int32).toInt = 100 := rfl
            have c10' := c10
            rw [← Int32.toInt_inj] at c10'
            refine y_bi (y_X9_full) (fun s_11 h_s_11 => ?_)
            obtain ⟨h0_s_11, h1_s_11⟩ := h_s_11
            refine y_some ?_
            try dsimp only
            have e12 : (1 : Int32).toInt = 1 := rfl
            refine y_some ?_
            try dsimp only
            refine ⟨?_, ?_, ?_, ?_⟩ <;> (first | with_reducible rfl | with_reducible assumption | omega | (exfalso; omega) | (exact y_TK_shape hTK (by omega) (by omega)))
          · skip
            have e13 : (100 : Int32).toInt = 100 := rfl
            have c10' := c10
            rw [← Int32.toInt_inj] at c10'
            refine y_gd (y_gdI (by omega) (by omega)) ?_
            refine y_gd (y_gdI (by omega) (by omega)) ?_
            refine y_gd (y_gdI (by omega) (by omega)) ?_
            refine y_gd (y_gdI (by omega) (by omega)) ?_
            refine y_some ?_
            try dsimp only
            have e14 : (1 : Int32).toInt = 1 := rfl
            try have e15 := @y_addL v4_8 (1 : Int32) (1) rfl (by omega) (by omega)
            try have e16 := @y_cl v4_8 (by omega)
            try have e17 := @y_nb p3 (by omega) (by omega)
            refine y_some ?_
            try dsimp only
            refine ⟨?_, ?_, ?_, ?_⟩ <;> (first | with_reducible rfl | with_reducible assumption | omega | (exfalso; omega) | (exact y_TK_shape hTK (by omega) (by omega)))
        · skip
          have c9' := c9
          rw [← Int32.toInt_inj] at c9'
          refine y_if (fun c18 => ?_) (fun c18 => ?_)
          · skip
            have c18' : p2.toInt = -1 := (y_eqN rfl).mp c18
            refine y_gd (y_gdI (by omega) (by omega)) ?_
            refine y_if (fun c19 => ?_) (fun c19 => ?_)
            · skip
              try have e20 := @y_cl p1 (by omega)
              have c19' := c19
              rw [← Int32.toInt_inj] at c19'
              refine y_if (fun c21 => ?_) (fun c21 => ?_)
              · skip
                have e22 : (100 : Int32).toInt = 100 := rfl
                have c21' := c21
                rw [← Int32.toInt_inj] at c21'
                refine y_bi (y_X9_full) (fun s_21 h_s_21 => ?_)
                obtain ⟨h0_s_21, h1_s_21⟩ := h_s_21
                refine y_some ?_
                try dsimp only
                have e23 : (1 : Int32).toInt = 1 := rfl
                refine y_some ?_
                try dsimp only
                refine ⟨?_, ?_, ?_, ?_⟩ <;> (first | with_reducible rfl | with_reducible assumption | omega | (exfalso; omega) | (exact y_TK_shape hTK (by omega) (by omega)))
              · skip
                have e24 : (100 : Int32).toInt = 100 := rfl
                have c21' := c21
                rw [← Int32.toInt_inj] at c21'
                refine y_gd (y_gdI (by omega) (by omega)) ?_
                refine y_gd (y_gdI (by omega) (by omega)) ?_
                refine y_gd (y_gdI (by omega) (by omega)) ?_
                refine y_gd (y_gdI (by omega) (by omega)) ?_
                refine y_some ?_
                try dsimp only
                have e25 : (1 : Int32).toInt = 1 := rfl
                try have e26 := @y_addL v4_8 (1 : Int32) (1) rfl (by omega) (by omega)
                try have e27 := @y_cl v4_8 (by omega)
                try have e28 := @y_nb p3 (by omega) (by omega)
                refine y_some ?_
                try dsimp only
                refine ⟨?_, ?_, ?_, ?_⟩ <;> (first | with_reducible rfl | with_reducible assumption | omega | (exfalso; omega) | (exact y_TK_shape hTK (by omega) (by omega)))
            · skip
              try have e29 := @y_cl p1 (by omega)
              have c19' := c19
              rw [← Int32.toInt_inj] at c19'
              refine y_bi (y_X9_bad) (fun s_22 h_s_22 => ?_)
              obtain ⟨h0_s_22, h1_s_22⟩ := h_s_22
              refine y_some ?_
              try dsimp only
              have e30 : (1 : Int32).toInt = 1 := rfl
              refine y_some ?_
              try dsimp only
              refine ⟨?_, ?_, ?_, ?_⟩ <;> (first | with_reducible rfl | with_reducible assumption | omega | (exfalso; omega) | (exact y_TK_shape hTK (by omega) (by omega)))
          · skip
            have c18' : ¬ p2.toInt = -1 := fun hz => c18 ((y_eqN rfl).mpr hz)
            refine y_bi (y_X9_bad) (fun s_13 h_s_13 => ?_)
            obtain ⟨h0_s_13, h1_s_13⟩ := h_s_13
            refine y_some ?_
            try dsimp only
            have e31 : (1 : Int32).toInt = 1 := rfl
            refine y_some ?_
            try dsimp only
            refine ⟨?_, ?_, ?_, ?_⟩ <;> (first | with_reducible rfl | with_reducible assumption | omega | (exfalso; omega) | (exact y_TK_shape hTK (by omega) (by omega)))
      · skip
        have c8' : ¬ p2.toInt = -1 := fun hz => c8 ((y_eqN rfl).mpr hz)
        refine y_bi (y_X9_isType (by omega) (by omega)) (fun s_23 h_s_23 => ?_)
        have h0_s_23 : (s_23.toInt = 0 ∧ ¬ (0 ≤ p2.toInt ∧ p2.toInt < 16777216 ∧ (p2.toInt % 65536 < v7_2.toInt ∨ 65528 ≤ p2.toInt % 65536))) ∨ (s_23.toInt = 1 ∧ (0 ≤ p2.toInt ∧ p2.toInt < 16777216 ∧ (p2.toInt % 65536 < v7_2.toInt ∨ 65528 ≤ p2.toInt % 65536))) := h_s_23
        refine y_if (fun c32 => ?_) (fun c32 => ?_)
        · skip
          have c32' := c32
          rw [← Int32.toInt_inj] at c32'
          have e33 := y_or0 h0_s_23 c32'
          clear h0_s_23
          refine y_bi (y_X9_bad) (fun s_25 h_s_25 => ?_)
          obtain ⟨h0_s_25, h1_s_25⟩ := h_s_25
          refine y_some ?_
          try dsimp only
          have e34 : (1 : Int32).toInt = 1 := rfl
          refine y_some ?_
          try dsimp only
          refine ⟨?_, ?_, ?_, ?_⟩ <;> (first | with_reducible rfl | with_reducible assumption | omega | (exfalso; omega) | (exact y_TK_shape hTK (by omega) (by omega)))
        · skip
          have c32' := c32
          rw [← Int32.toInt_inj] at c32'
          have e35 := y_or1 h0_s_23 c32'
          clear h0_s_23
          refine y_if (fun c36 => ?_) (fun c36 => ?_)
          · skip
            have c36' := c36
            rw [← Int32.toInt_inj] at c36'
            refine y_if (fun c37 => ?_) (fun c37 => ?_)
            · skip
              have e38 : (100 : Int32).toInt = 100 := rfl
              have c37' := c37
              rw [← Int32.toInt_inj] at c37'
              refine y_bi (y_X9_full) (fun s_32 h_s_32 => ?_)
              obtain ⟨h0_s_32, h1_s_32⟩ := h_s_32
              refine y_some ?_
              try dsimp only
              have e39 : (1 : Int32).toInt = 1 := rfl
              refine y_some ?_
              try dsimp only
              refine ⟨?_, ?_, ?_, ?_⟩ <;> (first | with_reducible rfl | with_reducible assumption | omega | (exfalso; omega) | (exact y_TK_shape hTK (by omega) (by omega)))
            · skip
              have e40 : (100 : Int32).toInt = 100 := rfl
              have c37' := c37
              rw [← Int32.toInt_inj] at c37'
              refine y_gd (y_gdI (by omega) (by omega)) ?_
              refine y_gd (y_gdI (by omega) (by omega)) ?_
              refine y_gd (y_gdI (by omega) (by omega)) ?_
              refine y_gd (y_gdI (by omega) (by omega)) ?_
              refine y_some ?_
              try dsimp only
              have e41 : (1 : Int32).toInt = 1 := rfl
              try have e42 := @y_addL v4_8 (1 : Int32) (1) rfl (by omega) (by omega)
              try have e43 := @y_cl v4_8 (by omega)
              try have e44 := @y_nb p3 (by omega) (by omega)
              refine y_some ?_
              try dsimp only
              refine ⟨?_, ?_, ?_, ?_⟩ <;> (first | with_reducible rfl | with_reducible assumption | omega | (exfalso; omega) | (exact y_TK_shape hTK (by omega) (by omega)))
          · skip
            have c36' := c36
            rw [← Int32.toInt_inj] at c36'
            refine y_if (fun c45 => ?_) (fun c45 => ?_)
            · skip
              have c45' : p2.toInt = -1 := (y_eqN rfl).mp c45
              refine y_gd (y_gdI (by omega) (by omega)) ?_
              refine y_if (fun c46 => ?_) (fun c46 => ?_)
              · skip
                try have e47 := @y_cl p1 (by omega)
                have c46' := c46
                rw [← Int32.toInt_inj] at c46'
                refine y_if (fun c48 => ?_) (fun c48 => ?_)
                · skip
                  have e49 : (100 : Int32).toInt = 100 := rfl
                  have c48' := c48
                  rw [← Int32.toInt_inj] at c48'
                  refine y_bi (y_X9_full) (fun s_42 h_s_42 => ?_)
                  obtain ⟨h0_s_42, h1_s_42⟩ := h_s_42
                  refine y_some ?_
                  try dsimp only
                  have e50 : (1 : Int32).toInt = 1 := rfl
                  refine y_some ?_
                  try dsimp only
                  refine ⟨?_, ?_, ?_, ?_⟩ <;> (first | with_reducible rfl | with_reducible assumption | omega | (exfalso; omega) | (exact y_TK_shape hTK (by omega) (by omega)))
                · skip
                  have e51 : (100 : Int32).toInt = 100 := rfl
                  have c48' := c48
                  rw [← Int32.toInt_inj] at c48'
                  refine y_gd (y_gdI (by omega) (by omega)) ?_
                  refine y_gd (y_gdI (by omega) (by omega)) ?_
                  refine y_gd (y_gdI (by omega) (by omega)) ?_
                  refine y_gd (y_gdI (by omega) (by omega)) ?_
                  refine y_some ?_
                  try dsimp only
                  have e52 : (1 : Int32).toInt = 1 := rfl
                  try have e53 := @y_addL v4_8 (1 : Int32) (1) rfl (by omega) (by omega)
                  try have e54 := @y_cl v4_8 (by omega)
                  try have e55 := @y_nb p3 (by omega) (by omega)
                  refine y_some ?_
                  try dsimp only
                  refine ⟨?_, ?_, ?_, ?_⟩ <;> (first | with_reducible rfl | with_reducible assumption | omega | (exfalso; omega) | (exact y_TK_shape hTK (by omega) (by omega)))
              · skip
                try have e56 := @y_cl p1 (by omega)
                have c46' := c46
                rw [← Int32.toInt_inj] at c46'
                refine y_bi (y_X9_bad) (fun s_43 h_s_43 => ?_)
                obtain ⟨h0_s_43, h1_s_43⟩ := h_s_43
                refine y_some ?_
                try dsimp only
                have e57 : (1 : Int32).toInt = 1 := rfl
                refine y_some ?_
                try dsimp only
                refine ⟨?_, ?_, ?_, ?_⟩ <;> (first | with_reducible rfl | with_reducible assumption | omega | (exfalso; omega) | (exact y_TK_shape hTK (by omega) (by omega)))
            · skip
              have c45' : ¬ p2.toInt = -1 := fun hz => c45 ((y_eqN rfl).mpr hz)
              refine y_bi (y_X9_bad) (fun s_34 h_s_34 => ?_)
              obtain ⟨h0_s_34, h1_s_34⟩ := h_s_34
              refine y_some ?_
              try dsimp only
              have e58 : (1 : Int32).toInt = 1 := rfl
              refine y_some ?_
              try dsimp only
              refine ⟨?_, ?_, ?_, ?_⟩ <;> (first | with_reducible rfl | with_reducible assumption | omega | (exfalso; omega) | (exact y_TK_shape hTK (by omega) (by omega)))
  · skip
    have e59 : (0 : Int32).toInt = 0 := rfl
    have c1' := c1
    rw [← Int32.toInt_inj] at c1'
    have e60 := y_or1 h0_r_1 c1'
    clear h0_r_1
    refine y_bi (y_X7_isResult (by omega) (by omega)) (fun r_3 h_r_3 => ?_)
    have h0_r_3 : (r_3.toInt = 0 ∧ ¬ (p2.toInt = -1 ∨ (0 ≤ p2.toInt ∧ p2.toInt < 16777216 ∧ (p2.toInt % 65536 < v7_2.toInt ∨ 65528 ≤ p2.toInt % 65536)))) ∨ (r_3.toInt = 1 ∧ (p2.toInt = -1 ∨ (0 ≤ p2.toInt ∧ p2.toInt < 16777216 ∧ (p2.toInt % 65536 < v7_2.toInt ∨ 65528 ≤ p2.toInt % 65536)))) := h_r_3
    refine y_if (fun c61 => ?_) (fun c61 => ?_)
    · skip
      have c61' := c61
      rw [← Int32.toInt_inj] at c61'
      have e62 := y_or0 h0_r_3 c61'
      clear h0_r_3
      refine y_some ?_
      try dsimp only
      refine y_bt ?_
      refine y_bi (y_X9_isClass) (fun s_1 h_s_1 => ?_)
      have h0_s_1 : (s_1.toInt = 0 ∧ ¬ (0 ≤ p1.toInt ∧ p1.toInt < v7_2.toInt)) ∨ (s_1.toInt = 1 ∧ (0 ≤ p1.toInt ∧ p1.toInt < v7_2.toInt)) := h_s_1
      refine y_if (fun c63 => ?_) (fun c63 => ?_)
      · skip
        have c63' := c63
        rw [← Int32.toInt_inj] at c63'
        have e64 := y_or0 h0_s_1 c63'
        clear h0_s_1
        refine y_bi (y_X9_bad) (fun s_3 h_s_3 => ?_)
        obtain ⟨h0_s_3, h1_s_3⟩ := h_s_3
        refine y_some ?_
        try dsimp only
        have e65 : (1 : Int32).toInt = 1 := rfl
        refine y_some ?_
        try dsimp only
        refine ⟨?_, ?_, ?_, ?_⟩ <;> (first | with_reducible rfl | with_reducible assumption | omega | (exfalso; omega) | (exact y_TK_shape hTK (by omega) (by omega)))
      · skip
        have c63' := c63
        rw [← Int32.toInt_inj] at c63'
        have e66 := y_or1 h0_s_1 c63'
        clear h0_s_1
        refine y_if (fun c67 => ?_) (fun c67 => ?_)
        · skip
          have c67' : p2.toInt = -1 := (y_eqN rfl).mp c67
          refine y_if (fun c68 => ?_) (fun c68 => ?_)
          · skip
            have c68' := c68
            rw [← Int32.toInt_inj] at c68'
            refine y_if (fun c69 => ?_) (fun c69 => ?_)
            · skip
              have e70 : (100 : Int32).toInt = 100 := rfl
              have c69' := c69
              rw [← Int32.toInt_inj] at c69'
              refine y_bi (y_X9_full) (fun s_11 h_s_11 => ?_)
              obtain ⟨h0_s_11, h1_s_11⟩ := h_s_11
              refine y_some ?_
              try dsimp only
              have e71 : (1 : Int32).toInt = 1 := rfl
              refine y_some ?_
              try dsimp only
              refine ⟨?_, ?_, ?_, ?_⟩ <;> (first | with_reducible rfl | with_reducible assumption | omega | (exfalso; omega) | (exact y_TK_shape hTK (by omega) (by omega)))
            · skip
              have e72 : (100 : Int32).toInt = 100 := rfl
              have c69' := c69
              rw [← Int32.toInt_inj] at c69'
              refine y_gd (y_gdI (by omega) (by omega)) ?_
              refine y_gd (y_gdI (by omega) (by omega)) ?_
              refine y_gd (y_gdI (by omega) (by omega)) ?_
              refine y_gd (y_gdI (by omega) (by omega)) ?_
              refine y_some ?_
              try dsimp only
              have e73 : (1 : Int32).toInt = 1 := rfl
              try have e74 := @y_addL v4_8 (1 : Int32) (1) rfl (by omega) (by omega)
              try have e75 := @y_cl v4_8 (by omega)
              try have e76 := @y_nb p3 (by omega) (by omega)
              refine y_some ?_
              try dsimp only
              refine ⟨?_, ?_, ?_, ?_⟩ <;> (first | with_reducible rfl | with_reducible assumption | omega | (exfalso; omega) | (exact y_TK_shape hTK (by omega) (by omega)))
          · skip
            have c68' := c68
            rw [← Int32.toInt_inj] at c68'
            refine y_if (fun c77 => ?_) (fun c77 => ?_)
            · skip
              have c77' : p2.toInt = -1 := (y_eqN rfl).mp c77
              refine y_gd (y_gdI (by omega) (by omega)) ?_
              refine y_if (fun c78 => ?_) (fun c78 => ?_)
              · skip
                try have e79 := @y_cl p1 (by omega)
                have c78' := c78
                rw [← Int32.toInt_inj] at c78'
                refine y_if (fun c80 => ?_) (fun c80 => ?_)
                · skip
                  have e81 : (100 : Int32).toInt = 100 := rfl
                  have c80' := c80
                  rw [← Int32.toInt_inj] at c80'
                  refine y_bi (y_X9_full) (fun s_21 h_s_21 => ?_)
                  obtain ⟨h0_s_21, h1_s_21⟩ := h_s_21
                  refine y_some ?_
                  try dsimp only
                  have e82 : (1 : Int32).toInt = 1 := rfl
                  refine y_some ?_
                  try dsimp only
                  refine ⟨?_, ?_, ?_, ?_⟩ <;> (first | with_reducible rfl | with_reducible assumption | omega | (exfalso; omega) | (exact y_TK_shape hTK (by omega) (by omega)))
                · skip
                  have e83 : (100 : Int32).toInt = 100 := rfl
                  have c80' := c80
                  rw [← Int32.toInt_inj] at c80'
                  refine y_gd (y_gdI (by omega) (by omega)) ?_
                  refine y_gd (y_gdI (by omega) (by omega)) ?_
                  refine y_gd (y_gdI (by omega) (by omega)) ?_
                  refine y_gd (y_gdI (by omega) (by omega)) ?_
                  refine y_some ?_
                  try dsimp only
                  have e84 : (1 : Int32).toInt = 1 := rfl
                  try have e85 := @y_addL v4_8 (1 : Int32) (1) rfl (by omega) (by omega)
                  try have e86 := @y_cl v4_8 (by omega)
                  try have e87 := @y_nb p3 (by omega) (by omega)
                  refine y_some ?_
                  try dsimp only
                  refine ⟨?_, ?_, ?_, ?_⟩ <;> (first | with_reducible rfl | with_reducible assumption | omega | (exfalso; omega) | (exact y_TK_shape hTK (by omega) (by omega)))
              · skip
                try have e88 := @y_cl p1 (by omega)
                have c78' := c78
                rw [← Int32.toInt_inj] at c78'
                refine y_bi (y_X9_bad) (fun s_22 h_s_22 => ?_)
                obtain ⟨h0_s_22, h1_s_22⟩ := h_s_22
                refine y_some ?_
                try dsimp only
                have e89 : (1 : Int32).toInt = 1 := rfl
                refine y_some ?_
                try dsimp only
                refine ⟨?_, ?_, ?_, ?_⟩ <;> (first | with_reducible rfl | with_reducible assumption | omega | (exfalso; omega) | (exact y_TK_shape hTK (by omega) (by omega)))
            · skip
              have c77' : ¬ p2.toInt = -1 := fun hz => c77 ((y_eqN rfl).mpr hz)
              refine y_bi (y_X9_bad) (fun s_13 h_s_13 => ?_)
              obtain ⟨h0_s_13, h1_s_13⟩ := h_s_13
              refine y_some ?_
              try dsimp only
              have e90 : (1 : Int32).toInt = 1 := rfl
              refine y_some ?_
              try dsimp only
              refine ⟨?_, ?_, ?_, ?_⟩ <;> (first | with_reducible rfl | with_reducible assumption | omega | (exfalso; omega) | (exact y_TK_shape hTK (by omega) (by omega)))
        · skip
          have c67' : ¬ p2.toInt = -1 := fun hz => c67 ((y_eqN rfl).mpr hz)
          refine y_bi (y_X9_isType (by omega) (by omega)) (fun s_23 h_s_23 => ?_)
          have h0_s_23 : (s_23.toInt = 0 ∧ ¬ (0 ≤ p2.toInt ∧ p2.toInt < 16777216 ∧ (p2.toInt % 65536 < v7_2.toInt ∨ 65528 ≤ p2.toInt % 65536))) ∨ (s_23.toInt = 1 ∧ (0 ≤ p2.toInt ∧ p2.toInt < 16777216 ∧ (p2.toInt % 65536 < v7_2.toInt ∨ 65528 ≤ p2.toInt % 65536))) := h_s_23
          refine y_if (fun c91 => ?_) (fun c91 => ?_)
          · skip
            have c91' := c91
            rw [← Int32.toInt_inj] at c91'
            have e92 := y_or0 h0_s_23 c91'
            clear h0_s_23
            refine y_bi (y_X9_bad) (fun s_25 h_s_25 => ?_)
            obtain ⟨h0_s_25, h1_s_25⟩ := h_s_25
            refine y_some ?_
            try dsimp only
            have e93 : (1 : Int32).toInt = 1 := rfl
            refine y_some ?_
            try dsimp only
            refine ⟨?_, ?_, ?_, ?_⟩ <;> (first | with_reducible rfl | with_reducible assumption | omega | (exfalso; omega) | (exact y_TK_shape hTK (by omega) (by omega)))
          · skip
            have c91' := c91
            rw [← Int32.toInt_inj] at c91'
            have e94 := y_or1 h0_s_23 c91'
            clear h0_s_23
            refine y_if (fun c95 => ?_) (fun c95 => ?_)
            · skip
              have c95' := c95
              rw [← Int32.toInt_inj] at c95'
              refine y_if (fun c96 => ?_) (fun c96 => ?_)
              · skip
                have e97 : (100 : Int32).toInt = 100 := rfl
                have c96' := c96
                rw [← Int32.toInt_inj] at c96'
                refine y_bi (y_X9_full) (fun s_32 h_s_32 => ?_)
                obtain ⟨h0_s_32, h1_s_32⟩ := h_s_32
                refine y_some ?_
                try dsimp only
                have e98 : (1 : Int32).toInt = 1 := rfl
                refine y_some ?_
                try dsimp only
                refine ⟨?_, ?_, ?_, ?_⟩ <;> (first | with_reducible rfl | with_reducible assumption | omega | (exfalso; omega) | (exact y_TK_shape hTK (by omega) (by omega)))
              · skip
                have e99 : (100 : Int32).toInt = 100 := rfl
                have c96' := c96
                rw [← Int32.toInt_inj] at c96'
                refine y_gd (y_gdI (by omega) (by omega)) ?_
                refine y_gd (y_gdI (by omega) (by omega)) ?_
                refine y_gd (y_gdI (by omega) (by omega)) ?_
                refine y_gd (y_gdI (by omega) (by omega)) ?_
                refine y_some ?_
                try dsimp only
                have e100 : (1 : Int32).toInt = 1 := rfl
                try have e101 := @y_addL v4_8 (1 : Int32) (1) rfl (by omega) (by omega)
                try have e102 := @y_cl v4_8 (by omega)
                try have e103 := @y_nb p3 (by omega) (by omega)
                refine y_some ?_
                try dsimp only
                refine ⟨?_, ?_, ?_, ?_⟩ <;> (first | with_reducible rfl | with_reducible assumption | omega | (exfalso; omega) | (exact y_TK_shape hTK (by omega) (by omega)))
            · skip
              have c95' := c95
              rw [← Int32.toInt_inj] at c95'
              refine y_if (fun c104 => ?_) (fun c104 => ?_)
              · skip
                have c104' : p2.toInt = -1 := (y_eqN rfl).mp c104
                refine y_gd (y_gdI (by omega) (by omega)) ?_
                refine y_if (fun c105 => ?_) (fun c105 => ?_)
                · skip
                  try have e106 := @y_cl p1 (by omega)
                  have c105' := c105
                  rw [← Int32.toInt_inj] at c105'
                  refine y_if (fun c107 => ?_) (fun c107 => ?_)
                  · skip
                    have e108 : (100 : Int32).toInt = 100 := rfl
                    have c107' := c107
                    rw [← Int32.toInt_inj] at c107'
                    refine y_bi (y_X9_full) (fun s_42 h_s_42 => ?_)
                    obtain ⟨h0_s_42, h1_s_42⟩ := h_s_42
                    refine y_some ?_
                    try dsimp only
                    have e109 : (1 : Int32).toInt = 1 := rfl
                    refine y_some ?_
                    try dsimp only
                    refine ⟨?_, ?_, ?_, ?_⟩ <;> (first | with_reducible rfl | with_reducible assumption | omega | (exfalso; omega) | (exact y_TK_shape hTK (by omega) (by omega)))
                  · skip
                    have e110 : (100 : Int32).toInt = 100 := rfl
                    have c107' := c107
                    rw [← Int32.toInt_inj] at c107'
                    refine y_gd (y_gdI (by omega) (by omega)) ?_
                    refine y_gd (y_gdI (by omega) (by omega)) ?_
                    refine y_gd (y_gdI (by omega) (by omega)) ?_
                    refine y_gd (y_gdI (by omega) (by omega)) ?_
                    refine y_some ?_
                    try dsimp only
                    have e111 : (1 : Int32).toInt = 1 := rfl
                    try have e112 := @y_addL v4_8 (1 : Int32) (1) rfl (by omega) (by omega)
                    try have e113 := @y_cl v4_8 (by omega)
                    try have e114 := @y_nb p3 (by omega) (by omega)
                    refine y_some ?_
                    try dsimp only
                    refine ⟨?_, ?_, ?_, ?_⟩ <;> (first | with_reducible rfl | with_reducible assumption | omega | (exfalso; omega) | (exact y_TK_shape hTK (by omega) (by omega)))
                · skip
                  try have e115 := @y_cl p1 (by omega)
                  have c105' := c105
                  rw [← Int32.toInt_inj] at c105'
                  refine y_bi (y_X9_bad) (fun s_43 h_s_43 => ?_)
                  obtain ⟨h0_s_43, h1_s_43⟩ := h_s_43
                  refine y_some ?_
                  try dsimp only
                  have e116 : (1 : Int32).toInt = 1 := rfl
                  refine y_some ?_
                  try dsimp only
                  refine ⟨?_, ?_, ?_, ?_⟩ <;> (first | with_reducible rfl | with_reducible assumption | omega | (exfalso; omega) | (exact y_TK_shape hTK (by omega) (by omega)))
              · skip
                have c104' : ¬ p2.toInt = -1 := fun hz => c104 ((y_eqN rfl).mpr hz)
                refine y_bi (y_X9_bad) (fun s_34 h_s_34 => ?_)
                obtain ⟨h0_s_34, h1_s_34⟩ := h_s_34
                refine y_some ?_
                try dsimp only
                have e117 : (1 : Int32).toInt = 1 := rfl
                refine y_some ?_
                try dsimp only
                refine ⟨?_, ?_, ?_, ?_⟩ <;> (first | with_reducible rfl | with_reducible assumption | omega | (exfalso; omega) | (exact y_TK_shape hTK (by omega) (by omega)))
    · skip
      have c61' := c61
      rw [← Int32.toInt_inj] at c61'
      have e118 := y_or1 h0_r_3 c61'
      clear h0_r_3
      refine y_if (fun c119 => ?_) (fun c119 => ?_)
      · skip
        have c119' := c119
        rw [← Int32.toInt_inj] at c119'
        refine y_if (fun c120 => ?_) (fun c120 => ?_)
        · skip
          have e121 : (100 : Int32).toInt = 100 := rfl
          have c120' := c120
          rw [Int32.lt_iff_toInt_lt] at c120'
          refine y_bi (ye_X4_enterShape (by omega) (by omega)) (fun r_7 h_r_7 => ?_)
          obtain ⟨h0_r_7, h1_r_7⟩ := h_r_7
          refine y_some ?_
          try dsimp only
          refine y_bt ?_
          refine y_bi (y_X9_isClass) (fun s_1 h_s_1 => ?_)
          have h0_s_1 : (s_1.toInt = 0 ∧ ¬ (0 ≤ p1.toInt ∧ p1.toInt < v7_2.toInt)) ∨ (s_1.toInt = 1 ∧ (0 ≤ p1.toInt ∧ p1.toInt < v7_2.toInt)) := h_s_1
          refine y_if (fun c122 => ?_) (fun c122 => ?_)
          · skip
            have c122' := c122
            rw [← Int32.toInt_inj] at c122'
            have e123 := y_or0 h0_s_1 c122'
            clear h0_s_1
            refine y_bi (y_X9_bad) (fun s_3 h_s_3 => ?_)
            obtain ⟨h0_s_3, h1_s_3⟩ := h_s_3
            refine y_some ?_
            try dsimp only
            refine y_some ?_
            try dsimp only
            refine ⟨?_, ?_, ?_, ?_⟩ <;> (first | with_reducible rfl | with_reducible assumption | omega | (exfalso; omega) | (exact y_TK_shape hTK (by omega) (by omega)))
          · skip
            have c122' := c122
            rw [← Int32.toInt_inj] at c122'
            have e124 := y_or1 h0_s_1 c122'
            clear h0_s_1
            refine y_if (fun c125 => ?_) (fun c125 => ?_)
            · skip
              have c125' : p2.toInt = -1 := (y_eqN rfl).mp c125
              refine y_if (fun c126 => ?_) (fun c126 => ?_)
              · skip
                have c126' := c126
                rw [← Int32.toInt_inj] at c126'
                refine y_if (fun c127 => ?_) (fun c127 => ?_)
                · skip
                  have c127' := c127
                  rw [← Int32.toInt_inj] at c127'
                  refine y_bi (y_X9_full) (fun s_11 h_s_11 => ?_)
                  obtain ⟨h0_s_11, h1_s_11⟩ := h_s_11
                  refine y_some ?_
                  try dsimp only
                  refine y_some ?_
                  try dsimp only
                  refine ⟨?_, ?_, ?_, ?_⟩ <;> (first | with_reducible rfl | with_reducible assumption | omega | (exfalso; omega) | (exact y_TK_shape hTK (by omega) (by omega)))
                · skip
                  have c127' := c127
                  rw [← Int32.toInt_inj] at c127'
                  refine y_gd (y_gdI (by omega) (by omega)) ?_
                  refine y_gd (y_gdI (by omega) (by omega)) ?_
                  refine y_gd (y_gdI (by omega) (by omega)) ?_
                  refine y_gd (y_gdI (by omega) (by omega)) ?_
                  refine y_some ?_
                  try dsimp only
                  try have e128 := @y_addL v4_8 (1 : Int32) (1) rfl (by omega) (by omega)
                  try have e129 := @y_cl v4_8 (by omega)
                  try have e130 := @y_nb p3 (by omega) (by omega)
                  refine y_some ?_
                  try dsimp only
                  refine ⟨?_, ?_, ?_, ?_⟩ <;> (first | with_reducible rfl | with_reducible assumption | omega | (exfalso; omega) | (exact y_TK_shape hTK (by omega) (by omega)))
              · skip
                have c126' := c126
                rw [← Int32.toInt_inj] at c126'
                refine y_if (fun c131 => ?_) (fun c131 => ?_)
                · skip
                  have c131' : p2.toInt = -1 := (y_eqN rfl).mp c131
                  refine y_gd (y_gdI (by omega) (by omega)) ?_
                  refine y_if (fun c132 => ?_) (fun c132 => ?_)
                  · skip
                    try have e133 := @y_cl p1 (by omega)
                    have c132' := c132
                    rw [← Int32.toInt_inj] at c132'
                    refine y_if (fun c134 => ?_) (fun c134 => ?_)
                    · skip
                      have c134' := c134
                      rw [← Int32.toInt_inj] at c134'
                      refine y_bi (y_X9_full) (fun s_21 h_s_21 => ?_)
                      obtain ⟨h0_s_21, h1_s_21⟩ := h_s_21
                      refine y_some ?_
                      try dsimp only
                      refine y_some ?_
                      try dsimp only
                      refine ⟨?_, ?_, ?_, ?_⟩ <;> (first | with_reducible rfl | with_reducible assumption | omega | (exfalso; omega) | (exact y_TK_shape hTK (by omega) (by omega)))
                    · skip
                      have c134' := c134
                      rw [← Int32.toInt_inj] at c134'
                      refine y_gd (y_gdI (by omega) (by omega)) ?_
                      refine y_gd (y_gdI (by omega) (by omega)) ?_
                      refine y_gd (y_gdI (by omega) (by omega)) ?_
                      refine y_gd (y_gdI (by omega) (by omega)) ?_
                      refine y_some ?_
                      try dsimp only
                      try have e135 := @y_addL v4_8 (1 : Int32) (1) rfl (by omega) (by omega)
                      try have e136 := @y_cl v4_8 (by omega)
                      try have e137 := @y_nb p3 (by omega) (by omega)
                      refine y_some ?_
                      try dsimp only
                      refine ⟨?_, ?_, ?_, ?_⟩ <;> (first | with_reducible rfl | with_reducible assumption | omega | (exfalso; omega) | (exact y_TK_shape hTK (by omega) (by omega)))
                  · skip
                    try have e138 := @y_cl p1 (by omega)
                    have c132' := c132
                    rw [← Int32.toInt_inj] at c132'
                    refine y_bi (y_X9_bad) (fun s_22 h_s_22 => ?_)
                    obtain ⟨h0_s_22, h1_s_22⟩ := h_s_22
                    refine y_some ?_
                    try dsimp only
                    refine y_some ?_
                    try dsimp only
                    refine ⟨?_, ?_, ?_, ?_⟩ <;> (first | with_reducible rfl | with_reducible assumption | omega | (exfalso; omega) | (exact y_TK_shape hTK (by omega) (by omega)))
                · skip
                  have c131' : ¬ p2.toInt = -1 := fun hz => c131 ((y_eqN rfl).mpr hz)
                  refine y_bi (y_X9_bad) (fun s_13 h_s_13 => ?_)
                  obtain ⟨h0_s_13, h1_s_13⟩ := h_s_13
                  refine y_some ?_
                  try dsimp only
                  refine y_some ?_
                  try dsimp only
                  refine ⟨?_, ?_, ?_, ?_⟩ <;> (first | with_reducible rfl | with_reducible assumption | omega | (exfalso; omega) | (exact y_TK_shape hTK (by omega) (by omega)))
            · skip
              have c125' : ¬ p2.toInt = -1 := fun hz => c125 ((y_eqN rfl).mpr hz)
              refine y_bi (y_X9_isType (by omega) (by omega)) (fun s_23 h_s_23 => ?_)
              have h0_s_23 : (s_23.toInt = 0 ∧ ¬ (0 ≤ p2.toInt ∧ p2.toInt < 16777216 ∧ (p2.toInt % 65536 < v7_2.toInt ∨ 65528 ≤ p2.toInt % 65536))) ∨ (s_23.toInt = 1 ∧ (0 ≤ p2.toInt ∧ p2.toInt < 16777216 ∧ (p2.toInt % 65536 < v7_2.toInt ∨ 65528 ≤ p2.toInt % 65536))) := h_s_23
              refine y_if (fun c139 => ?_) (fun c139 => ?_)
              · skip
                have c139' := c139
                rw [← Int32.toInt_inj] at c139'
                have e140 := y_or0 h0_s_23 c139'
                clear h0_s_23
                refine y_bi (y_X9_bad) (fun s_25 h_s_25 => ?_)
                obtain ⟨h0_s_25, h1_s_25⟩ := h_s_25
                refine y_some ?_
                try dsimp only
                refine y_some ?_
                try dsimp only
                refine ⟨?_, ?_, ?_, ?_⟩ <;> (first | with_reducible rfl | with_reducible assumption | omega | (exfalso; omega) | (exact y_TK_shape hTK (by omega) (by omega)))
              · skip
                have c139' := c139
                rw [← Int32.toInt_inj] at c139'
                have e141 := y_or1 h0_s_23 c139'
                clear h0_s_23
                refine y_if (fun c142 => ?_) (fun c142 => ?_)
                · skip
                  have c142' := c142
                  rw [← Int32.toInt_inj] at c142'
                  refine y_if (fun c143 => ?_) (fun c143 => ?_)
                  · skip
                    have c143' := c143
                    rw [← Int32.toInt_inj] at c143'
                    refine y_bi (y_X9_full) (fun s_32 h_s_32 => ?_)
                    obtain ⟨h0_s_32, h1_s_32⟩ := h_s_32
                    refine y_some ?_
                    try dsimp only
                    refine y_some ?_
                    try dsimp only
                    refine ⟨?_, ?_, ?_, ?_⟩ <;> (first | with_reducible rfl | with_reducible assumption | omega | (exfalso; omega) | (exact y_TK_shape hTK (by omega) (by omega)))
                  · skip
                    have c143' := c143
                    rw [← Int32.toInt_inj] at c143'
                    refine y_gd (y_gdI (by omega) (by omega)) ?_
                    refine y_gd (y_gdI (by omega) (by omega)) ?_
                    refine y_gd (y_gdI (by omega) (by omega)) ?_
                    refine y_gd (y_gdI (by omega) (by omega)) ?_
                    refine y_some ?_
                    try dsimp only
                    try have e144 := @y_addL v4_8 (1 : Int32) (1) rfl (by omega) (by omega)
                    try have e145 := @y_cl v4_8 (by omega)
                    try have e146 := @y_nb p3 (by omega) (by omega)
                    refine y_some ?_
                    try dsimp only
                    refine ⟨?_, ?_, ?_, ?_⟩ <;> (first | with_reducible rfl | with_reducible assumption | omega | (exfalso; omega) | (exact y_TK_shape hTK (by omega) (by omega)))
                · skip
                  have c142' := c142
                  rw [← Int32.toInt_inj] at c142'
                  refine y_if (fun c147 => ?_) (fun c147 => ?_)
                  · skip
                    have c147' : p2.toInt = -1 := (y_eqN rfl).mp c147
                    refine y_gd (y_gdI (by omega) (by omega)) ?_
                    refine y_if (fun c148 => ?_) (fun c148 => ?_)
                    · skip
                      try have e149 := @y_cl p1 (by omega)
                      have c148' := c148
                      rw [← Int32.toInt_inj] at c148'
                      refine y_if (fun c150 => ?_) (fun c150 => ?_)
                      · skip
                        have c150' := c150
                        rw [← Int32.toInt_inj] at c150'
                        refine y_bi (y_X9_full) (fun s_42 h_s_42 => ?_)
                        obtain ⟨h0_s_42, h1_s_42⟩ := h_s_42
                        refine y_some ?_
                        try dsimp only
                        refine y_some ?_
                        try dsimp only
                        refine ⟨?_, ?_, ?_, ?_⟩ <;> (first | with_reducible rfl | with_reducible assumption | omega | (exfalso; omega) | (exact y_TK_shape hTK (by omega) (by omega)))
                      · skip
                        have c150' := c150
                        rw [← Int32.toInt_inj] at c150'
                        refine y_gd (y_gdI (by omega) (by omega)) ?_
                        refine y_gd (y_gdI (by omega) (by omega)) ?_
                        refine y_gd (y_gdI (by omega) (by omega)) ?_
                        refine y_gd (y_gdI (by omega) (by omega)) ?_
                        refine y_some ?_
                        try dsimp only
                        try have e151 := @y_addL v4_8 (1 : Int32) (1) rfl (by omega) (by omega)
                        try have e152 := @y_cl v4_8 (by omega)
                        try have e153 := @y_nb p3 (by omega) (by omega)
                        refine y_some ?_
                        try dsimp only
                        refine ⟨?_, ?_, ?_, ?_⟩ <;> (first | with_reducible rfl | with_reducible assumption | omega | (exfalso; omega) | (exact y_TK_shape hTK (by omega) (by omega)))
                    · skip
                      try have e154 := @y_cl p1 (by omega)
                      have c148' := c148
                      rw [← Int32.toInt_inj] at c148'
                      refine y_bi (y_X9_bad) (fun s_43 h_s_43 => ?_)
                      obtain ⟨h0_s_43, h1_s_43⟩ := h_s_43
                      refine y_some ?_
                      try dsimp only
                      refine y_some ?_
                      try dsimp only
                      refine ⟨?_, ?_, ?_, ?_⟩ <;> (first | with_reducible rfl | with_reducible assumption | omega | (exfalso; omega) | (exact y_TK_shape hTK (by omega) (by omega)))
                  · skip
                    have c147' : ¬ p2.toInt = -1 := fun hz => c147 ((y_eqN rfl).mpr hz)
                    refine y_bi (y_X9_bad) (fun s_34 h_s_34 => ?_)
                    obtain ⟨h0_s_34, h1_s_34⟩ := h_s_34
                    refine y_some ?_
                    try dsimp only
                    refine y_some ?_
                    try dsimp only
                    refine ⟨?_, ?_, ?_, ?_⟩ <;> (first | with_reducible rfl | with_reducible assumption | omega | (exfalso; omega) | (exact y_TK_shape hTK (by omega) (by omega)))
        · skip
          have e155 : (100 : Int32).toInt = 100 := rfl
          have c120' := c120
          rw [Int32.lt_iff_toInt_lt] at c120'
          refine y_some ?_
          try dsimp only
          refine y_bt ?_
          refine y_bi (y_X9_isClass) (fun s_1 h_s_1 => ?_)
          have h0_s_1 : (s_1.toInt = 0 ∧ ¬ (0 ≤ p1.toInt ∧ p1.toInt < v7_2.toInt)) ∨ (s_1.toInt = 1 ∧ (0 ≤ p1.toInt ∧ p1.toInt < v7_2.toInt)) := h_s_1
          refine y_if (fun c156 => ?_) (fun c156 => ?_)
          · skip
            have c156' := c156
            rw [← Int32.toInt_inj] at c156'
            have e157 := y_or0 h0_s_1 c156'
            clear h0_s_1
            refine y_bi (y_X9_bad) (fun s_3 h_s_3 => ?_)
            obtain ⟨h0_s_3, h1_s_3⟩ := h_s_3
            refine y_some ?_
            try dsimp only
            have e158 : (2 : Int32).toInt = 2 := rfl
            refine y_some ?_
            try dsimp only
            refine ⟨?_, ?_, ?_, ?_⟩ <;> (first | with_reducible rfl | with_reducible assumption | omega | (exfalso; omega) | (exact y_TK_shape hTK (by omega) (by omega)))
          · skip
            have c156' := c156
            rw [← Int32.toInt_inj] at c156'
            have e159 := y_or1 h0_s_1 c156'
            clear h0_s_1
            refine y_if (fun c160 => ?_) (fun c160 => ?_)
            · skip
              have c160' : p2.toInt = -1 := (y_eqN rfl).mp c160
              refine y_if (fun c161 => ?_) (fun c161 => ?_)
              · skip
                have c161' := c161
                rw [← Int32.toInt_inj] at c161'
                refine y_if (fun c162 => ?_) (fun c162 => ?_)
                · skip
                  have c162' := c162
                  rw [← Int32.toInt_inj] at c162'
                  refine y_bi (y_X9_full) (fun s_11 h_s_11 => ?_)
                  obtain ⟨h0_s_11, h1_s_11⟩ := h_s_11
                  refine y_some ?_
                  try dsimp only
                  have e163 : (2 : Int32).toInt = 2 := rfl
                  refine y_some ?_
                  try dsimp only
                  refine ⟨?_, ?_, ?_, ?_⟩ <;> (first | with_reducible rfl | with_reducible assumption | omega | (exfalso; omega) | (exact y_TK_shape hTK (by omega) (by omega)))
                · skip
                  have c162' := c162
                  rw [← Int32.toInt_inj] at c162'
                  refine y_gd (y_gdI (by omega) (by omega)) ?_
                  refine y_gd (y_gdI (by omega) (by omega)) ?_
                  refine y_gd (y_gdI (by omega) (by omega)) ?_
                  refine y_gd (y_gdI (by omega) (by omega)) ?_
                  refine y_some ?_
                  try dsimp only
                  have e164 : (2 : Int32).toInt = 2 := rfl
                  try have e165 := @y_addL v4_8 (1 : Int32) (1) rfl (by omega) (by omega)
                  try have e166 := @y_cl v4_8 (by omega)
                  try have e167 := @y_nb p3 (by omega) (by omega)
                  refine y_some ?_
                  try dsimp only
                  refine ⟨?_, ?_, ?_, ?_⟩ <;> (first | with_reducible rfl | with_reducible assumption | omega | (exfalso; omega) | (exact y_TK_shape hTK (by omega) (by omega)))
              · skip
                have c161' := c161
                rw [← Int32.toInt_inj] at c161'
                refine y_if (fun c168 => ?_) (fun c168 => ?_)
                · skip
                  have c168' : p2.toInt = -1 := (y_eqN rfl).mp c168
                  refine y_gd (y_gdI (by omega) (by omega)) ?_
                  refine y_if (fun c169 => ?_) (fun c169 => ?_)
                  · skip
                    try have e170 := @y_cl p1 (by omega)
                    have c169' := c169
                    rw [← Int32.toInt_inj] at c169'
                    refine y_if (fun c171 => ?_) (fun c171 => ?_)
                    · skip
                      have c171' := c171
                      rw [← Int32.toInt_inj] at c171'
                      refine y_bi (y_X9_full) (fun s_21 h_s_21 => ?_)
                      obtain ⟨h0_s_21, h1_s_21⟩ := h_s_21
                      refine y_some ?_
                      try dsimp only
                      have e172 : (2 : Int32).toInt = 2 := rfl
                      refine y_some ?_
                      try dsimp only
                      refine ⟨?_, ?_, ?_, ?_⟩ <;> (first | with_reducible rfl | with_reducible assumption | omega | (exfalso; omega) | (exact y_TK_shape hTK (by omega) (by omega)))
                    · skip
                      have c171' := c171
                      rw [← Int32.toInt_inj] at c171'
                      refine y_gd (y_gdI (by omega) (by omega)) ?_
                      refine y_gd (y_gdI (by omega) (by omega)) ?_
                      refine y_gd (y_gdI (by omega) (by omega)) ?_
                      refine y_gd (y_gdI (by omega) (by omega)) ?_
                      refine y_some ?_
                      try dsimp only
                      have e173 : (2 : Int32).toInt = 2 := rfl
                      try have e174 := @y_addL v4_8 (1 : Int32) (1) rfl (by omega) (by omega)
                      try have e175 := @y_cl v4_8 (by omega)
                      try have e176 := @y_nb p3 (by omega) (by omega)
                      refine y_some ?_
                      try dsimp only
                      refine ⟨?_, ?_, ?_, ?_⟩ <;> (first | with_reducible rfl | with_reducible assumption | omega | (exfalso; omega) | (exact y_TK_shape hTK (by omega) (by omega)))
                  · skip
                    try have e177 := @y_cl p1 (by omega)
                    have c169' := c169
                    rw [← Int32.toInt_inj] at c169'
                    refine y_bi (y_X9_bad) (fun s_22 h_s_22 => ?_)
                    obtain ⟨h0_s_22, h1_s_22⟩ := h_s_22
                    refine y_some ?_
                    try dsimp only
                    have e178 : (2 : Int32).toInt = 2 := rfl
                    refine y_some ?_
                    try dsimp only
                    refine ⟨?_, ?_, ?_, ?_⟩ <;> (first | with_reducible rfl | with_reducible assumption | omega | (exfalso; omega) | (exact y_TK_shape hTK (by omega) (by omega)))
                · skip
                  have c168' : ¬ p2.toInt = -1 := fun hz => c168 ((y_eqN rfl).mpr hz)
                  refine y_bi (y_X9_bad) (fun s_13 h_s_13 => ?_)
                  obtain ⟨h0_s_13, h1_s_13⟩ := h_s_13
                  refine y_some ?_
                  try dsimp only
                  have e179 : (2 : Int32).toInt = 2 := rfl
                  refine y_some ?_
                  try dsimp only
                  refine ⟨?_, ?_, ?_, ?_⟩ <;> (first | with_reducible rfl | with_reducible assumption | omega | (exfalso; omega) | (exact y_TK_shape hTK (by omega) (by omega)))
            · skip
              have c160' : ¬ p2.toInt = -1 := fun hz => c160 ((y_eqN rfl).mpr hz)
              refine y_bi (y_X9_isType (by omega) (by omega)) (fun s_23 h_s_23 => ?_)
              have h0_s_23 : (s_23.toInt = 0 ∧ ¬ (0 ≤ p2.toInt ∧ p2.toInt < 16777216 ∧ (p2.toInt % 65536 < v7_2.toInt ∨ 65528 ≤ p2.toInt % 65536))) ∨ (s_23.toInt = 1 ∧ (0 ≤ p2.toInt ∧ p2.toInt < 16777216 ∧ (p2.toInt % 65536 < v7_2.toInt ∨ 65528 ≤ p2.toInt % 65536))) := h_s_23
              refine y_if (fun c180 => ?_) (fun c180 => ?_)
              · skip
                have c180' := c180
                rw [← Int32.toInt_inj] at c180'
                have e181 := y_or0 h0_s_23 c180'
                clear h0_s_23
                refine y_bi (y_X9_bad) (fun s_25 h_s_25 => ?_)
                obtain ⟨h0_s_25, h1_s_25⟩ := h_s_25
                refine y_some ?_
                try dsimp only
                have e182 : (2 : Int32).toInt = 2 := rfl
                refine y_some ?_
                try dsimp only
                refine ⟨?_, ?_, ?_, ?_⟩ <;> (first | with_reducible rfl | with_reducible assumption | omega | (exfalso; omega) | (exact y_TK_shape hTK (by omega) (by omega)))
              · skip
                have c180' := c180
                rw [← Int32.toInt_inj] at c180'
                have e183 := y_or1 h0_s_23 c180'
                clear h0_s_23
                refine y_if (fun c184 => ?_) (fun c184 => ?_)
                · skip
                  have c184' := c184
                  rw [← Int32.toInt_inj] at c184'
                  refine y_if (fun c185 => ?_) (fun c185 => ?_)
                  · skip
                    have c185' := c185
                    rw [← Int32.toInt_inj] at c185'
                    refine y_bi (y_X9_full) (fun s_32 h_s_32 => ?_)
                    obtain ⟨h0_s_32, h1_s_32⟩ := h_s_32
                    refine y_some ?_
                    try dsimp only
                    have e186 : (2 : Int32).toInt = 2 := rfl
                    refine y_some ?_
                    try dsimp only
                    refine ⟨?_, ?_, ?_, ?_⟩ <;> (first | with_reducible rfl | with_reducible assumption | omega | (exfalso; omega) | (exact y_TK_shape hTK (by omega) (by omega)))
                  · skip
                    have c185' := c185
                    rw [← Int32.toInt_inj] at c185'
                    refine y_gd (y_gdI (by omega) (by omega)) ?_
                    refine y_gd (y_gdI (by omega) (by omega)) ?_
                    refine y_gd (y_gdI (by omega) (by omega)) ?_
                    refine y_gd (y_gdI (by omega) (by omega)) ?_
                    refine y_some ?_
                    try dsimp only
                    have e187 : (2 : Int32).toInt = 2 := rfl
                    try have e188 := @y_addL v4_8 (1 : Int32) (1) rfl (by omega) (by omega)
                    try have e189 := @y_cl v4_8 (by omega)
                    try have e190 := @y_nb p3 (by omega) (by omega)
                    refine y_some ?_
                    try dsimp only
                    refine ⟨?_, ?_, ?_, ?_⟩ <;> (first | with_reducible rfl | with_reducible assumption | omega | (exfalso; omega) | (exact y_TK_shape hTK (by omega) (by omega)))
                · skip
                  have c184' := c184
                  rw [← Int32.toInt_inj] at c184'
                  refine y_if (fun c191 => ?_) (fun c191 => ?_)
                  · skip
                    have c191' : p2.toInt = -1 := (y_eqN rfl).mp c191
                    refine y_gd (y_gdI (by omega) (by omega)) ?_
                    refine y_if (fun c192 => ?_) (fun c192 => ?_)
                    · skip
                      try have e193 := @y_cl p1 (by omega)
                      have c192' := c192
                      rw [← Int32.toInt_inj] at c192'
                      refine y_if (fun c194 => ?_) (fun c194 => ?_)
                      · skip
                        have c194' := c194
                        rw [← Int32.toInt_inj] at c194'
                        refine y_bi (y_X9_full) (fun s_42 h_s_42 => ?_)
                        obtain ⟨h0_s_42, h1_s_42⟩ := h_s_42
                        refine y_some ?_
                        try dsimp only
                        have e195 : (2 : Int32).toInt = 2 := rfl
                        refine y_some ?_
                        try dsimp only
                        refine ⟨?_, ?_, ?_, ?_⟩ <;> (first | with_reducible rfl | with_reducible assumption | omega | (exfalso; omega) | (exact y_TK_shape hTK (by omega) (by omega)))
                      · skip
                        have c194' := c194
                        rw [← Int32.toInt_inj] at c194'
                        refine y_gd (y_gdI (by omega) (by omega)) ?_
                        refine y_gd (y_gdI (by omega) (by omega)) ?_
                        refine y_gd (y_gdI (by omega) (by omega)) ?_
                        refine y_gd (y_gdI (by omega) (by omega)) ?_
                        refine y_some ?_
                        try dsimp only
                        have e196 : (2 : Int32).toInt = 2 := rfl
                        try have e197 := @y_addL v4_8 (1 : Int32) (1) rfl (by omega) (by omega)
                        try have e198 := @y_cl v4_8 (by omega)
                        try have e199 := @y_nb p3 (by omega) (by omega)
                        refine y_some ?_
                        try dsimp only
                        refine ⟨?_, ?_, ?_, ?_⟩ <;> (first | with_reducible rfl | with_reducible assumption | omega | (exfalso; omega) | (exact y_TK_shape hTK (by omega) (by omega)))
                    · skip
                      try have e200 := @y_cl p1 (by omega)
                      have c192' := c192
                      rw [← Int32.toInt_inj] at c192'
                      refine y_bi (y_X9_bad) (fun s_43 h_s_43 => ?_)
                      obtain ⟨h0_s_43, h1_s_43⟩ := h_s_43
                      refine y_some ?_
                      try dsimp only
                      have e201 : (2 : Int32).toInt = 2 := rfl
                      refine y_some ?_
                      try dsimp only
                      refine ⟨?_, ?_, ?_, ?_⟩ <;> (first | with_reducible rfl | with_reducible assumption | omega | (exfalso; omega) | (exact y_TK_shape hTK (by omega) (by omega)))
                  · skip
                    have c191' : ¬ p2.toInt = -1 := fun hz => c191 ((y_eqN rfl).mpr hz)
                    refine y_bi (y_X9_bad) (fun s_34 h_s_34 => ?_)
                    obtain ⟨h0_s_34, h1_s_34⟩ := h_s_34
                    refine y_some ?_
                    try dsimp only
                    have e202 : (2 : Int32).toInt = 2 := rfl
                    refine y_some ?_
                    try dsimp only
                    refine ⟨?_, ?_, ?_, ?_⟩ <;> (first | with_reducible rfl | with_reducible assumption | omega | (exfalso; omega) | (exact y_TK_shape hTK (by omega) (by omega)))
      · skip
        have c119' := c119
        rw [← Int32.toInt_inj] at c119'
        refine y_if (fun c203 => ?_) (fun c203 => ?_)
        · skip
          have c203' : p2.toInt = -1 := (y_eqN rfl).mp c203
          refine y_gd (y_gdI (by omega) (by omega)) ?_
          refine y_if (fun c204 => ?_) (fun c204 => ?_)
          · skip
            try have e205 := @y_cl p1 (by omega)
            have c204' := c204
            rw [← Int32.toInt_inj] at c204'
            refine y_if (fun c206 => ?_) (fun c206 => ?_)
            · skip
              have e207 : (100 : Int32).toInt = 100 := rfl
              have c206' := c206
              rw [Int32.lt_iff_toInt_lt] at c206'
              refine y_bi (ye_X4_enterShape (by omega) (by omega)) (fun r_12 h_r_12 => ?_)
              obtain ⟨h0_r_12, h1_r_12⟩ := h_r_12
              refine y_some ?_
              try dsimp only
              refine y_bt ?_
              refine y_bi (y_X9_isClass) (fun s_1 h_s_1 => ?_)
              have h0_s_1 : (s_1.toInt = 0 ∧ ¬ (0 ≤ p1.toInt ∧ p1.toInt < v7_2.toInt)) ∨ (s_1.toInt = 1 ∧ (0 ≤ p1.toInt ∧ p1.toInt < v7_2.toInt)) := h_s_1
              refine y_if (fun c208 => ?_) (fun c208 => ?_)
              · skip
                have c208' := c208
                rw [← Int32.toInt_inj] at c208'
                have e209 := y_or0 h0_s_1 c208'
                clear h0_s_1
                refine y_bi (y_X9_bad) (fun s_3 h_s_3 => ?_)
                obtain ⟨h0_s_3, h1_s_3⟩ := h_s_3
                refine y_some ?_
                try dsimp only
                refine y_some ?_
                try dsimp only
                refine ⟨?_, ?_, ?_, ?_⟩ <;> (first | with_reducible rfl | with_reducible assumption | omega | (exfalso; omega) | (exact y_TK_shape hTK (by omega) (by omega)))
              · skip
                have c208' := c208
                rw [← Int32.toInt_inj] at c208'
                have e210 := y_or1 h0_s_1 c208'
                clear h0_s_1
                refine y_if (fun c211 => ?_) (fun c211 => ?_)
                · skip
                  have c211' : p2.toInt = -1 := (y_eqN rfl).mp c211
                  refine y_if (fun c212 => ?_) (fun c212 => ?_)
                  · skip
                    have c212' := c212
                    rw [← Int32.toInt_inj] at c212'
                    refine y_if (fun c213 => ?_) (fun c213 => ?_)
                    · skip
                      have c213' := c213
                      rw [← Int32.toInt_inj] at c213'
                      refine y_bi (y_X9_full) (fun s_11 h_s_11 => ?_)
                      obtain ⟨h0_s_11, h1_s_11⟩ := h_s_11
                      refine y_some ?_
                      try dsimp only
                      refine y_some ?_
                      try dsimp only
                      refine ⟨?_, ?_, ?_, ?_⟩ <;> (first | with_reducible rfl | with_reducible assumption | omega | (exfalso; omega) | (exact y_TK_shape hTK (by omega) (by omega)))
                    · skip
                      have c213' := c213
                      rw [← Int32.toInt_inj] at c213'
                      refine y_gd (y_gdI (by omega) (by omega)) ?_
                      refine y_gd (y_gdI (by omega) (by omega)) ?_
                      refine y_gd (y_gdI (by omega) (by omega)) ?_
                      refine y_gd (y_gdI (by omega) (by omega)) ?_
                      refine y_some ?_
                      try dsimp only
                      try have e214 := @y_addL v4_8 (1 : Int32) (1) rfl (by omega) (by omega)
                      try have e215 := @y_cl v4_8 (by omega)
                      try have e216 := @y_nb p3 (by omega) (by omega)
                      refine y_some ?_
                      try dsimp only
                      refine ⟨?_, ?_, ?_, ?_⟩ <;> (first | with_reducible rfl | with_reducible assumption | omega | (exfalso; omega) | (exact y_TK_shape hTK (by omega) (by omega)))
                  · skip
                    have c212' := c212
                    rw [← Int32.toInt_inj] at c212'
                    refine y_if (fun c217 => ?_) (fun c217 => ?_)
                    · skip
                      have c217' : p2.toInt = -1 := (y_eqN rfl).mp c217
                      refine y_gd (y_gdI (by omega) (by omega)) ?_
                      refine y_if (fun c218 => ?_) (fun c218 => ?_)
                      · skip
                        have c218' := c218
                        rw [← Int32.toInt_inj] at c218'
                        refine y_if (fun c219 => ?_) (fun c219 => ?_)
                        · skip
                          have c219' := c219
                          rw [← Int32.toInt_inj] at c219'
                          refine y_bi (y_X9_full) (fun s_21 h_s_21 => ?_)
                          obtain ⟨h0_s_21, h1_s_21⟩ := h_s_21
                          refine y_some ?_
                          try dsimp only
                          refine y_some ?_
                          try dsimp only
                          refine ⟨?_, ?_, ?_, ?_⟩ <;> (first | with_reducible rfl | with_reducible assumption | omega | (exfalso; omega) | (exact y_TK_shape hTK (by omega) (by omega)))
                        · skip
                          have c219' := c219
                          rw [← Int32.toInt_inj] at c219'
                          refine y_gd (y_gdI (by omega) (by omega)) ?_
                          refine y_gd (y_gdI (by omega) (by omega)) ?_
                          refine y_gd (y_gdI (by omega) (by omega)) ?_
                          refine y_gd (y_gdI (by omega) (by omega)) ?_
                          refine y_some ?_
                          try dsimp only
                          try have e220 := @y_addL v4_8 (1 : Int32) (1) rfl (by omega) (by omega)
                          try have e221 := @y_cl v4_8 (by omega)
                          try have e222 := @y_nb p3 (by omega) (by omega)
                          refine y_some ?_
                          try dsimp only
                          refine ⟨?_, ?_, ?_, ?_⟩ <;> (first | with_reducible rfl | with_reducible assumption | omega | (exfalso; omega) | (exact y_TK_shape hTK (by omega) (by omega)))
                      · skip
                        have c218' := c218
                        rw [← Int32.toInt_inj] at c218'
                        refine y_bi (y_X9_bad) (fun s_22 h_s_22 => ?_)
                        obtain ⟨h0_s_22, h1_s_22⟩ := h_s_22
                        refine y_some ?_
                        try dsimp only
                        refine y_some ?_
                        try dsimp only
                        refine ⟨?_, ?_, ?_, ?_⟩ <;> (first | with_reducible rfl | with_reducible assumption | omega | (exfalso; omega) | (exact y_TK_shape hTK (by omega) (by omega)))
                    · skip
                      have c217' : ¬ p2.toInt = -1 := fun hz => c217 ((y_eqN rfl).mpr hz)
                      refine y_bi (y_X9_bad) (fun s_13 h_s_13 => ?_)
                      obtain ⟨h0_s_13, h1_s_13⟩ := h_s_13
                      refine y_some ?_
                      try dsimp only
                      refine y_some ?_
                      try dsimp only
                      refine ⟨?_, ?_, ?_, ?_⟩ <;> (first | with_reducible rfl | with_reducible assumption | omega | (exfalso; omega) | (exact y_TK_shape hTK (by omega) (by omega)))
                · skip
                  have c211' : ¬ p2.toInt = -1 := fun hz => c211 ((y_eqN rfl).mpr hz)
                  refine y_bi (y_X9_isType (by omega) (by omega)) (fun s_23 h_s_23 => ?_)
                  have h0_s_23 : (s_23.toInt = 0 ∧ ¬ (0 ≤ p2.toInt ∧ p2.toInt < 16777216 ∧ (p2.toInt % 65536 < v7_2.toInt ∨ 65528 ≤ p2.toInt % 65536))) ∨ (s_23.toInt = 1 ∧ (0 ≤ p2.toInt ∧ p2.toInt < 16777216 ∧ (p2.toInt % 65536 < v7_2.toInt ∨ 65528 ≤ p2.toInt % 65536))) := h_s_23
                  refine y_if (fun c223 => ?_) (fun c223 => ?_)
                  · skip
                    have c223' := c223
                    rw [← Int32.toInt_inj] at c223'
                    have e224 := y_or0 h0_s_23 c223'
                    clear h0_s_23
                    refine y_bi (y_X9_bad) (fun s_25 h_s_25 => ?_)
                    obtain ⟨h0_s_25, h1_s_25⟩ := h_s_25
                    refine y_some ?_
                    try dsimp only
                    refine y_some ?_
                    try dsimp only
                    refine ⟨?_, ?_, ?_, ?_⟩ <;> (first | with_reducible rfl | with_reducible assumption | omega | (exfalso; omega) | (exact y_TK_shape hTK (by omega) (by omega)))
                  · skip
                    have c223' := c223
                    rw [← Int32.toInt_inj] at c223'
                    have e225 := y_or1 h0_s_23 c223'
                    clear h0_s_23
                    refine y_if (fun c226 => ?_) (fun c226 => ?_)
                    · skip
                      have c226' := c226
                      rw [← Int32.toInt_inj] at c226'
                      refine y_if (fun c227 => ?_) (fun c227 => ?_)
                      · skip
                        have c227' := c227
                        rw [← Int32.toInt_inj] at c227'
                        refine y_bi (y_X9_full) (fun s_32 h_s_32 => ?_)
                        obtain ⟨h0_s_32, h1_s_32⟩ := h_s_32
                        refine y_some ?_
                        try dsimp only
                        refine y_some ?_
                        try dsimp only
                        refine ⟨?_, ?_, ?_, ?_⟩ <;> (first | with_reducible rfl | with_reducible assumption | omega | (exfalso; omega) | (exact y_TK_shape hTK (by omega) (by omega)))
                      · skip
                        have c227' := c227
                        rw [← Int32.toInt_inj] at c227'
                        refine y_gd (y_gdI (by omega) (by omega)) ?_
                        refine y_gd (y_gdI (by omega) (by omega)) ?_
                        refine y_gd (y_gdI (by omega) (by omega)) ?_
                        refine y_gd (y_gdI (by omega) (by omega)) ?_
                        refine y_some ?_
                        try dsimp only
                        try have e228 := @y_addL v4_8 (1 : Int32) (1) rfl (by omega) (by omega)
                        try have e229 := @y_cl v4_8 (by omega)
                        try have e230 := @y_nb p3 (by omega) (by omega)
                        refine y_some ?_
                        try dsimp only
                        refine ⟨?_, ?_, ?_, ?_⟩ <;> (first | with_reducible rfl | with_reducible assumption | omega | (exfalso; omega) | (exact y_TK_shape hTK (by omega) (by omega)))
                    · skip
                      have c226' := c226
                      rw [← Int32.toInt_inj] at c226'
                      refine y_if (fun c231 => ?_) (fun c231 => ?_)
                      · skip
                        have c231' : p2.toInt = -1 := (y_eqN rfl).mp c231
                        refine y_gd (y_gdI (by omega) (by omega)) ?_
                        refine y_if (fun c232 => ?_) (fun c232 => ?_)
                        · skip
                          have c232' := c232
                          rw [← Int32.toInt_inj] at c232'
                          refine y_if (fun c233 => ?_) (fun c233 => ?_)
                          · skip
                            have c233' := c233
                            rw [← Int32.toInt_inj] at c233'
                            refine y_bi (y_X9_full) (fun s_42 h_s_42 => ?_)
                            obtain ⟨h0_s_42, h1_s_42⟩ := h_s_42
                            refine y_some ?_
                            try dsimp only
                            refine y_some ?_
                            try dsimp only
                            refine ⟨?_, ?_, ?_, ?_⟩ <;> (first | with_reducible rfl | with_reducible assumption | omega | (exfalso; omega) | (exact y_TK_shape hTK (by omega) (by omega)))
                          · skip
                            have c233' := c233
                            rw [← Int32.toInt_inj] at c233'
                            refine y_gd (y_gdI (by omega) (by omega)) ?_
                            refine y_gd (y_gdI (by omega) (by omega)) ?_
                            refine y_gd (y_gdI (by omega) (by omega)) ?_
                            refine y_gd (y_gdI (by omega) (by omega)) ?_
                            refine y_some ?_
                            try dsimp only
                            try have e234 := @y_addL v4_8 (1 : Int32) (1) rfl (by omega) (by omega)
                            try have e235 := @y_cl v4_8 (by omega)
                            try have e236 := @y_nb p3 (by omega) (by omega)
                            refine y_some ?_
                            try dsimp only
                            refine ⟨?_, ?_, ?_, ?_⟩ <;> (first | with_reducible rfl | with_reducible assumption | omega | (exfalso; omega) | (exact y_TK_shape hTK (by omega) (by omega)))
                        · skip
                          have c232' := c232
                          rw [← Int32.toInt_inj] at c232'
                          refine y_bi (y_X9_bad) (fun s_43 h_s_43 => ?_)
                          obtain ⟨h0_s_43, h1_s_43⟩ := h_s_43
                          refine y_some ?_
                          try dsimp only
                          refine y_some ?_
                          try dsimp only
                          refine ⟨?_, ?_, ?_, ?_⟩ <;> (first | with_reducible rfl | with_reducible assumption | omega | (exfalso; omega) | (exact y_TK_shape hTK (by omega) (by omega)))
                      · skip
                        have c231' : ¬ p2.toInt = -1 := fun hz => c231 ((y_eqN rfl).mpr hz)
                        refine y_bi (y_X9_bad) (fun s_34 h_s_34 => ?_)
                        obtain ⟨h0_s_34, h1_s_34⟩ := h_s_34
                        refine y_some ?_
                        try dsimp only
                        refine y_some ?_
                        try dsimp only
                        refine ⟨?_, ?_, ?_, ?_⟩ <;> (first | with_reducible rfl | with_reducible assumption | omega | (exfalso; omega) | (exact y_TK_shape hTK (by omega) (by omega)))
            · skip
              have e237 : (100 : Int32).toInt = 100 := rfl
              have c206' := c206
              rw [Int32.lt_iff_toInt_lt] at c206'
              refine y_some ?_
              try dsimp only
              refine y_bt ?_
              refine y_bi (y_X9_isClass) (fun s_1 h_s_1 => ?_)
              have h0_s_1 : (s_1.toInt = 0 ∧ ¬ (0 ≤ p1.toInt ∧ p1.toInt < v7_2.toInt)) ∨ (s_1.toInt = 1 ∧ (0 ≤ p1.toInt ∧ p1.toInt < v7_2.toInt)) := h_s_1
              refine y_if (fun c238 => ?_) (fun c238 => ?_)
              · skip
                have c238' := c238
                rw [← Int32.toInt_inj] at c238'
                have e239 := y_or0 h0_s_1 c238'
                clear h0_s_1
                refine y_bi (y_X9_bad) (fun s_3 h_s_3 => ?_)
                obtain ⟨h0_s_3, h1_s_3⟩ := h_s_3
                refine y_some ?_
                try dsimp only
                have e240 : (2 : Int32).toInt = 2 := rfl
                refine y_some ?_
                try dsimp only
                refine ⟨?_, ?_, ?_, ?_⟩ <;> (first | with_reducible rfl | with_reducible assumption | omega | (exfalso; omega) | (exact y_TK_shape hTK (by omega) (by omega)))
              · skip
                have c238' := c238
                rw [← Int32.toInt_inj] at c238'
                have e241 := y_or1 h0_s_1 c238'
                clear h0_s_1
                refine y_if (fun c242 => ?_) (fun c242 => ?_)
                · skip
                  have c242' : p2.toInt = -1 := (y_eqN rfl).mp c242
                  refine y_if (fun c243 => ?_) (fun c243 => ?_)
                  · skip
                    have c243' := c243
                    rw [← Int32.toInt_inj] at c243'
                    refine y_if (fun c244 => ?_) (fun c244 => ?_)
                    · skip
                      have c244' := c244
                      rw [← Int32.toInt_inj] at c244'
                      refine y_bi (y_X9_full) (fun s_11 h_s_11 => ?_)
                      obtain ⟨h0_s_11, h1_s_11⟩ := h_s_11
                      refine y_some ?_
                      try dsimp only
                      have e245 : (2 : Int32).toInt = 2 := rfl
                      refine y_some ?_
                      try dsimp only
                      refine ⟨?_, ?_, ?_, ?_⟩ <;> (first | with_reducible rfl | with_reducible assumption | omega | (exfalso; omega) | (exact y_TK_shape hTK (by omega) (by omega)))
                    · skip
                      have c244' := c244
                      rw [← Int32.toInt_inj] at c244'
                      refine y_gd (y_gdI (by omega) (by omega)) ?_
                      refine y_gd (y_gdI (by omega) (by omega)) ?_
                      refine y_gd (y_gdI (by omega) (by omega)) ?_
                      refine y_gd (y_gdI (by omega) (by omega)) ?_
                      refine y_some ?_
                      try dsimp only
                      have e246 : (2 : Int32).toInt = 2 := rfl
                      try have e247 := @y_addL v4_8 (1 : Int32) (1) rfl (by omega) (by omega)
                      try have e248 := @y_cl v4_8 (by omega)
                      try have e249 := @y_nb p3 (by omega) (by omega)
                      refine y_some ?_
                      try dsimp only
                      refine ⟨?_, ?_, ?_, ?_⟩ <;> (first | with_reducible rfl | with_reducible assumption | omega | (exfalso; omega) | (exact y_TK_shape hTK (by omega) (by omega)))
                  · skip
                    have c243' := c243
                    rw [← Int32.toInt_inj] at c243'
                    refine y_if (fun c250 => ?_) (fun c250 => ?_)
                    · skip
                      have c250' : p2.toInt = -1 := (y_eqN rfl).mp c250
                      refine y_gd (y_gdI (by omega) (by omega)) ?_
                      refine y_if (fun c251 => ?_) (fun c251 => ?_)
                      · skip
                        have c251' := c251
                        rw [← Int32.toInt_inj] at c251'
                        refine y_if (fun c252 => ?_) (fun c252 => ?_)
                        · skip
                          have c252' := c252
                          rw [← Int32.toInt_inj] at c252'
                          refine y_bi (y_X9_full) (fun s_21 h_s_21 => ?_)
                          obtain ⟨h0_s_21, h1_s_21⟩ := h_s_21
                          refine y_some ?_
                          try dsimp only
                          have e253 : (2 : Int32).toInt = 2 := rfl
                          refine y_some ?_
                          try dsimp only
                          refine ⟨?_, ?_, ?_, ?_⟩ <;> (first | with_reducible rfl | with_reducible assumption | omega | (exfalso; omega) | (exact y_TK_shape hTK (by omega) (by omega)))
                        · skip
                          have c252' := c252
                          rw [← Int32.toInt_inj] at c252'
                          refine y_gd (y_gdI (by omega) (by omega)) ?_
                          refine y_gd (y_gdI (by omega) (by omega)) ?_
                          refine y_gd (y_gdI (by omega) (by omega)) ?_
                          refine y_gd (y_gdI (by omega) (by omega)) ?_
                          refine y_some ?_
                          try dsimp only
                          have e254 : (2 : Int32).toInt = 2 := rfl
                          try have e255 := @y_addL v4_8 (1 : Int32) (1) rfl (by omega) (by omega)
                          try have e256 := @y_cl v4_8 (by omega)
                          try have e257 := @y_nb p3 (by omega) (by omega)
                          refine y_some ?_
                          try dsimp only
                          refine ⟨?_, ?_, ?_, ?_⟩ <;> (first | with_reducible rfl | with_reducible assumption | omega | (exfalso; omega) | (exact y_TK_shape hTK (by omega) (by omega)))
                      · skip
                        have c251' := c251
                        rw [← Int32.toInt_inj] at c251'
                        refine y_bi (y_X9_bad) (fun s_22 h_s_22 => ?_)
                        obtain ⟨h0_s_22, h1_s_22⟩ := h_s_22
                        refine y_some ?_
                        try dsimp only
                        have e258 : (2 : Int32).toInt = 2 := rfl
                        refine y_some ?_
                        try dsimp only
                        refine ⟨?_, ?_, ?_, ?_⟩ <;> (first | with_reducible rfl | with_reducible assumption | omega | (exfalso; omega) | (exact y_TK_shape hTK (by omega) (by omega)))
                    · skip
                      have c250' : ¬ p2.toInt = -1 := fun hz => c250 ((y_eqN rfl).mpr hz)
                      refine y_bi (y_X9_bad) (fun s_13 h_s_13 => ?_)
                      obtain ⟨h0_s_13, h1_s_13⟩ := h_s_13
                      refine y_some ?_
                      try dsimp only
                      have e259 : (2 : Int32).toInt = 2 := rfl
                      refine y_some ?_
                      try dsimp only
                      refine ⟨?_, ?_, ?_, ?_⟩ <;> (first | with_reducible rfl | with_reducible assumption | omega | (exfalso; omega) | (exact y_TK_shape hTK (by omega) (by omega)))
                · skip
                  have c242' : ¬ p2.toInt = -1 := fun hz => c242 ((y_eqN rfl).mpr hz)
                  refine y_bi (y_X9_isType (by omega) (by omega)) (fun s_23 h_s_23 => ?_)
                  have h0_s_23 : (s_23.toInt = 0 ∧ ¬ (0 ≤ p2.toInt ∧ p2.toInt < 16777216 ∧ (p2.toInt % 65536 < v7_2.toInt ∨ 65528 ≤ p2.toInt % 65536))) ∨ (s_23.toInt = 1 ∧ (0 ≤ p2.toInt ∧ p2.toInt < 16777216 ∧ (p2.toInt % 65536 < v7_2.toInt ∨ 65528 ≤ p2.toInt % 65536))) := h_s_23
                  refine y_if (fun c260 => ?_) (fun c260 => ?_)
                  · skip
                    have c260' := c260
                    rw [← Int32.toInt_inj] at c260'
                    have e261 := y_or0 h0_s_23 c260'
                    clear h0_s_23
                    refine y_bi (y_X9_bad) (fun s_25 h_s_25 => ?_)
                    obtain ⟨h0_s_25, h1_s_25⟩ := h_s_25
                    refine y_some ?_
                    try dsimp only
                    have e262 : (2 : Int32).toInt = 2 := rfl
                    refine y_some ?_
                    try dsimp only
                    refine ⟨?_, ?_, ?_, ?_⟩ <;> (first | with_reducible rfl | with_reducible assumption | omega | (exfalso; omega) | (exact y_TK_shape hTK (by omega) (by omega)))
                  · skip
                    have c260' := c260
                    rw [← Int32.toInt_inj] at c260'
                    have e263 := y_or1 h0_s_23 c260'
                    clear h0_s_23
                    refine y_if (fun c264 => ?_) (fun c264 => ?_)
                    · skip
                      have c264' := c264
                      rw [← Int32.toInt_inj] at c264'
                      refine y_if (fun c265 => ?_) (fun c265 => ?_)
                      · skip
                        have c265' := c265
                        rw [← Int32.toInt_inj] at c265'
                        refine y_bi (y_X9_full) (fun s_32 h_s_32 => ?_)
                        obtain ⟨h0_s_32, h1_s_32⟩ := h_s_32
                        refine y_some ?_
                        try dsimp only
                        have e266 : (2 : Int32).toInt = 2 := rfl
                        refine y_some ?_
                        try dsimp only
                        refine ⟨?_, ?_, ?_, ?_⟩ <;> (first | with_reducible rfl | with_reducible assumption | omega | (exfalso; omega) | (exact y_TK_shape hTK (by omega) (by omega)))
                      · skip
                        have c265' := c265
                        rw [← Int32.toInt_inj] at c265'
                        refine y_gd (y_gdI (by omega) (by omega)) ?_
                        refine y_gd (y_gdI (by omega) (by omega)) ?_
                        refine y_gd (y_gdI (by omega) (by omega)) ?_
                        refine y_gd (y_gdI (by omega) (by omega)) ?_
                        refine y_some ?_
                        try dsimp only
                        have e267 : (2 : Int32).toInt = 2 := rfl
                        try have e268 := @y_addL v4_8 (1 : Int32) (1) rfl (by omega) (by omega)
                        try have e269 := @y_cl v4_8 (by omega)
                        try have e270 := @y_nb p3 (by omega) (by omega)
                        refine y_some ?_
                        try dsimp only
                        refine ⟨?_, ?_, ?_, ?_⟩ <;> (first | with_reducible rfl | with_reducible assumption | omega | (exfalso; omega) | (exact y_TK_shape hTK (by omega) (by omega)))
                    · skip
                      have c264' := c264
                      rw [← Int32.toInt_inj] at c264'
                      refine y_if (fun c271 => ?_) (fun c271 => ?_)
                      · skip
                        have c271' : p2.toInt = -1 := (y_eqN rfl).mp c271
                        refine y_gd (y_gdI (by omega) (by omega)) ?_
                        refine y_if (fun c272 => ?_) (fun c272 => ?_)
                        · skip
                          have c272' := c272
                          rw [← Int32.toInt_inj] at c272'
                          refine y_if (fun c273 => ?_) (fun c273 => ?_)
                          · skip
                            have c273' := c273
                            rw [← Int32.toInt_inj] at c273'
                            refine y_bi (y_X9_full) (fun s_42 h_s_42 => ?_)
                            obtain ⟨h0_s_42, h1_s_42⟩ := h_s_42
                            refine y_some ?_
                            try dsimp only
                            have e274 : (2 : Int32).toInt = 2 := rfl
                            refine y_some ?_
                            try dsimp only
                            refine ⟨?_, ?_, ?_, ?_⟩ <;> (first | with_reducible rfl | with_reducible assumption | omega | (exfalso; omega) | (exact y_TK_shape hTK (by omega) (by omega)))
                          · skip
                            have c273' := c273
                            rw [← Int32.toInt_inj] at c273'
                            refine y_gd (y_gdI (by omega) (by omega)) ?_
                            refine y_gd (y_gdI (by omega) (by omega)) ?_
                            refine y_gd (y_gdI (by omega) (by omega)) ?_
                            refine y_gd (y_gdI (by omega) (by omega)) ?_
                            refine y_some ?_
                            try dsimp only
                            have e275 : (2 : Int32).toInt = 2 := rfl
                            try have e276 := @y_addL v4_8 (1 : Int32) (1) rfl (by omega) (by omega)
                            try have e277 := @y_cl v4_8 (by omega)
                            try have e278 := @y_nb p3 (by omega) (by omega)
                            refine y_some ?_
                            try dsimp only
                            refine ⟨?_, ?_, ?_, ?_⟩ <;> (first | with_reducible rfl | with_reducible assumption | omega | (exfalso; omega) | (exact y_TK_shape hTK (by omega) (by omega)))
                        · skip
                          have c272' := c272
                          rw [← Int32.toInt_inj] at c272'
                          refine y_bi (y_X9_bad) (fun s_43 h_s_43 => ?_)
                          obtain ⟨h0_s_43, h1_s_43⟩ := h_s_43
                          refine y_some ?_
                          try dsimp only
                          have e279 : (2 : Int32).toInt = 2 := rfl
                          refine y_some ?_
                          try dsimp only
                          refine ⟨?_, ?_, ?_, ?_⟩ <;> (first | with_reducible rfl | with_reducible assumption | omega | (exfalso; omega) | (exact y_TK_shape hTK (by omega) (by omega)))
                      · skip
                        have c271' : ¬ p2.toInt = -1 := fun hz => c271 ((y_eqN rfl).mpr hz)
                        refine y_bi (y_X9_bad) (fun s_34 h_s_34 => ?_)
                        obtain ⟨h0_s_34, h1_s_34⟩ := h_s_34
                        refine y_some ?_
                        try dsimp only
                        have e280 : (2 : Int32).toInt = 2 := rfl
                        refine y_some ?_
                        try dsimp only
                        refine ⟨?_, ?_, ?_, ?_⟩ <;> (first | with_reducible rfl | with_reducible assumption | omega | (exfalso; omega) | (exact y_TK_shape hTK (by omega) (by omega)))
          · skip
            try have e281 := @y_cl p1 (by omega)
            have c204' := c204
            rw [← Int32.toInt_inj] at c204'
            refine y_some ?_
            try dsimp only
            refine y_bt ?_
            refine y_bi (y_X9_isClass) (fun s_1 h_s_1 => ?_)
            have h0_s_1 : (s_1.toInt = 0 ∧ ¬ (0 ≤ p1.toInt ∧ p1.toInt < v7_2.toInt)) ∨ (s_1.toInt = 1 ∧ (0 ≤ p1.toInt ∧ p1.toInt < v7_2.toInt)) := h_s_1
            refine y_if (fun c282 => ?_) (fun c282 => ?_)
            · skip
              have c282' := c282
              rw [← Int32.toInt_inj] at c282'
              have e283 := y_or0 h0_s_1 c282'
              clear h0_s_1
              refine y_bi (y_X9_bad) (fun s_3 h_s_3 => ?_)
              obtain ⟨h0_s_3, h1_s_3⟩ := h_s_3
              refine y_some ?_
              try dsimp only
              have e284 : (1 : Int32).toInt = 1 := rfl
              refine y_some ?_
              try dsimp only
              refine ⟨?_, ?_, ?_, ?_⟩ <;> (first | with_reducible rfl | with_reducible assumption | omega | (exfalso; omega) | (exact y_TK_shape hTK (by omega) (by omega)))
            · skip
              have c282' := c282
              rw [← Int32.toInt_inj] at c282'
              have e285 := y_or1 h0_s_1 c282'
              clear h0_s_1
              refine y_if (fun c286 => ?_) (fun c286 => ?_)
              · skip
                have c286' : p2.toInt = -1 := (y_eqN rfl).mp c286
                refine y_if (fun c287 => ?_) (fun c287 => ?_)
                · skip
                  have c287' := c287
                  rw [← Int32.toInt_inj] at c287'
                  refine y_if (fun c288 => ?_) (fun c288 => ?_)
                  · skip
                    have e289 : (100 : Int32).toInt = 100 := rfl
                    have c288' := c288
                    rw [← Int32.toInt_inj] at c288'
                    refine y_bi (y_X9_full) (fun s_11 h_s_11 => ?_)
                    obtain ⟨h0_s_11, h1_s_11⟩ := h_s_11
                    refine y_some ?_
                    try dsimp only
                    have e290 : (1 : Int32).toInt = 1 := rfl
                    refine y_some ?_
                    try dsimp only
                    refine ⟨?_, ?_, ?_, ?_⟩ <;> (first | with_reducible rfl | with_reducible assumption | omega | (exfalso; omega) | (exact y_TK_shape hTK (by omega) (by omega)))
                  · skip
                    have e291 : (100 : Int32).toInt = 100 := rfl
                    have c288' := c288
                    rw [← Int32.toInt_inj] at c288'
                    refine y_gd (y_gdI (by omega) (by omega)) ?_
                    refine y_gd (y_gdI (by omega) (by omega)) ?_
                    refine y_gd (y_gdI (by omega) (by omega)) ?_
                    refine y_gd (y_gdI (by omega) (by omega)) ?_
                    refine y_some ?_
                    try dsimp only
                    have e292 : (1 : Int32).toInt = 1 := rfl
                    try have e293 := @y_addL v4_8 (1 : Int32) (1) rfl (by omega) (by omega)
                    try have e294 := @y_cl v4_8 (by omega)
                    try have e295 := @y_nb p3 (by omega) (by omega)
                    refine y_some ?_
                    try dsimp only
                    refine ⟨?_, ?_, ?_, ?_⟩ <;> (first | with_reducible rfl | with_reducible assumption | omega | (exfalso; omega) | (exact y_TK_shape hTK (by omega) (by omega)))
                · skip
                  have c287' := c287
                  rw [← Int32.toInt_inj] at c287'
                  refine y_if (fun c296 => ?_) (fun c296 => ?_)
                  · skip
                    have c296' : p2.toInt = -1 := (y_eqN rfl).mp c296
                    refine y_gd (y_gdI (by omega) (by omega)) ?_
                    refine y_if (fun c297 => ?_) (fun c297 => ?_)
                    · skip
                      have c297' := c297
                      rw [← Int32.toInt_inj] at c297'
                      refine y_if (fun c298 => ?_) (fun c298 => ?_)
                      · skip
                        have e299 : (100 : Int32).toInt = 100 := rfl
                        have c298' := c298
                        rw [← Int32.toInt_inj] at c298'
                        refine y_bi (y_X9_full) (fun s_21 h_s_21 => ?_)
                        obtain ⟨h0_s_21, h1_s_21⟩ := h_s_21
                        refine y_some ?_
                        try dsimp only
                        have e300 : (1 : Int32).toInt = 1 := rfl
                        refine y_some ?_
                        try dsimp only
                        refine ⟨?_, ?_, ?_, ?_⟩ <;> (first | with_reducible rfl | with_reducible assumption | omega | (exfalso; omega) | (exact y_TK_shape hTK (by omega) (by omega)))
                      · skip
                        have e301 : (100 : Int32).toInt = 100 := rfl
                        have c298' := c298
                        rw [← Int32.toInt_inj] at c298'
                        refine y_gd (y_gdI (by omega) (by omega)) ?_
                        refine y_gd (y_gdI (by omega) (by omega)) ?_
                        refine y_gd (y_gdI (by omega) (by omega)) ?_
                        refine y_gd (y_gdI (by omega) (by omega)) ?_
                        refine y_some ?_
                        try dsimp only
                        have e302 : (1 : Int32).toInt = 1 := rfl
                        try have e303 := @y_addL v4_8 (1 : Int32) (1) rfl (by omega) (by omega)
                        try have e304 := @y_cl v4_8 (by omega)
                        try have e305 := @y_nb p3 (by omega) (by omega)
                        refine y_some ?_
                        try dsimp only
                        refine ⟨?_, ?_, ?_, ?_⟩ <;> (first | with_reducible rfl | with_reducible assumption | omega | (exfalso; omega) | (exact y_TK_shape hTK (by omega) (by omega)))
                    · skip
                      have c297' := c297
                      rw [← Int32.toInt_inj] at c297'
                      refine y_bi (y_X9_bad) (fun s_22 h_s_22 => ?_)
                      obtain ⟨h0_s_22, h1_s_22⟩ := h_s_22
                      refine y_some ?_
                      try dsimp only
                      have e306 : (1 : Int32).toInt = 1 := rfl
                      refine y_some ?_
                      try dsimp only
                      refine ⟨?_, ?_, ?_, ?_⟩ <;> (first | with_reducible rfl | with_reducible assumption | omega | (exfalso; omega) | (exact y_TK_shape hTK (by omega) (by omega)))
                  · skip
                    have c296' : ¬ p2.toInt = -1 := fun hz => c296 ((y_eqN rfl).mpr hz)
                    refine y_bi (y_X9_bad) (fun s_13 h_s_13 => ?_)
                    obtain ⟨h0_s_13, h1_s_13⟩ := h_s_13
                    refine y_some ?_
                    try dsimp only
                    have e307 : (1 : Int32).toInt = 1 := rfl
                    refine y_some ?_
                    try dsimp only
                    refine ⟨?_, ?_, ?_, ?_⟩ <;> (first | with_reducible rfl | with_reducible assumption | omega | (exfalso; omega) | (exact y_TK_shape hTK (by omega) (by omega)))
              · skip
                have c286' : ¬ p2.toInt = -1 := fun hz => c286 ((y_eqN rfl).mpr hz)
                refine y_bi (y_X9_isType (by omega) (by omega)) (fun s_23 h_s_23 => ?_)
                have h0_s_23 : (s_23.toInt = 0 ∧ ¬ (0 ≤ p2.toInt ∧ p2.toInt < 16777216 ∧ (p2.toInt % 65536 < v7_2.toInt ∨ 65528 ≤ p2.toInt % 65536))) ∨ (s_23.toInt = 1 ∧ (0 ≤ p2.toInt ∧ p2.toInt < 16777216 ∧ (p2.toInt % 65536 < v7_2.toInt ∨ 65528 ≤ p2.toInt % 65536))) := h_s_23
                refine y_if (fun c308 => ?_) (fun c308 => ?_)
                · skip
                  have c308' := c308
                  rw [← Int32.toInt_inj] at c308'
                  have e309 := y_or0 h0_s_23 c308'
                  clear h0_s_23
                  refine y_bi (y_X9_bad) (fun s_25 h_s_25 => ?_)
                  obtain ⟨h0_s_25, h1_s_25⟩ := h_s_25
                  refine y_some ?_
                  try dsimp only
                  have e310 : (1 : Int32).toInt = 1 := rfl
                  refine y_some ?_
                  try dsimp only
                  refine ⟨?_, ?_, ?_, ?_⟩ <;> (first | with_reducible rfl | with_reducible assumption | omega | (exfalso; omega) | (exact y_TK_shape hTK (by omega) (by omega)))
                · skip
                  have c308' := c308
                  rw [← Int32.toInt_inj] at c308'
                  have e311 := y_or1 h0_s_23 c308'
                  clear h0_s_23
                  refine y_if (fun c312 => ?_) (fun c312 => ?_)
                  · skip
                    have c312' := c312
                    rw [← Int32.toInt_inj] at c312'
                    refine y_if (fun c313 => ?_) (fun c313 => ?_)
                    · skip
                      have e314 : (100 : Int32).toInt = 100 := rfl
                      have c313' := c313
                      rw [← Int32.toInt_inj] at c313'
                      refine y_bi (y_X9_full) (fun s_32 h_s_32 => ?_)
                      obtain ⟨h0_s_32, h1_s_32⟩ := h_s_32
                      refine y_some ?_
                      try dsimp only
                      have e315 : (1 : Int32).toInt = 1 := rfl
                      refine y_some ?_
                      try dsimp only
                      refine ⟨?_, ?_, ?_, ?_⟩ <;> (first | with_reducible rfl | with_reducible assumption | omega | (exfalso; omega) | (exact y_TK_shape hTK (by omega) (by omega)))
                    · skip
                      have e316 : (100 : Int32).toInt = 100 := rfl
                      have c313' := c313
                      rw [← Int32.toInt_inj] at c313'
                      refine y_gd (y_gdI (by omega) (by omega)) ?_
                      refine y_gd (y_gdI (by omega) (by omega)) ?_
                      refine y_gd (y_gdI (by omega) (by omega)) ?_
                      refine y_gd (y_gdI (by omega) (by omega)) ?_
                      refine y_some ?_
                      try dsimp only
                      have e317 : (1 : Int32).toInt = 1 := rfl
                      try have e318 := @y_addL v4_8 (1 : Int32) (1) rfl (by omega) (by omega)
                      try have e319 := @y_cl v4_8 (by omega)
                      try have e320 := @y_nb p3 (by omega) (by omega)
                      refine y_some ?_
                      try dsimp only
                      refine ⟨?_, ?_, ?_, ?_⟩ <;> (first | with_reducible rfl | with_reducible assumption | omega | (exfalso; omega) | (exact y_TK_shape hTK (by omega) (by omega)))
                  · skip
                    have c312' := c312
                    rw [← Int32.toInt_inj] at c312'
                    refine y_if (fun c321 => ?_) (fun c321 => ?_)
                    · skip
                      have c321' : p2.toInt = -1 := (y_eqN rfl).mp c321
                      refine y_gd (y_gdI (by omega) (by omega)) ?_
                      refine y_if (fun c322 => ?_) (fun c322 => ?_)
                      · skip
                        have c322' := c322
                        rw [← Int32.toInt_inj] at c322'
                        refine y_if (fun c323 => ?_) (fun c323 => ?_)
                        · skip
                          have e324 : (100 : Int32).toInt = 100 := rfl
                          have c323' := c323
                          rw [← Int32.toInt_inj] at c323'
                          refine y_bi (y_X9_full) (fun s_42 h_s_42 => ?_)
                          obtain ⟨h0_s_42, h1_s_42⟩ := h_s_42
                          refine y_some ?_
                          try dsimp only
                          have e325 : (1 : Int32).toInt = 1 := rfl
                          refine y_some ?_
                          try dsimp only
                          refine ⟨?_, ?_, ?_, ?_⟩ <;> (first | with_reducible rfl | with_reducible assumption | omega | (exfalso; omega) | (exact y_TK_shape hTK (by omega) (by omega)))
                        · skip
                          have e326 : (100 : Int32).toInt = 100 := rfl
                          have c323' := c323
                          rw [← Int32.toInt_inj] at c323'
                          refine y_gd (y_gdI (by omega) (by omega)) ?_
                          refine y_gd (y_gdI (by omega) (by omega)) ?_
                          refine y_gd (y_gdI (by omega) (by omega)) ?_
                          refine y_gd (y_gdI (by omega) (by omega)) ?_
                          refine y_some ?_
                          try dsimp only
                          have e327 : (1 : Int32).toInt = 1 := rfl
                          try have e328 := @y_addL v4_8 (1 : Int32) (1) rfl (by omega) (by omega)
                          try have e329 := @y_cl v4_8 (by omega)
                          try have e330 := @y_nb p3 (by omega) (by omega)
                          refine y_some ?_
                          try dsimp only
                          refine ⟨?_, ?_, ?_, ?_⟩ <;> (first | with_reducible rfl | with_reducible assumption | omega | (exfalso; omega) | (exact y_TK_shape hTK (by omega) (by omega)))
                      · skip
                        have c322' := c322
                        rw [← Int32.toInt_inj] at c322'
                        refine y_bi (y_X9_bad) (fun s_43 h_s_43 => ?_)
                        obtain ⟨h0_s_43, h1_s_43⟩ := h_s_43
                        refine y_some ?_
                        try dsimp only
                        have e331 : (1 : Int32).toInt = 1 := rfl
                        refine y_some ?_
                        try dsimp only
                        refine ⟨?_, ?_, ?_, ?_⟩ <;> (first | with_reducible rfl | with_reducible assumption | omega | (exfalso; omega) | (exact y_TK_shape hTK (by omega) (by omega)))
                    · skip
                      have c321' : ¬ p2.toInt = -1 := fun hz => c321 ((y_eqN rfl).mpr hz)
                      refine y_bi (y_X9_bad) (fun s_34 h_s_34 => ?_)
                      obtain ⟨h0_s_34, h1_s_34⟩ := h_s_34
                      refine y_some ?_
                      try dsimp only
                      have e332 : (1 : Int32).toInt = 1 := rfl
                      refine y_some ?_
                      try dsimp only
                      refine ⟨?_, ?_, ?_, ?_⟩ <;> (first | with_reducible rfl | with_reducible assumption | omega | (exfalso; omega) | (exact y_TK_shape hTK (by omega) (by omega)))
        · skip
          have c203' : ¬ p2.toInt = -1 := fun hz => c203 ((y_eqN rfl).mpr hz)
          refine y_some ?_
          try dsimp only
          refine y_bt ?_
          refine y_bi (y_X9_isClass) (fun s_1 h_s_1 => ?_)
          have h0_s_1 : (s_1.toInt = 0 ∧ ¬ (0 ≤ p1.toInt ∧ p1.toInt < v7_2.toInt)) ∨ (s_1.toInt = 1 ∧ (0 ≤ p1.toInt ∧ p1.toInt < v7_2.toInt)) := h_s_1
          refine y_if (fun c333 => ?_) (fun c333 => ?_)
          · skip
            have c333' := c333
            rw [← Int32.toInt_inj] at c333'
            have e334 := y_or0 h0_s_1 c333'
            clear h0_s_1
            refine y_bi (y_X9_bad) (fun s_3 h_s_3 => ?_)
            obtain ⟨h0_s_3, h1_s_3⟩ := h_s_3
            refine y_some ?_
            try dsimp only
            have e335 : (1 : Int32).toInt = 1 := rfl
            refine y_some ?_
            try dsimp only
            refine ⟨?_, ?_, ?_, ?_⟩ <;> (first | with_reducible rfl | with_reducible assumption | omega | (exfalso; omega) | (exact y_TK_shape hTK (by omega) (by omega)))
          · skip
            have c333' := c333
            rw [← Int32.toInt_inj] at c333'
            have e336 := y_or1 h0_s_1 c333'
            clear h0_s_1
            refine y_if (fun c337 => ?_) (fun c337 => ?_)
            · skip
              have c337' : p2.toInt = -1 := (y_eqN rfl).mp c337
              refine y_if (fun c338 => ?_) (fun c338 => ?_)
              · skip
                have c338' := c338
                rw [← Int32.toInt_inj] at c338'
                refine y_if (fun c339 => ?_) (fun c339 => ?_)
                · skip
                  have e340 : (100 : Int32).toInt = 100 := rfl
                  have c339' := c339
                  rw [← Int32.toInt_inj] at c339'
                  refine y_bi (y_X9_full) (fun s_11 h_s_11 => ?_)
                  obtain ⟨h0_s_11, h1_s_11⟩ := h_s_11
                  refine y_some ?_
                  try dsimp only
                  have e341 : (1 : Int32).toInt = 1 := rfl
                  refine y_some ?_
                  try dsimp only
                  refine ⟨?_, ?_, ?_, ?_⟩ <;> (first | with_reducible rfl | with_reducible assumption | omega | (exfalso; omega) | (exact y_TK_shape hTK (by omega) (by omega)))
                · skip
                  have e342 : (100 : Int32).toInt = 100 := rfl
                  have c339' := c339
                  rw [← Int32.toInt_inj] at c339'
                  refine y_gd (y_gdI (by omega) (by omega)) ?_
                  refine y_gd (y_gdI (by omega) (by omega)) ?_
                  refine y_gd (y_gdI (by omega) (by omega)) ?_
                  refine y_gd (y_gdI (by omega) (by omega)) ?_
                  refine y_some ?_
                  try dsimp only
                  have e343 : (1 : Int32).toInt = 1 := rfl
                  try have e344 := @y_addL v4_8 (1 : Int32) (1) rfl (by omega) (by omega)
                  try have e345 := @y_cl v4_8 (by omega)
                  try have e346 := @y_nb p3 (by omega) (by omega)
                  refine y_some ?_
                  try dsimp only
                  refine ⟨?_, ?_, ?_, ?_⟩ <;> (first | with_reducible rfl | with_reducible assumption | omega | (exfalso; omega) | (exact y_TK_shape hTK (by omega) (by omega)))
              · skip
                have c338' := c338
                rw [← Int32.toInt_inj] at c338'
                refine y_if (fun c347 => ?_) (fun c347 => ?_)
                · skip
                  have c347' : p2.toInt = -1 := (y_eqN rfl).mp c347
                  refine y_gd (y_gdI (by omega) (by omega)) ?_
                  refine y_if (fun c348 => ?_) (fun c348 => ?_)
                  · skip
                    try have e349 := @y_cl p1 (by omega)
                    have c348' := c348
                    rw [← Int32.toInt_inj] at c348'
                    refine y_if (fun c350 => ?_) (fun c350 => ?_)
                    · skip
                      have e351 : (100 : Int32).toInt = 100 := rfl
                      have c350' := c350
                      rw [← Int32.toInt_inj] at c350'
                      refine y_bi (y_X9_full) (fun s_21 h_s_21 => ?_)
                      obtain ⟨h0_s_21, h1_s_21⟩ := h_s_21
                      refine y_some ?_
                      try dsimp only
                      have e352 : (1 : Int32).toInt = 1 := rfl
                      refine y_some ?_
                      try dsimp only
                      refine ⟨?_, ?_, ?_, ?_⟩ <;> (first | with_reducible rfl | with_reducible assumption | omega | (exfalso; omega) | (exact y_TK_shape hTK (by omega) (by omega)))
                    · skip
                      have e353 : (100 : Int32).toInt = 100 := rfl
                      have c350' := c350
                      rw [← Int32.toInt_inj] at c350'
                      refine y_gd (y_gdI (by omega) (by omega)) ?_
                      refine y_gd (y_gdI (by omega) (by omega)) ?_
                      refine y_gd (y_gdI (by omega) (by omega)) ?_
                      refine y_gd (y_gdI (by omega) (by omega)) ?_
                      refine y_some ?_
                      try dsimp only
                      have e354 : (1 : Int32).toInt = 1 := rfl
                      try have e355 := @y_addL v4_8 (1 : Int32) (1) rfl (by omega) (by omega)
                      try have e356 := @y_cl v4_8 (by omega)
                      try have e357 := @y_nb p3 (by omega) (by omega)
                      refine y_some ?_
                      try dsimp only
                      refine ⟨?_, ?_, ?_, ?_⟩ <;> (first | with_reducible rfl | with_reducible assumption | omega | (exfalso; omega) | (exact y_TK_shape hTK (by omega) (by omega)))
                  · skip
                    try have e358 := @y_cl p1 (by omega)
                    have c348' := c348
                    rw [← Int32.toInt_inj] at c348'
                    refine y_bi (y_X9_bad) (fun s_22 h_s_22 => ?_)
                    obtain ⟨h0_s_22, h1_s_22⟩ := h_s_22
                    refine y_some ?_
                    try dsimp only
                    have e359 : (1 : Int32).toInt = 1 := rfl
                    refine y_some ?_
                    try dsimp only
                    refine ⟨?_, ?_, ?_, ?_⟩ <;> (first | with_reducible rfl | with_reducible assumption | omega | (exfalso; omega) | (exact y_TK_shape hTK (by omega) (by omega)))
                · skip
                  have c347' : ¬ p2.toInt = -1 := fun hz => c347 ((y_eqN rfl).mpr hz)
                  refine y_bi (y_X9_bad) (fun s_13 h_s_13 => ?_)
                  obtain ⟨h0_s_13, h1_s_13⟩ := h_s_13
                  refine y_some ?_
                  try dsimp only
                  have e360 : (1 : Int32).toInt = 1 := rfl
                  refine y_some ?_
                  try dsimp only
                  refine ⟨?_, ?_, ?_, ?_⟩ <;> (first | with_reducible rfl | with_reducible assumption | omega | (exfalso; omega) | (exact y_TK_shape hTK (by omega) (by omega)))
            · skip
              have c337' : ¬ p2.toInt = -1 := fun hz => c337 ((y_eqN rfl).mpr hz)
              refine y_bi (y_X9_isType (by omega) (by omega)) (fun s_23 h_s_23 => ?_)
              have h0_s_23 : (s_23.toInt = 0 ∧ ¬ (0 ≤ p2.toInt ∧ p2.toInt < 16777216 ∧ (p2.toInt % 65536 < v7_2.toInt ∨ 65528 ≤ p2.toInt % 65536))) ∨ (s_23.toInt = 1 ∧ (0 ≤ p2.toInt ∧ p2.toInt < 16777216 ∧ (p2.toInt % 65536 < v7_2.toInt ∨ 65528 ≤ p2.toInt % 65536))) := h_s_23
              refine y_if (fun c361 => ?_) (fun c361 => ?_)
              · skip
                have c361' := c361
                rw [← Int32.toInt_inj] at c361'
                have e362 := y_or0 h0_s_23 c361'
                clear h0_s_23
                refine y_bi (y_X9_bad) (fun s_25 h_s_25 => ?_)
                obtain ⟨h0_s_25, h1_s_25⟩ := h_s_25
                refine y_some ?_
                try dsimp only
                have e363 : (1 : Int32).toInt = 1 := rfl
                refine y_some ?_
                try dsimp only
                refine ⟨?_, ?_, ?_, ?_⟩ <;> (first | with_reducible rfl | with_reducible assumption | omega | (exfalso; omega) | (exact y_TK_shape hTK (by omega) (by omega)))
              · skip
                have c361' := c361
                rw [← Int32.toInt_inj] at c361'
                have e364 := y_or1 h0_s_23 c361'
                clear h0_s_23
                refine y_if (fun c365 => ?_) (fun c365 => ?_)
                · skip
                  have c365' := c365
                  rw [← Int32.toInt_inj] at c365'
                  refine y_if (fun c366 => ?_) (fun c366 => ?_)
                  · skip
                    have e367 : (100 : Int32).toInt = 100 := rfl
                    have c366' := c366
                    rw [← Int32.toInt_inj] at c366'
                    refine y_bi (y_X9_full) (fun s_32 h_s_32 => ?_)
                    obtain ⟨h0_s_32, h1_s_32⟩ := h_s_32
                    refine y_some ?_
                    try dsimp only
                    have e368 : (1 : Int32).toInt = 1 := rfl
                    refine y_some ?_
                    try dsimp only
                    refine ⟨?_, ?_, ?_, ?_⟩ <;> (first | with_reducible rfl | with_reducible assumption | omega | (exfalso; omega) | (exact y_TK_shape hTK (by omega) (by omega)))
                  · skip
                    have e369 : (100 : Int32).toInt = 100 := rfl
                    have c366' := c366
                    rw [← Int32.toInt_inj] at c366'
                    refine y_gd (y_gdI (by omega) (by omega)) ?_
                    refine y_gd (y_gdI (by omega) (by omega)) ?_
                    refine y_gd (y_gdI (by omega) (by omega)) ?_
                    refine y_gd (y_gdI (by omega) (by omega)) ?_
                    refine y_some ?_
                    try dsimp only
                    have e370 : (1 : Int32).toInt = 1 := rfl
                    try have e371 := @y_addL v4_8 (1 : Int32) (1) rfl (by omega) (by omega)
                    try have e372 := @y_cl v4_8 (by omega)
                    try have e373 := @y_nb p3 (by omega) (by omega)
                    refine y_some ?_
                    try dsimp only
                    refine ⟨?_, ?_, ?_, ?_⟩ <;> (first | with_reducible rfl | with_reducible assumption | omega | (exfalso; omega) | (exact y_TK_shape hTK (by omega) (by omega)))
                · skip
                  have c365' := c365
                  rw [← Int32.toInt_inj] at c365'
                  refine y_if (fun c374 => ?_) (fun c374 => ?_)
                  · skip
                    have c374' : p2.toInt = -1 := (y_eqN rfl).mp c374
                    refine y_gd (y_gdI (by omega) (by omega)) ?_
                    refine y_if (fun c375 => ?_) (fun c375 => ?_)
                    · skip
                      try have e376 := @y_cl p1 (by omega)
                      have c375' := c375
                      rw [← Int32.toInt_inj] at c375'
                      refine y_if (fun c377 => ?_) (fun c377 => ?_)
                      · skip
                        have e378 : (100 : Int32).toInt = 100 := rfl
                        have c377' := c377
                        rw [← Int32.toInt_inj] at c377'
                        refine y_bi (y_X9_full) (fun s_42 h_s_42 => ?_)
                        obtain ⟨h0_s_42, h1_s_42⟩ := h_s_42
                        refine y_some ?_
                        try dsimp only
                        have e379 : (1 : Int32).toInt = 1 := rfl
                        refine y_some ?_
                        try dsimp only
                        refine ⟨?_, ?_, ?_, ?_⟩ <;> (first | with_reducible rfl | with_reducible assumption | omega | (exfalso; omega) | (exact y_TK_shape hTK (by omega) (by omega)))
                      · skip
                        have e380 : (100 : Int32).toInt = 100 := rfl
                        have c377' := c377
                        rw [← Int32.toInt_inj] at c377'
                        refine y_gd (y_gdI (by omega) (by omega)) ?_
                        refine y_gd (y_gdI (by omega) (by omega)) ?_
                        refine y_gd (y_gdI (by omega) (by omega)) ?_
                        refine y_gd (y_gdI (by omega) (by omega)) ?_
                        refine y_some ?_
                        try dsimp only
                        have e381 : (1 : Int32).toInt = 1 := rfl
                        try have e382 := @y_addL v4_8 (1 : Int32) (1) rfl (by omega) (by omega)
                        try have e383 := @y_cl v4_8 (by omega)
                        try have e384 := @y_nb p3 (by omega) (by omega)
                        refine y_some ?_
                        try dsimp only
                        refine ⟨?_, ?_, ?_, ?_⟩ <;> (first | with_reducible rfl | with_reducible assumption | omega | (exfalso; omega) | (exact y_TK_shape hTK (by omega) (by omega)))
                    · skip
                      try have e385 := @y_cl p1 (by omega)
                      have c375' := c375
                      rw [← Int32.toInt_inj] at c375'
                      refine y_bi (y_X9_bad) (fun s_43 h_s_43 => ?_)
                      obtain ⟨h0_s_43, h1_s_43⟩ := h_s_43
                      refine y_some ?_
                      try dsimp only
                      have e386 : (1 : Int32).toInt = 1 := rfl
                      refine y_some ?_
                      try dsimp only
                      refine ⟨?_, ?_, ?_, ?_⟩ <;> (first | with_reducible rfl | with_reducible assumption | omega | (exfalso; omega) | (exact y_TK_shape hTK (by omega) (by omega)))
                  · skip
                    have c374' : ¬ p2.toInt = -1 := fun hz => c374 ((y_eqN rfl).mpr hz)
                    refine y_bi (y_X9_bad) (fun s_34 h_s_34 => ?_)
                    obtain ⟨h0_s_34, h1_s_34⟩ := h_s_34
                    refine y_some ?_
                    try dsimp only
                    have e387 : (1 : Int32).toInt = 1 := rfl
                    refine y_some ?_
                    try dsimp only
                    refine ⟨?_, ?_, ?_, ?_⟩ <;> (first | with_reducible rfl | with_reducible assumption | omega | (exfalso; omega) | (exact y_TK_shape hTK (by omega) (by omega)))
set_option maxHeartbeats 4000000 in
theorem ex_takes {v7_2 : Int32} {v4_8 : Int32} {g4_6 : Nat → Int32} {g4_7 : Nat → Int32} {p1 : Int32} {v9_0 : Int32} {g9_10 : Nat → Int32} {g9_11 : Nat → Int32} (k0 : 4 ≤ v7_2.toInt) (k1 : v7_2.toInt ≤ 200) (k2 : 0 ≤ v4_8.toInt) (k3 : v4_8.toInt ≤ 100) (hkt : y_Rg 100 0 20 g4_7) (hTK : y_TK v4_8.toInt g4_7 g9_10) : y_Ok ((f_X8_takes v7_2 v4_8 g4_6 g4_7 p1) >>= (fun R => (f_X9_takes v9_0 v7_2 v4_8 g9_10 g9_11 p1) >>= (fun S => some (R.1, R.2.1, R.2.2.1, R.2.2.2, S.1, S.2.1, S.2.2.1, S.2.2.2)))) (fun r => (r.2.2.2.2.2.1.toInt = r.1.toInt) ∧ (¬ r.1.toInt = 0 ∨ r.2.1.toInt = r.2.2.2.2.1.toInt) ∧ (y_TK v4_8.toInt r.2.2.2.1 r.2.2.2.2.2.2.1)) := by
  have hs8 := @y_subL v4_8 1 1 rfl (by omega) (by omega)
  have hlE : v4_8.toInt ≤ 0 ∨ (g4_7 (Int32.toNatClampNeg (v4_8 - (1 : Int32)))) = g9_10 (Int32.toNatClampNeg (v4_8 - (1 : Int32))) := by by_cases hz : v4_8.toInt ≤ 0; exact Or.inl hz; exact Or.inr (hTK.at _ (by rw [y_cl (by omega)]; omega))
  have hlN : v4_8.toInt ≤ 0 ∨ (g4_7 (Int32.toNatClampNeg (v4_8 - (1 : Int32)))).toInt = (g9_10 (Int32.toNatClampNeg (v4_8 - (1 : Int32)))).toInt := hlE.imp id (fun h => by rw [h])
  have hl20 : v4_8.toInt ≤ 0 ∨ (0 ≤ (g4_7 (Int32.toNatClampNeg (v4_8 - (1 : Int32)))).toInt ∧ (g4_7 (Int32.toNatClampNeg (v4_8 - (1 : Int32)))).toInt ≤ 20) := by by_cases hz : v4_8.toInt ≤ 0; exact Or.inl hz; exact Or.inr (hkt.at _ (by have := @y_cl (v4_8 - (1 : Int32)) (by omega); omega))
  unfold f_X8_takes f_X9_takes
  refine y_bt ?_
  refine y_bi (y_X7_isType (by omega) (by omega)) (fun r_1 h_r_1 => ?_)
  have h0_r_1 : (r_1.toInt = 0 ∧ ¬ (0 ≤ p1.toInt ∧ p1.toInt < 16777216 ∧ (p1.toInt % 65536 < v7_2.toInt ∨ 65528 ≤ p1.toInt % 65536))) ∨ (r_1.toInt = 1 ∧ (0 ≤ p1.toInt ∧ p1.toInt < 16777216 ∧ (p1.toInt % 65536 < v7_2.toInt ∨ 65528 ≤ p1.toInt % 65536))) := h_r_1
  refine y_if (fun c1 => ?_) (fun c1 => ?_)
  · skip
    have e2 : (0 : Int32).toInt = 0 := rfl
    have c1' := c1
    rw [← Int32.toInt_inj] at c1'
    have e3 := y_or0 h0_r_1 c1'
    clear h0_r_1
    refine y_some ?_
    try dsimp only
    refine y_bt ?_
    refine y_bi (y_X9_isType (by omega) (by omega)) (fun s_1 h_s_1 => ?_)
    have h0_s_1 : (s_1.toInt = 0 ∧ ¬ (0 ≤ p1.toInt ∧ p1.toInt < 16777216 ∧ (p1.toInt % 65536 < v7_2.toInt ∨ 65528 ≤ p1.toInt % 65536))) ∨ (s_1.toInt = 1 ∧ (0 ≤ p1.toInt ∧ p1.toInt < 16777216 ∧ (p1.toInt % 65536 < v7_2.toInt ∨ 65528 ≤ p1.toInt % 65536))) := h_s_1
    refine y_if (fun c4 => ?_) (fun c4 => ?_)
    · skip
      have c4' := c4
      rw [← Int32.toInt_inj] at c4'
      have e5 := y_or0 h0_s_1 c4'
      clear h0_s_1
      refine y_bi (y_X9_bad) (fun s_13 h_s_13 => ?_)
      obtain ⟨h0_s_13, h1_s_13⟩ := h_s_13
      refine y_some ?_
      try dsimp only
      have e6 : (1 : Int32).toInt = 1 := rfl
      refine y_some ?_
      try dsimp only
      refine ⟨?_, ?_, ?_⟩ <;> (first | with_reducible rfl | with_reducible assumption | omega | (exfalso; omega) | (rw [h0_r_5, y_upd1, hlE.resolve_left (by omega)]; exact Or.inr rfl) | (rw [h1_r_5]; exact y_TK_takes hTK (by have := @y_cl (v4_8 - (1 : Int32)) (by omega); omega) (by rw [hlE.resolve_left (by omega)])))
    · skip
      have c4' := c4
      rw [← Int32.toInt_inj] at c4'
      have e7 := y_or1 h0_s_1 c4'
      clear h0_s_1
      refine y_if (fun c8 => ?_) (fun c8 => ?_)
      · skip
        have c8' := c8
        rw [← Int32.toInt_inj] at c8'
        refine y_bi (y_X9_full) (fun s_4 h_s_4 => ?_)
        obtain ⟨h0_s_4, h1_s_4⟩ := h_s_4
        refine y_some ?_
        try dsimp only
        have e9 : (1 : Int32).toInt = 1 := rfl
        refine y_some ?_
        try dsimp only
        refine ⟨?_, ?_, ?_⟩ <;> (first | with_reducible rfl | with_reducible assumption | omega | (exfalso; omega) | (rw [h0_r_5, y_upd1, hlE.resolve_left (by omega)]; exact Or.inr rfl) | (rw [h1_r_5]; exact y_TK_takes hTK (by have := @y_cl (v4_8 - (1 : Int32)) (by omega); omega) (by rw [hlE.resolve_left (by omega)])))
      · skip
        have c8' := c8
        rw [← Int32.toInt_inj] at c8'
        try have e10 := @y_subL v4_8 (1 : Int32) (1) rfl (by omega) (by omega)
        refine y_gd (y_gdI (by omega) (by omega)) ?_
        refine y_if (fun c11 => ?_) (fun c11 => ?_)
        · skip
          try have e12 := @y_cl (v4_8 - (1 : Int32)) (by omega)
          have e13 : (20 : Int32).toInt = 20 := rfl
          have c11' := c11
          rw [← Int32.toInt_inj] at c11'
          refine y_bi (y_X9_full) (fun s_12 h_s_12 => ?_)
          obtain ⟨h0_s_12, h1_s_12⟩ := h_s_12
          refine y_some ?_
          try dsimp only
          have e14 : (1 : Int32).toInt = 1 := rfl
          refine y_some ?_
          try dsimp only
          refine ⟨?_, ?_, ?_⟩ <;> (first | with_reducible rfl | with_reducible assumption | omega | (exfalso; omega) | (rw [h0_r_5, y_upd1, hlE.resolve_left (by omega)]; exact Or.inr rfl) | (rw [h1_r_5]; exact y_TK_takes hTK (by have := @y_cl (v4_8 - (1 : Int32)) (by omega); omega) (by rw [hlE.resolve_left (by omega)])))
        · skip
          try have e15 := @y_cl (v4_8 - (1 : Int32)) (by omega)
          have e16 : (20 : Int32).toInt = 20 := rfl
          have c11' := c11
          rw [← Int32.toInt_inj] at c11'
          refine y_gd (y_gdI (by omega) (by omega)) ?_
          try have e17 := @y_mulL (20 : Int32) (v4_8 - (1 : Int32)) 20 rfl (by omega) (by omega)
          try have e18 := @y_add ((20 : Int32) * (v4_8 - (1 : Int32))) (g9_10 (Int32.toNatClampNeg (v4_8 - (1 : Int32)))) (by omega) (by omega)
          refine y_gd (y_gdI (by omega) (by omega)) ?_
          refine y_gd (y_gdI (by omega) (by omega)) ?_
          refine y_gd (y_gdI (by omega) (by omega)) ?_
          refine y_gd (y_gdI (by omega) (by omega)) ?_
          refine y_some ?_
          try dsimp only
          have e19 : (1 : Int32).toInt = 1 := rfl
          try have e20 := @y_addL (g9_10 (Int32.toNatClampNeg (v4_8 - (1 : Int32)))) (1 : Int32) (1) rfl (by omega) (by omega)
          try have e21 := @y_cl (((20 : Int32) * (v4_8 - (1 : Int32))) + (g9_10 (Int32.toNatClampNeg (v4_8 - (1 : Int32))))) (by omega)
          refine y_some ?_
          try dsimp only
          refine ⟨?_, ?_, ?_⟩ <;> (first | with_reducible rfl | with_reducible assumption | omega | (exfalso; omega) | (rw [h0_r_5, y_upd1, hlE.resolve_left (by omega)]; exact Or.inr rfl) | (rw [h1_r_5]; exact y_TK_takes hTK (by have := @y_cl (v4_8 - (1 : Int32)) (by omega); omega) (by rw [hlE.resolve_left (by omega)])))
  · skip
    have e22 : (0 : Int32).toInt = 0 := rfl
    have c1' := c1
    rw [← Int32.toInt_inj] at c1'
    have e23 := y_or1 h0_r_1 c1'
    clear h0_r_1
    refine y_bi (ye_X4_canTakeMore (by omega) (by omega)) (fun r_3 h_r_3 => ?_)
    have h0_r_3 : (r_3.toInt = 0 ∧ (v4_8.toInt ≤ 0 ∨ 20 ≤ (g4_7 (Int32.toNatClampNeg (v4_8 - (1 : Int32)))).toInt)) ∨ (r_3.toInt = 1 ∧ 1 ≤ v4_8.toInt ∧ (g4_7 (Int32.toNatClampNeg (v4_8 - (1 : Int32)))).toInt < 20) := h_r_3
    refine y_if (fun c24 => ?_) (fun c24 => ?_)
    · skip
      have c24' := c24
      rw [← Int32.toInt_inj] at c24'
      refine y_some ?_
      try dsimp only
      refine y_bt ?_
      refine y_bi (y_X9_isType (by omega) (by omega)) (fun s_1 h_s_1 => ?_)
      have h0_s_1 : (s_1.toInt = 0 ∧ ¬ (0 ≤ p1.toInt ∧ p1.toInt < 16777216 ∧ (p1.toInt % 65536 < v7_2.toInt ∨ 65528 ≤ p1.toInt % 65536))) ∨ (s_1.toInt = 1 ∧ (0 ≤ p1.toInt ∧ p1.toInt < 16777216 ∧ (p1.toInt % 65536 < v7_2.toInt ∨ 65528 ≤ p1.toInt % 65536))) := h_s_1
      refine y_if (fun c25 => ?_) (fun c25 => ?_)
      · skip
        have c25' := c25
        rw [← Int32.toInt_inj] at c25'
        have e26 := y_or0 h0_s_1 c25'
        clear h0_s_1
        refine y_bi (y_X9_bad) (fun s_13 h_s_13 => ?_)
        obtain ⟨h0_s_13, h1_s_13⟩ := h_s_13
        refine y_some ?_
        try dsimp only
        have e27 : (2 : Int32).toInt = 2 := rfl
        refine y_some ?_
        try dsimp only
        refine ⟨?_, ?_, ?_⟩ <;> (first | with_reducible rfl | with_reducible assumption | omega | (exfalso; omega) | (rw [h0_r_5, y_upd1, hlE.resolve_left (by omega)]; exact Or.inr rfl) | (rw [h1_r_5]; exact y_TK_takes hTK (by have := @y_cl (v4_8 - (1 : Int32)) (by omega); omega) (by rw [hlE.resolve_left (by omega)])))
      · skip
        have c25' := c25
        rw [← Int32.toInt_inj] at c25'
        have e28 := y_or1 h0_s_1 c25'
        clear h0_s_1
        refine y_if (fun c29 => ?_) (fun c29 => ?_)
        · skip
          have c29' := c29
          rw [← Int32.toInt_inj] at c29'
          refine y_bi (y_X9_full) (fun s_4 h_s_4 => ?_)
          obtain ⟨h0_s_4, h1_s_4⟩ := h_s_4
          refine y_some ?_
          try dsimp only
          have e30 : (2 : Int32).toInt = 2 := rfl
          refine y_some ?_
          try dsimp only
          refine ⟨?_, ?_, ?_⟩ <;> (first | with_reducible rfl | with_reducible assumption | omega | (exfalso; omega) | (rw [h0_r_5, y_upd1, hlE.resolve_left (by omega)]; exact Or.inr rfl) | (rw [h1_r_5]; exact y_TK_takes hTK (by have := @y_cl (v4_8 - (1 : Int32)) (by omega); omega) (by rw [hlE.resolve_left (by omega)])))
        · skip
          have c29' := c29
          rw [← Int32.toInt_inj] at c29'
          try have e31 := @y_subL v4_8 (1 : Int32) (1) rfl (by omega) (by omega)
          refine y_gd (y_gdI (by omega) (by omega)) ?_
          refine y_if (fun c32 => ?_) (fun c32 => ?_)
          · skip
            try have e33 := @y_cl (v4_8 - (1 : Int32)) (by omega)
            have e34 : (20 : Int32).toInt = 20 := rfl
            have c32' := c32
            rw [← Int32.toInt_inj] at c32'
            refine y_bi (y_X9_full) (fun s_12 h_s_12 => ?_)
            obtain ⟨h0_s_12, h1_s_12⟩ := h_s_12
            refine y_some ?_
            try dsimp only
            have e35 : (2 : Int32).toInt = 2 := rfl
            refine y_some ?_
            try dsimp only
            refine ⟨?_, ?_, ?_⟩ <;> (first | with_reducible rfl | with_reducible assumption | omega | (exfalso; omega) | (rw [h0_r_5, y_upd1, hlE.resolve_left (by omega)]; exact Or.inr rfl) | (rw [h1_r_5]; exact y_TK_takes hTK (by have := @y_cl (v4_8 - (1 : Int32)) (by omega); omega) (by rw [hlE.resolve_left (by omega)])))
          · skip
            try have e36 := @y_cl (v4_8 - (1 : Int32)) (by omega)
            have e37 : (20 : Int32).toInt = 20 := rfl
            have c32' := c32
            rw [← Int32.toInt_inj] at c32'
            refine y_gd (y_gdI (by omega) (by omega)) ?_
            try have e38 := @y_mulL (20 : Int32) (v4_8 - (1 : Int32)) 20 rfl (by omega) (by omega)
            try have e39 := @y_add ((20 : Int32) * (v4_8 - (1 : Int32))) (g9_10 (Int32.toNatClampNeg (v4_8 - (1 : Int32)))) (by omega) (by omega)
            refine y_gd (y_gdI (by omega) (by omega)) ?_
            refine y_gd (y_gdI (by omega) (by omega)) ?_
            refine y_gd (y_gdI (by omega) (by omega)) ?_
            refine y_gd (y_gdI (by omega) (by omega)) ?_
            refine y_some ?_
            try dsimp only
            have e40 : (2 : Int32).toInt = 2 := rfl
            try have e41 := @y_addL (g9_10 (Int32.toNatClampNeg (v4_8 - (1 : Int32)))) (1 : Int32) (1) rfl (by omega) (by omega)
            try have e42 := @y_cl (((20 : Int32) * (v4_8 - (1 : Int32))) + (g9_10 (Int32.toNatClampNeg (v4_8 - (1 : Int32))))) (by omega)
            refine y_some ?_
            try dsimp only
            refine ⟨?_, ?_, ?_⟩ <;> (first | with_reducible rfl | with_reducible assumption | omega | (exfalso; omega) | (rw [h0_r_5, y_upd1, hlE.resolve_left (by omega)]; exact Or.inr rfl) | (rw [h1_r_5]; exact y_TK_takes hTK (by have := @y_cl (v4_8 - (1 : Int32)) (by omega); omega) (by rw [hlE.resolve_left (by omega)])))
    · skip
      have c24' := c24
      rw [← Int32.toInt_inj] at c24'
      refine y_bi (ye_X4_takeMore (by omega) (by omega) (by first | with_reducible rfl | with_reducible assumption | omega | (exfalso; omega) | (rw [h0_r_5, y_upd1, hlE.resolve_left (by omega)]; exact Or.inr rfl) | (rw [h1_r_5]; exact y_TK_takes hTK (by have := @y_cl (v4_8 - (1 : Int32)) (by omega); omega) (by rw [hlE.resolve_left (by omega)]))) (by omega) (by omega)) (fun r_5 h_r_5 => ?_)
      obtain ⟨h0_r_5, h1_r_5⟩ := h_r_5
      refine y_some ?_
      try dsimp only
      refine y_bt ?_
      refine y_bi (y_X9_isType (by omega) (by omega)) (fun s_1 h_s_1 => ?_)
      have h0_s_1 : (s_1.toInt = 0 ∧ ¬ (0 ≤ p1.toInt ∧ p1.toInt < 16777216 ∧ (p1.toInt % 65536 < v7_2.toInt ∨ 65528 ≤ p1.toInt % 65536))) ∨ (s_1.toInt = 1 ∧ (0 ≤ p1.toInt ∧ p1.toInt < 16777216 ∧ (p1.toInt % 65536 < v7_2.toInt ∨ 65528 ≤ p1.toInt % 65536))) := h_s_1
      refine y_if (fun c43 => ?_) (fun c43 => ?_)
      · skip
        have c43' := c43
        rw [← Int32.toInt_inj] at c43'
        have e44 := y_or0 h0_s_1 c43'
        clear h0_s_1
        refine y_bi (y_X9_bad) (fun s_13 h_s_13 => ?_)
        obtain ⟨h0_s_13, h1_s_13⟩ := h_s_13
        refine y_some ?_
        try dsimp only
        refine y_some ?_
        try dsimp only
        refine ⟨?_, ?_, ?_⟩ <;> (first | with_reducible rfl | with_reducible assumption | omega | (exfalso; omega) | (rw [h0_r_5, y_upd1, hlE.resolve_left (by omega)]; exact Or.inr rfl) | (rw [h1_r_5]; exact y_TK_takes hTK (by have := @y_cl (v4_8 - (1 : Int32)) (by omega); omega) (by rw [hlE.resolve_left (by omega)])))
      · skip
        have c43' := c43
        rw [← Int32.toInt_inj] at c43'
        have e45 := y_or1 h0_s_1 c43'
        clear h0_s_1
        refine y_if (fun c46 => ?_) (fun c46 => ?_)
        · skip
          have c46' := c46
          rw [← Int32.toInt_inj] at c46'
          refine y_bi (y_X9_full) (fun s_4 h_s_4 => ?_)
          obtain ⟨h0_s_4, h1_s_4⟩ := h_s_4
          refine y_some ?_
          try dsimp only
          refine y_some ?_
          try dsimp only
          refine ⟨?_, ?_, ?_⟩ <;> (first | with_reducible rfl | with_reducible assumption | omega | (exfalso; omega) | (rw [h0_r_5, y_upd1, hlE.resolve_left (by omega)]; exact Or.inr rfl) | (rw [h1_r_5]; exact y_TK_takes hTK (by have := @y_cl (v4_8 - (1 : Int32)) (by omega); omega) (by rw [hlE.resolve_left (by omega)])))
        · skip
          have c46' := c46
          rw [← Int32.toInt_inj] at c46'
          try have e47 := @y_subL v4_8 (1 : Int32) (1) rfl (by omega) (by omega)
          refine y_gd (y_gdI (by omega) (by omega)) ?_
          refine y_if (fun c48 => ?_) (fun c48 => ?_)
          · skip
            try have e49 := @y_cl (v4_8 - (1 : Int32)) (by omega)
            have e50 : (20 : Int32).toInt = 20 := rfl
            have c48' := c48
            rw [← Int32.toInt_inj] at c48'
            refine y_bi (y_X9_full) (fun s_12 h_s_12 => ?_)
            obtain ⟨h0_s_12, h1_s_12⟩ := h_s_12
            refine y_some ?_
            try dsimp only
            refine y_some ?_
            try dsimp only
            refine ⟨?_, ?_, ?_⟩ <;> (first | with_reducible rfl | with_reducible assumption | omega | (exfalso; omega) | (rw [h0_r_5, y_upd1, hlE.resolve_left (by omega)]; exact Or.inr rfl) | (rw [h1_r_5]; exact y_TK_takes hTK (by have := @y_cl (v4_8 - (1 : Int32)) (by omega); omega) (by rw [hlE.resolve_left (by omega)])))
          · skip
            try have e51 := @y_cl (v4_8 - (1 : Int32)) (by omega)
            have e52 : (20 : Int32).toInt = 20 := rfl
            have c48' := c48
            rw [← Int32.toInt_inj] at c48'
            refine y_gd (y_gdI (by omega) (by omega)) ?_
            try have e53 := @y_mulL (20 : Int32) (v4_8 - (1 : Int32)) 20 rfl (by omega) (by omega)
            try have e54 := @y_add ((20 : Int32) * (v4_8 - (1 : Int32))) (g9_10 (Int32.toNatClampNeg (v4_8 - (1 : Int32)))) (by omega) (by omega)
            refine y_gd (y_gdI (by omega) (by omega)) ?_
            refine y_gd (y_gdI (by omega) (by omega)) ?_
            refine y_gd (y_gdI (by omega) (by omega)) ?_
            refine y_gd (y_gdI (by omega) (by omega)) ?_
            refine y_some ?_
            try dsimp only
            try have e55 := @y_addL (g9_10 (Int32.toNatClampNeg (v4_8 - (1 : Int32)))) (1 : Int32) (1) rfl (by omega) (by omega)
            try have e56 := @y_cl (((20 : Int32) * (v4_8 - (1 : Int32))) + (g9_10 (Int32.toNatClampNeg (v4_8 - (1 : Int32))))) (by omega)
            refine y_some ?_
            try dsimp only
            refine ⟨?_, ?_, ?_⟩ <;> (first | with_reducible rfl | with_reducible assumption | omega | (exfalso; omega) | (rw [h0_r_5, y_upd1, hlE.resolve_left (by omega)]; exact Or.inr rfl) | (rw [h1_r_5]; exact y_TK_takes hTK (by have := @y_cl (v4_8 - (1 : Int32)) (by omega); omega) (by rw [hlE.resolve_left (by omega)])))
set_option maxHeartbeats 4000000 in
theorem ex_method {v7_2 : Int32} {g7_1 : Nat → Int32} {v0_0 : Int32} {v0_1 : Int32} {v0_2 : Int32} {v0_3 : Int32} {v0_4 : Int32} {v0_6 : Int32} {v0_10 : Int32} {v0_15 : Int32} {p1 : Int32} {p2 : Int32} {p3 : Int32} {p4 : Int32} {p5 : Int32} {v9_0 : Int32} {v9_13 : Int32} {v9_14 : Int32} {v9_15 : Int32} {v9_16 : Int32} {v9_17 : Int32} {v9_20 : Int32} {v9_22 : Int32} (k0 : 4 ≤ v7_2.toInt) (k1 : v7_2.toInt ≤ 200) : y_Ok ((f_X8_method v7_2 g7_1 v0_0 v0_1 v0_2 v0_3 v0_4 v0_6 v0_10 v0_15 p1 p2 p3 p4 p5) >>= (fun R => (f_X9_method v9_0 v7_2 v9_13 v9_14 v9_15 v9_16 v9_17 v0_6 v9_20 v0_15 v9_22 g7_1 p1 p2 p3 p4 p5) >>= (fun S => some (R.1, R.2.1, R.2.2.1, R.2.2.2.1, R.2.2.2.2.1, R.2.2.2.2.2.1, R.2.2.2.2.2.2.1, R.2.2.2.2.2.2.2.1, R.2.2.2.2.2.2.2.2.1, R.2.2.2.2.2.2.2.2.2, S.1, S.2.1, S.2.2.1, S.2.2.2.1, S.2.2.2.2.1, S.2.2.2.2.2.1, S.2.2.2.2.2.2.1, S.2.2.2.2.2.2.2.1, S.2.2.2.2.2.2.2.2.1, S.2.2.2.2.2.2.2.2.2.1, S.2.2.2.2.2.2.2.2.2.2)))) (fun r => (r.2.2.2.2.2.2.2.2.2.2.2.1.toInt = r.1.toInt) ∧ (¬ r.1.toInt = 0 ∨ r.2.1.toInt = r.2.2.2.2.2.2.2.2.2.2.1.toInt) ∧ (r.2.2.2.2.2.2.2.1.toInt = r.2.2.2.2.2.2.2.2.2.2.2.2.2.2.2.2.2.1.toInt) ∧ (r.2.2.2.2.2.2.2.2.2.1.toInt = r.2.2.2.2.2.2.2.2.2.2.2.2.2.2.2.2.2.2.2.1.toInt) ∧ (¬ r.1.toInt = 0 ∨ r.2.2.2.2.2.2.2.2.1.toInt = 0) ∧ (¬ r.1.toInt = 0 ∨ r.2.2.2.2.2.2.2.2.2.2.2.2.2.2.2.2.2.2.1.toInt = 0) ∧ (r.1.toInt = 0 ∨ r.2.2.2.2.2.2.2.2.1 = v0_10) ∧ (r.1.toInt = 0 ∨ r.2.2.2.2.2.2.2.2.2.2.2.2.2.2.2.2.2.2.1 = v9_20)) := by
  unfold f_X8_method f_X9_method
  refine y_bt ?_
  refine y_bi (y_X7_isClass) (fun r_1 h_r_1 => ?_)
  have h0_r_1 : (r_1.toInt = 0 ∧ ¬ (0 ≤ p1.toInt ∧ p1.toInt < v7_2.toInt)) ∨ (r_1.toInt = 1 ∧ (0 ≤ p1.toInt ∧ p1.toInt < v7_2.toInt)) := h_r_1
  refine y_if (fun c1 => ?_) (fun c1 => ?_)
  · skip
    have e2 : (0 : Int32).toInt = 0 := rfl
    have c1' := c1
    rw [← Int32.toInt_inj] at c1'
    have e3 := y_or0 h0_r_1 c1'
    clear h0_r_1
    refine y_some ?_
    try dsimp only
    refine y_bt ?_
    refine y_bi (y_X9_isClass) (fun s_1 h_s_1 => ?_)
    have h0_s_1 : (s_1.toInt = 0 ∧ ¬ (0 ≤ p1.toInt ∧ p1.toInt < v7_2.toInt)) ∨ (s_1.toInt = 1 ∧ (0 ≤ p1.toInt ∧ p1.toInt < v7_2.toInt)) := h_s_1
    refine y_if (fun c4 => ?_) (fun c4 => ?_)
    · skip
      have c4' := c4
      rw [← Int32.toInt_inj] at c4'
      have e5 := y_or0 h0_s_1 c4'
      clear h0_s_1
      refine y_bi (y_X9_bad) (fun s_3 h_s_3 => ?_)
      obtain ⟨h0_s_3, h1_s_3⟩ := h_s_3
      refine y_some ?_
      try dsimp only
      have e6 : (1 : Int32).toInt = 1 := rfl
      refine y_some ?_
      try dsimp only
      refine ⟨?_, ?_, ?_, ?_, ?_, ?_, ?_, ?_⟩ <;> (first | with_reducible rfl | with_reducible assumption | omega | (exfalso; omega) | (exact Or.inr rfl) | (exact Or.inl (by omega)))
    · skip
      have c4' := c4
      rw [← Int32.toInt_inj] at c4'
      have e7 := y_or1 h0_s_1 c4'
      clear h0_s_1
      refine y_if (fun c8 => ?_) (fun c8 => ?_)
      · skip
        have c8' := c8
        rw [Int32.lt_iff_toInt_lt] at c8'
        refine y_bi (y_X9_bad) (fun s_5 h_s_5 => ?_)
        obtain ⟨h0_s_5, h1_s_5⟩ := h_s_5
        refine y_some ?_
        try dsimp only
        have e9 : (1 : Int32).toInt = 1 := rfl
        refine y_some ?_
        try dsimp only
        refine ⟨?_, ?_, ?_, ?_, ?_, ?_, ?_, ?_⟩ <;> (first | with_reducible rfl | with_reducible assumption | omega | (exfalso; omega) | (exact Or.inr rfl) | (exact Or.inl (by omega)))
      · skip
        have c8' := c8
        rw [Int32.lt_iff_toInt_lt] at c8'
        refine y_if (fun c10 => ?_) (fun c10 => ?_)
        · skip
          have e11 : (2 : Int32).toInt = 2 := rfl
          have c10' := c10
          rw [Int32.lt_iff_toInt_lt] at c10'
          refine y_bi (y_X9_bad) (fun s_7 h_s_7 => ?_)
          obtain ⟨h0_s_7, h1_s_7⟩ := h_s_7
          refine y_some ?_
          try dsimp only
          have e12 : (1 : Int32).toInt = 1 := rfl
          refine y_some ?_
          try dsimp only
          refine ⟨?_, ?_, ?_, ?_, ?_, ?_, ?_, ?_⟩ <;> (first | with_reducible rfl | with_reducible assumption | omega | (exfalso; omega) | (exact Or.inr rfl) | (exact Or.inl (by omega)))
        · skip
          have e13 : (2 : Int32).toInt = 2 := rfl
          have c10' := c10
          rw [Int32.lt_iff_toInt_lt] at c10'
          refine y_if (fun c14 => ?_) (fun c14 => ?_)
          · skip
            have c14' : p3.toInt = -1 := (y_eqN rfl).mp c14
            refine y_if (fun c15 => ?_) (fun c15 => ?_)
            · skip
              have c15' := c15
              rw [← Int32.toInt_inj] at c15'
              refine y_gd (y_gdI (by omega) (by omega)) ?_
              refine y_if (fun c16 => ?_) (fun c16 => ?_)
              · skip
                try have e17 := @y_cl p1 (by omega)
                have c16' := c16
                rw [← Int32.toInt_inj] at c16'
                refine y_if (fun c18 => ?_) (fun c18 => ?_)
                · skip
                  have c18' := c18
                  rw [Int32.lt_iff_toInt_lt] at c18'
                  refine y_bi (y_X9_bad) (fun s_22 h_s_22 => ?_)
                  obtain ⟨h0_s_22, h1_s_22⟩ := h_s_22
                  refine y_some ?_
                  try dsimp only
                  have e19 : (1 : Int32).toInt = 1 := rfl
                  refine y_some ?_
                  try dsimp only
                  refine ⟨?_, ?_, ?_, ?_, ?_, ?_, ?_, ?_⟩ <;> (first | with_reducible rfl | with_reducible assumption | omega | (exfalso; omega) | (exact Or.inr rfl) | (exact Or.inl (by omega)))
                · skip
                  have c18' := c18
                  rw [Int32.lt_iff_toInt_lt] at c18'
                  refine y_if (fun c20 => ?_) (fun c20 => ?_)
                  · skip
                    have e21 : (200 : Int32).toInt = 200 := rfl
                    have c20' := c20
                    rw [Int32.lt_iff_toInt_lt] at c20'
                    refine y_bi (y_X9_bad) (fun s_24 h_s_24 => ?_)
                    obtain ⟨h0_s_24, h1_s_24⟩ := h_s_24
                    refine y_some ?_
                    try dsimp only
                    have e22 : (1 : Int32).toInt = 1 := rfl
                    refine y_some ?_
                    try dsimp only
                    refine ⟨?_, ?_, ?_, ?_, ?_, ?_, ?_, ?_⟩ <;> (first | with_reducible rfl | with_reducible assumption | omega | (exfalso; omega) | (exact Or.inr rfl) | (exact Or.inl (by omega)))
                  · skip
                    have e23 : (200 : Int32).toInt = 200 := rfl
                    have c20' := c20
                    rw [Int32.lt_iff_toInt_lt] at c20'
                    refine y_if (fun c24 => ?_) (fun c24 => ?_)
                    · skip
                      have c24' := c24
                      rw [Int32.lt_iff_toInt_lt] at c24'
                      refine y_bi (y_X9_bad) (fun s_26 h_s_26 => ?_)
                      obtain ⟨h0_s_26, h1_s_26⟩ := h_s_26
                      refine y_some ?_
                      try dsimp only
                      have e25 : (1 : Int32).toInt = 1 := rfl
                      refine y_some ?_
                      try dsimp only
                      refine ⟨?_, ?_, ?_, ?_, ?_, ?_, ?_, ?_⟩ <;> (first | with_reducible rfl | with_reducible assumption | omega | (exfalso; omega) | (exact Or.inr rfl) | (exact Or.inl (by omega)))
                    · skip
                      have c24' := c24
                      rw [Int32.lt_iff_toInt_lt] at c24'
                      refine y_if (fun c26 => ?_) (fun c26 => ?_)
                      · skip
                        have c26' := c26
                        rw [Int32.le_iff_toInt_le] at c26'
                        refine y_some ?_
                        try dsimp only
                        have e27 : (1 : Int32).toInt = 1 := rfl
                        refine y_some ?_
                        try dsimp only
                        refine ⟨?_, ?_, ?_, ?_, ?_, ?_, ?_, ?_⟩ <;> (first | with_reducible rfl | with_reducible assumption | omega | (exfalso; omega) | (exact Or.inr rfl) | (exact Or.inl (by omega)))
                      · skip
                        have c26' := c26
                        rw [Int32.le_iff_toInt_le] at c26'
                        refine y_bi (y_X9_bad) (fun s_28 h_s_28 => ?_)
                        obtain ⟨h0_s_28, h1_s_28⟩ := h_s_28
                        refine y_some ?_
                        try dsimp only
                        have e28 : (1 : Int32).toInt = 1 := rfl
                        refine y_some ?_
                        try dsimp only
                        refine ⟨?_, ?_, ?_, ?_, ?_, ?_, ?_, ?_⟩ <;> (first | with_reducible rfl | with_reducible assumption | omega | (exfalso; omega) | (exact Or.inr rfl) | (exact Or.inl (by omega)))
              · skip
                try have e29 := @y_cl p1 (by omega)
                have c16' := c16
                rw [← Int32.toInt_inj] at c16'
                refine y_bi (y_X9_bad) (fun s_20 h_s_20 => ?_)
                obtain ⟨h0_s_20, h1_s_20⟩ := h_s_20
                refine y_some ?_
                try dsimp only
                have e30 : (1 : Int32).toInt = 1 := rfl
                refine y_some ?_
                try dsimp only
                refine ⟨?_, ?_, ?_, ?_, ?_, ?_, ?_, ?_⟩ <;> (first | with_reducible rfl | with_reducible assumption | omega | (exfalso; omega) | (exact Or.inr rfl) | (exact Or.inl (by omega)))
            · skip
              have c15' := c15
              rw [← Int32.toInt_inj] at c15'
              refine y_if (fun c31 => ?_) (fun c31 => ?_)
              · skip
                have c31' := c31
                rw [Int32.lt_iff_toInt_lt] at c31'
                refine y_bi (y_X9_bad) (fun s_11 h_s_11 => ?_)
                obtain ⟨h0_s_11, h1_s_11⟩ := h_s_11
                refine y_some ?_
                try dsimp only
                have e32 : (1 : Int32).toInt = 1 := rfl
                refine y_some ?_
                try dsimp only
                refine ⟨?_, ?_, ?_, ?_, ?_, ?_, ?_, ?_⟩ <;> (first | with_reducible rfl | with_reducible assumption | omega | (exfalso; omega) | (exact Or.inr rfl) | (exact Or.inl (by omega)))
              · skip
                have c31' := c31
                rw [Int32.lt_iff_toInt_lt] at c31'
                refine y_if (fun c33 => ?_) (fun c33 => ?_)
                · skip
                  have e34 : (200 : Int32).toInt = 200 := rfl
                  have c33' := c33
                  rw [Int32.lt_iff_toInt_lt] at c33'
                  refine y_bi (y_X9_bad) (fun s_13 h_s_13 => ?_)
                  obtain ⟨h0_s_13, h1_s_13⟩ := h_s_13
                  refine y_some ?_
                  try dsimp only
                  have e35 : (1 : Int32).toInt = 1 := rfl
                  refine y_some ?_
                  try dsimp only
                  refine ⟨?_, ?_, ?_, ?_, ?_, ?_, ?_, ?_⟩ <;> (first | with_reducible rfl | with_reducible assumption | omega | (exfalso; omega) | (exact Or.inr rfl) | (exact Or.inl (by omega)))
                · skip
                  have e36 : (200 : Int32).toInt = 200 := rfl
                  have c33' := c33
                  rw [Int32.lt_iff_toInt_lt] at c33'
                  refine y_if (fun c37 => ?_) (fun c37 => ?_)
                  · skip
                    have c37' := c37
                    rw [Int32.lt_iff_toInt_lt] at c37'
                    refine y_bi (y_X9_bad) (fun s_15 h_s_15 => ?_)
                    obtain ⟨h0_s_15, h1_s_15⟩ := h_s_15
                    refine y_some ?_
                    try dsimp only
                    have e38 : (1 : Int32).toInt = 1 := rfl
                    refine y_some ?_
                    try dsimp only
                    refine ⟨?_, ?_, ?_, ?_, ?_, ?_, ?_, ?_⟩ <;> (first | with_reducible rfl | with_reducible assumption | omega | (exfalso; omega) | (exact Or.inr rfl) | (exact Or.inl (by omega)))
                  · skip
                    have c37' := c37
                    rw [Int32.lt_iff_toInt_lt] at c37'
                    refine y_if (fun c39 => ?_) (fun c39 => ?_)
                    · skip
                      have c39' := c39
                      rw [Int32.le_iff_toInt_le] at c39'
                      refine y_some ?_
                      try dsimp only
                      have e40 : (1 : Int32).toInt = 1 := rfl
                      refine y_some ?_
                      try dsimp only
                      refine ⟨?_, ?_, ?_, ?_, ?_, ?_, ?_, ?_⟩ <;> (first | with_reducible rfl | with_reducible assumption | omega | (exfalso; omega) | (exact Or.inr rfl) | (exact Or.inl (by omega)))
                    · skip
                      have c39' := c39
                      rw [Int32.le_iff_toInt_le] at c39'
                      refine y_bi (y_X9_bad) (fun s_17 h_s_17 => ?_)
                      obtain ⟨h0_s_17, h1_s_17⟩ := h_s_17
                      refine y_some ?_
                      try dsimp only
                      have e41 : (1 : Int32).toInt = 1 := rfl
                      refine y_some ?_
                      try dsimp only
                      refine ⟨?_, ?_, ?_, ?_, ?_, ?_, ?_, ?_⟩ <;> (first | with_reducible rfl | with_reducible assumption | omega | (exfalso; omega) | (exact Or.inr rfl) | (exact Or.inl (by omega)))
          · skip
            have c14' : ¬ p3.toInt = -1 := fun hz => c14 ((y_eqN rfl).mpr hz)
            refine y_bi (y_X9_isType (by omega) (by omega)) (fun s_29 h_s_29 => ?_)
            have h0_s_29 : (s_29.toInt = 0 ∧ ¬ (0 ≤ p3.toInt ∧ p3.toInt < 16777216 ∧ (p3.toInt % 65536 < v7_2.toInt ∨ 65528 ≤ p3.toInt % 65536))) ∨ (s_29.toInt = 1 ∧ (0 ≤ p3.toInt ∧ p3.toInt < 16777216 ∧ (p3.toInt % 65536 < v7_2.toInt ∨ 65528 ≤ p3.toInt % 65536))) := h_s_29
            refine y_if (fun c42 => ?_) (fun c42 => ?_)
            · skip
              have c42' := c42
              rw [← Int32.toInt_inj] at c42'
              have e43 := y_or0 h0_s_29 c42'
              clear h0_s_29
              refine y_bi (y_X9_bad) (fun s_31 h_s_31 => ?_)
              obtain ⟨h0_s_31, h1_s_31⟩ := h_s_31
              refine y_some ?_
              try dsimp only
              have e44 : (1 : Int32).toInt = 1 := rfl
              refine y_some ?_
              try dsimp only
              refine ⟨?_, ?_, ?_, ?_, ?_, ?_, ?_, ?_⟩ <;> (first | with_reducible rfl | with_reducible assumption | omega | (exfalso; omega) | (exact Or.inr rfl) | (exact Or.inl (by omega)))
            · skip
              have c42' := c42
              rw [← Int32.toInt_inj] at c42'
              have e45 := y_or1 h0_s_29 c42'
              clear h0_s_29
              refine y_if (fun c46 => ?_) (fun c46 => ?_)
              · skip
                have c46' := c46
                rw [← Int32.toInt_inj] at c46'
                refine y_bi (y_X9_bad) (fun s_33 h_s_33 => ?_)
                obtain ⟨h0_s_33, h1_s_33⟩ := h_s_33
                refine y_some ?_
                try dsimp only
                have e47 : (1 : Int32).toInt = 1 := rfl
                refine y_some ?_
                try dsimp only
                refine ⟨?_, ?_, ?_, ?_, ?_, ?_, ?_, ?_⟩ <;> (first | with_reducible rfl | with_reducible assumption | omega | (exfalso; omega) | (exact Or.inr rfl) | (exact Or.inl (by omega)))
              · skip
                have c46' := c46
                rw [← Int32.toInt_inj] at c46'
                refine y_if (fun c48 => ?_) (fun c48 => ?_)
                · skip
                  have c48' := c48
                  rw [← Int32.toInt_inj] at c48'
                  refine y_gd (y_gdI (by omega) (by omega)) ?_
                  refine y_if (fun c49 => ?_) (fun c49 => ?_)
                  · skip
                    try have e50 := @y_cl p1 (by omega)
                    have c49' := c49
                    rw [← Int32.toInt_inj] at c49'
                    refine y_if (fun c51 => ?_) (fun c51 => ?_)
                    · skip
                      have c51' := c51
                      rw [Int32.lt_iff_toInt_lt] at c51'
                      refine y_bi (y_X9_bad) (fun s_47 h_s_47 => ?_)
                      obtain ⟨h0_s_47, h1_s_47⟩ := h_s_47
                      refine y_some ?_
                      try dsimp only
                      have e52 : (1 : Int32).toInt = 1 := rfl
                      refine y_some ?_
                      try dsimp only
                      refine ⟨?_, ?_, ?_, ?_, ?_, ?_, ?_, ?_⟩ <;> (first | with_reducible rfl | with_reducible assumption | omega | (exfalso; omega) | (exact Or.inr rfl) | (exact Or.inl (by omega)))
                    · skip
                      have c51' := c51
                      rw [Int32.lt_iff_toInt_lt] at c51'
                      refine y_if (fun c53 => ?_) (fun c53 => ?_)
                      · skip
                        have e54 : (200 : Int32).toInt = 200 := rfl
                        have c53' := c53
                        rw [Int32.lt_iff_toInt_lt] at c53'
                        refine y_bi (y_X9_bad) (fun s_49 h_s_49 => ?_)
                        obtain ⟨h0_s_49, h1_s_49⟩ := h_s_49
                        refine y_some ?_
                        try dsimp only
                        have e55 : (1 : Int32).toInt = 1 := rfl
                        refine y_some ?_
                        try dsimp only
                        refine ⟨?_, ?_, ?_, ?_, ?_, ?_, ?_, ?_⟩ <;> (first | with_reducible rfl | with_reducible assumption | omega | (exfalso; omega) | (exact Or.inr rfl) | (exact Or.inl (by omega)))
                      · skip
                        have e56 : (200 : Int32).toInt = 200 := rfl
                        have c53' := c53
                        rw [Int32.lt_iff_toInt_lt] at c53'
                        refine y_if (fun c57 => ?_) (fun c57 => ?_)
                        · skip
                          have c57' := c57
                          rw [Int32.lt_iff_toInt_lt] at c57'
                          refine y_bi (y_X9_bad) (fun s_51 h_s_51 => ?_)
                          obtain ⟨h0_s_51, h1_s_51⟩ := h_s_51
                          refine y_some ?_
                          try dsimp only
                          have e58 : (1 : Int32).toInt = 1 := rfl
                          refine y_some ?_
                          try dsimp only
                          refine ⟨?_, ?_, ?_, ?_, ?_, ?_, ?_, ?_⟩ <;> (first | with_reducible rfl | with_reducible assumption | omega | (exfalso; omega) | (exact Or.inr rfl) | (exact Or.inl (by omega)))
                        · skip
                          have c57' := c57
                          rw [Int32.lt_iff_toInt_lt] at c57'
                          refine y_if (fun c59 => ?_) (fun c59 => ?_)
                          · skip
                            have c59' := c59
                            rw [Int32.le_iff_toInt_le] at c59'
                            refine y_some ?_
                            try dsimp only
                            have e60 : (1 : Int32).toInt = 1 := rfl
                            refine y_some ?_
                            try dsimp only
                            refine ⟨?_, ?_, ?_, ?_, ?_, ?_, ?_, ?_⟩ <;> (first | with_reducible rfl | with_reducible assumption | omega | (exfalso; omega) | (exact Or.inr rfl) | (exact Or.inl (by omega)))
                          · skip
                            have c59' := c59
                            rw [Int32.le_iff_toInt_le] at c59'
                            refine y_bi (y_X9_bad) (fun s_53 h_s_53 => ?_)
                            obtain ⟨h0_s_53, h1_s_53⟩ := h_s_53
                            refine y_some ?_
                            try dsimp only
                            have e61 : (1 : Int32).toInt = 1 := rfl
                            refine y_some ?_
                            try dsimp only
                            refine ⟨?_, ?_, ?_, ?_, ?_, ?_, ?_, ?_⟩ <;> (first | with_reducible rfl | with_reducible assumption | omega | (exfalso; omega) | (exact Or.inr rfl) | (exact Or.inl (by omega)))
                  · skip
                    try have e62 := @y_cl p1 (by omega)
                    have c49' := c49
                    rw [← Int32.toInt_inj] at c49'
                    refine y_bi (y_X9_bad) (fun s_45 h_s_45 => ?_)
                    obtain ⟨h0_s_45, h1_s_45⟩ := h_s_45
                    refine y_some ?_
                    try dsimp only
                    have e63 : (1 : Int32).toInt = 1 := rfl
                    refine y_some ?_
                    try dsimp only
                    refine ⟨?_, ?_, ?_, ?_, ?_, ?_, ?_, ?_⟩ <;> (first | with_reducible rfl | with_reducible assumption | omega | (exfalso; omega) | (exact Or.inr rfl) | (exact Or.inl (by omega)))
                · skip
                  have c48' := c48
                  rw [← Int32.toInt_inj] at c48'
                  refine y_if (fun c64 => ?_) (fun c64 => ?_)
                  · skip
                    have c64' := c64
                    rw [Int32.lt_iff_toInt_lt] at c64'
                    refine y_bi (y_X9_bad) (fun s_36 h_s_36 => ?_)
                    obtain ⟨h0_s_36, h1_s_36⟩ := h_s_36
                    refine y_some ?_
                    try dsimp only
                    have e65 : (1 : Int32).toInt = 1 := rfl
                    refine y_some ?_
                    try dsimp only
                    refine ⟨?_, ?_, ?_, ?_, ?_, ?_, ?_, ?_⟩ <;> (first | with_reducible rfl | with_reducible assumption | omega | (exfalso; omega) | (exact Or.inr rfl) | (exact Or.inl (by omega)))
                  · skip
                    have c64' := c64
                    rw [Int32.lt_iff_toInt_lt] at c64'
                    refine y_if (fun c66 => ?_) (fun c66 => ?_)
                    · skip
                      have e67 : (200 : Int32).toInt = 200 := rfl
                      have c66' := c66
                      rw [Int32.lt_iff_toInt_lt] at c66'
                      refine y_bi (y_X9_bad) (fun s_38 h_s_38 => ?_)
                      obtain ⟨h0_s_38, h1_s_38⟩ := h_s_38
                      refine y_some ?_
                      try dsimp only
                      have e68 : (1 : Int32).toInt = 1 := rfl
                      refine y_some ?_
                      try dsimp only
                      refine ⟨?_, ?_, ?_, ?_, ?_, ?_, ?_, ?_⟩ <;> (first | with_reducible rfl | with_reducible assumption | omega | (exfalso; omega) | (exact Or.inr rfl) | (exact Or.inl (by omega)))
                    · skip
                      have e69 : (200 : Int32).toInt = 200 := rfl
                      have c66' := c66
                      rw [Int32.lt_iff_toInt_lt] at c66'
                      refine y_if (fun c70 => ?_) (fun c70 => ?_)
                      · skip
                        have c70' := c70
                        rw [Int32.lt_iff_toInt_lt] at c70'
                        refine y_bi (y_X9_bad) (fun s_40 h_s_40 => ?_)
                        obtain ⟨h0_s_40, h1_s_40⟩ := h_s_40
                        refine y_some ?_
                        try dsimp only
                        have e71 : (1 : Int32).toInt = 1 := rfl
                        refine y_some ?_
                        try dsimp only
                        refine ⟨?_, ?_, ?_, ?_, ?_, ?_, ?_, ?_⟩ <;> (first | with_reducible rfl | with_reducible assumption | omega | (exfalso; omega) | (exact Or.inr rfl) | (exact Or.inl (by omega)))
                      · skip
                        have c70' := c70
                        rw [Int32.lt_iff_toInt_lt] at c70'
                        refine y_if (fun c72 => ?_) (fun c72 => ?_)
                        · skip
                          have c72' := c72
                          rw [Int32.le_iff_toInt_le] at c72'
                          refine y_some ?_
                          try dsimp only
                          have e73 : (1 : Int32).toInt = 1 := rfl
                          refine y_some ?_
                          try dsimp only
                          refine ⟨?_, ?_, ?_, ?_, ?_, ?_, ?_, ?_⟩ <;> (first | with_reducible rfl | with_reducible assumption | omega | (exfalso; omega) | (exact Or.inr rfl) | (exact Or.inl (by omega)))
                        · skip
                          have c72' := c72
                          rw [Int32.le_iff_toInt_le] at c72'
                          refine y_bi (y_X9_bad) (fun s_42 h_s_42 => ?_)
                          obtain ⟨h0_s_42, h1_s_42⟩ := h_s_42
                          refine y_some ?_
                          try dsimp only
                          have e74 : (1 : Int32).toInt = 1 := rfl
                          refine y_some ?_
                          try dsimp only
                          refine ⟨?_, ?_, ?_, ?_, ?_, ?_, ?_, ?_⟩ <;> (first | with_reducible rfl | with_reducible assumption | omega | (exfalso; omega) | (exact Or.inr rfl) | (exact Or.inl (by omega)))
  · skip
    have e75 : (0 : Int32).toInt = 0 := rfl
    have c1' := c1
    rw [← Int32.toInt_inj] at c1'
    have e76 := y_or1 h0_r_1 c1'
    clear h0_r_1
    refine y_if (fun c77 => ?_) (fun c77 => ?_)
    · skip
      have c77' := c77
      rw [Int32.lt_iff_toInt_lt] at c77'
      refine y_some ?_
      try dsimp only
      refine y_bt ?_
      refine y_bi (y_X9_isClass) (fun s_1 h_s_1 => ?_)
      have h0_s_1 : (s_1.toInt = 0 ∧ ¬ (0 ≤ p1.toInt ∧ p1.toInt < v7_2.toInt)) ∨ (s_1.toInt = 1 ∧ (0 ≤ p1.toInt ∧ p1.toInt < v7_2.toInt)) := h_s_1
      refine y_if (fun c78 => ?_) (fun c78 => ?_)
      · skip
        have c78' := c78
        rw [← Int32.toInt_inj] at c78'
        have e79 := y_or0 h0_s_1 c78'
        clear h0_s_1
        refine y_bi (y_X9_bad) (fun s_3 h_s_3 => ?_)
        obtain ⟨h0_s_3, h1_s_3⟩ := h_s_3
        refine y_some ?_
        try dsimp only
        have e80 : (1 : Int32).toInt = 1 := rfl
        refine y_some ?_
        try dsimp only
        refine ⟨?_, ?_, ?_, ?_, ?_, ?_, ?_, ?_⟩ <;> (first | with_reducible rfl | with_reducible assumption | omega | (exfalso; omega) | (exact Or.inr rfl) | (exact Or.inl (by omega)))
      · skip
        have c78' := c78
        rw [← Int32.toInt_inj] at c78'
        have e81 := y_or1 h0_s_1 c78'
        clear h0_s_1
        refine y_if (fun c82 => ?_) (fun c82 => ?_)
        · skip
          have c82' := c82
          rw [Int32.lt_iff_toInt_lt] at c82'
          refine y_bi (y_X9_bad) (fun s_5 h_s_5 => ?_)
          obtain ⟨h0_s_5, h1_s_5⟩ := h_s_5
          refine y_some ?_
          try dsimp only
          have e83 : (1 : Int32).toInt = 1 := rfl
          refine y_some ?_
          try dsimp only
          refine ⟨?_, ?_, ?_, ?_, ?_, ?_, ?_, ?_⟩ <;> (first | with_reducible rfl | with_reducible assumption | omega | (exfalso; omega) | (exact Or.inr rfl) | (exact Or.inl (by omega)))
        · skip
          have c82' := c82
          rw [Int32.lt_iff_toInt_lt] at c82'
          refine y_if (fun c84 => ?_) (fun c84 => ?_)
          · skip
            have e85 : (2 : Int32).toInt = 2 := rfl
            have c84' := c84
            rw [Int32.lt_iff_toInt_lt] at c84'
            refine y_bi (y_X9_bad) (fun s_7 h_s_7 => ?_)
            obtain ⟨h0_s_7, h1_s_7⟩ := h_s_7
            refine y_some ?_
            try dsimp only
            have e86 : (1 : Int32).toInt = 1 := rfl
            refine y_some ?_
            try dsimp only
            refine ⟨?_, ?_, ?_, ?_, ?_, ?_, ?_, ?_⟩ <;> (first | with_reducible rfl | with_reducible assumption | omega | (exfalso; omega) | (exact Or.inr rfl) | (exact Or.inl (by omega)))
          · skip
            have e87 : (2 : Int32).toInt = 2 := rfl
            have c84' := c84
            rw [Int32.lt_iff_toInt_lt] at c84'
            refine y_if (fun c88 => ?_) (fun c88 => ?_)
            · skip
              have c88' : p3.toInt = -1 := (y_eqN rfl).mp c88
              refine y_if (fun c89 => ?_) (fun c89 => ?_)
              · skip
                have c89' := c89
                rw [← Int32.toInt_inj] at c89'
                refine y_gd (y_gdI (by omega) (by omega)) ?_
                refine y_if (fun c90 => ?_) (fun c90 => ?_)
                · skip
                  try have e91 := @y_cl p1 (by omega)
                  have c90' := c90
                  rw [← Int32.toInt_inj] at c90'
                  refine y_if (fun c92 => ?_) (fun c92 => ?_)
                  · skip
                    have c92' := c92
                    rw [Int32.lt_iff_toInt_lt] at c92'
                    refine y_bi (y_X9_bad) (fun s_22 h_s_22 => ?_)
                    obtain ⟨h0_s_22, h1_s_22⟩ := h_s_22
                    refine y_some ?_
                    try dsimp only
                    have e93 : (1 : Int32).toInt = 1 := rfl
                    refine y_some ?_
                    try dsimp only
                    refine ⟨?_, ?_, ?_, ?_, ?_, ?_, ?_, ?_⟩ <;> (first | with_reducible rfl | with_reducible assumption | omega | (exfalso; omega) | (exact Or.inr rfl) | (exact Or.inl (by omega)))
                  · skip
                    have c92' := c92
                    rw [Int32.lt_iff_toInt_lt] at c92'
                    refine y_if (fun c94 => ?_) (fun c94 => ?_)
                    · skip
                      have e95 : (200 : Int32).toInt = 200 := rfl
                      have c94' := c94
                      rw [Int32.lt_iff_toInt_lt] at c94'
                      refine y_bi (y_X9_bad) (fun s_24 h_s_24 => ?_)
                      obtain ⟨h0_s_24, h1_s_24⟩ := h_s_24
                      refine y_some ?_
                      try dsimp only
                      have e96 : (1 : Int32).toInt = 1 := rfl
                      refine y_some ?_
                      try dsimp only
                      refine ⟨?_, ?_, ?_, ?_, ?_, ?_, ?_, ?_⟩ <;> (first | with_reducible rfl | with_reducible assumption | omega | (exfalso; omega) | (exact Or.inr rfl) | (exact Or.inl (by omega)))
                    · skip
                      have e97 : (200 : Int32).toInt = 200 := rfl
                      have c94' := c94
                      rw [Int32.lt_iff_toInt_lt] at c94'
                      refine y_if (fun c98 => ?_) (fun c98 => ?_)
                      · skip
                        have c98' := c98
                        rw [Int32.lt_iff_toInt_lt] at c98'
                        refine y_bi (y_X9_bad) (fun s_26 h_s_26 => ?_)
                        obtain ⟨h0_s_26, h1_s_26⟩ := h_s_26
                        refine y_some ?_
                        try dsimp only
                        have e99 : (1 : Int32).toInt = 1 := rfl
                        refine y_some ?_
                        try dsimp only
                        refine ⟨?_, ?_, ?_, ?_, ?_, ?_, ?_, ?_⟩ <;> (first | with_reducible rfl | with_reducible assumption | omega | (exfalso; omega) | (exact Or.inr rfl) | (exact Or.inl (by omega)))
                      · skip
                        have c98' := c98
                        rw [Int32.lt_iff_toInt_lt] at c98'
                        refine y_if (fun c100 => ?_) (fun c100 => ?_)
                        · skip
                          have c100' := c100
                          rw [Int32.le_iff_toInt_le] at c100'
                          refine y_some ?_
                          try dsimp only
                          have e101 : (1 : Int32).toInt = 1 := rfl
                          refine y_some ?_
                          try dsimp only
                          refine ⟨?_, ?_, ?_, ?_, ?_, ?_, ?_, ?_⟩ <;> (first | with_reducible rfl | with_reducible assumption | omega | (exfalso; omega) | (exact Or.inr rfl) | (exact Or.inl (by omega)))
                        · skip
                          have c100' := c100
                          rw [Int32.le_iff_toInt_le] at c100'
                          refine y_bi (y_X9_bad) (fun s_28 h_s_28 => ?_)
                          obtain ⟨h0_s_28, h1_s_28⟩ := h_s_28
                          refine y_some ?_
                          try dsimp only
                          have e102 : (1 : Int32).toInt = 1 := rfl
                          refine y_some ?_
                          try dsimp only
                          refine ⟨?_, ?_, ?_, ?_, ?_, ?_, ?_, ?_⟩ <;> (first | with_reducible rfl | with_reducible assumption | omega | (exfalso; omega) | (exact Or.inr rfl) | (exact Or.inl (by omega)))
                · skip
                  try have e103 := @y_cl p1 (by omega)
                  have c90' := c90
                  rw [← Int32.toInt_inj] at c90'
                  refine y_bi (y_X9_bad) (fun s_20 h_s_20 => ?_)
                  obtain ⟨h0_s_20, h1_s_20⟩ := h_s_20
                  refine y_some ?_
                  try dsimp only
                  have e104 : (1 : Int32).toInt = 1 := rfl
                  refine y_some ?_
                  try dsimp only
                  refine ⟨?_, ?_, ?_, ?_, ?_, ?_, ?_, ?_⟩ <;> (first | with_reducible rfl | with_reducible assumption | omega | (exfalso; omega) | (exact Or.inr rfl) | (exact Or.inl (by omega)))
              · skip
                have c89' := c89
                rw [← Int32.toInt_inj] at c89'
                refine y_if (fun c105 => ?_) (fun c105 => ?_)
                · skip
                  have c105' := c105
                  rw [Int32.lt_iff_toInt_lt] at c105'
                  refine y_bi (y_X9_bad) (fun s_11 h_s_11 => ?_)
                  obtain ⟨h0_s_11, h1_s_11⟩ := h_s_11
                  refine y_some ?_
                  try dsimp only
                  have e106 : (1 : Int32).toInt = 1 := rfl
                  refine y_some ?_
                  try dsimp only
                  refine ⟨?_, ?_, ?_, ?_, ?_, ?_, ?_, ?_⟩ <;> (first | with_reducible rfl | with_reducible assumption | omega | (exfalso; omega) | (exact Or.inr rfl) | (exact Or.inl (by omega)))
                · skip
                  have c105' := c105
                  rw [Int32.lt_iff_toInt_lt] at c105'
                  refine y_if (fun c107 => ?_) (fun c107 => ?_)
                  · skip
                    have e108 : (200 : Int32).toInt = 200 := rfl
                    have c107' := c107
                    rw [Int32.lt_iff_toInt_lt] at c107'
                    refine y_bi (y_X9_bad) (fun s_13 h_s_13 => ?_)
                    obtain ⟨h0_s_13, h1_s_13⟩ := h_s_13
                    refine y_some ?_
                    try dsimp only
                    have e109 : (1 : Int32).toInt = 1 := rfl
                    refine y_some ?_
                    try dsimp only
                    refine ⟨?_, ?_, ?_, ?_, ?_, ?_, ?_, ?_⟩ <;> (first | with_reducible rfl | with_reducible assumption | omega | (exfalso; omega) | (exact Or.inr rfl) | (exact Or.inl (by omega)))
                  · skip
                    have e110 : (200 : Int32).toInt = 200 := rfl
                    have c107' := c107
                    rw [Int32.lt_iff_toInt_lt] at c107'
                    refine y_if (fun c111 => ?_) (fun c111 => ?_)
                    · skip
                      have c111' := c111
                      rw [Int32.lt_iff_toInt_lt] at c111'
                      refine y_bi (y_X9_bad) (fun s_15 h_s_15 => ?_)
                      obtain ⟨h0_s_15, h1_s_15⟩ := h_s_15
                      refine y_some ?_
                      try dsimp only
                      have e112 : (1 : Int32).toInt = 1 := rfl
                      refine y_some ?_
                      try dsimp only
                      refine ⟨?_, ?_, ?_, ?_, ?_, ?_, ?_, ?_⟩ <;> (first | with_reducible rfl | with_reducible assumption | omega | (exfalso; omega) | (exact Or.inr rfl) | (exact Or.inl (by omega)))
                    · skip
                      have c111' := c111
                      rw [Int32.lt_iff_toInt_lt] at c111'
                      refine y_if (fun c113 => ?_) (fun c113 => ?_)
                      · skip
                        have c113' := c113
                        rw [Int32.le_iff_toInt_le] at c113'
                        refine y_some ?_
                        try dsimp only
                        have e114 : (1 : Int32).toInt = 1 := rfl
                        refine y_some ?_
                        try dsimp only
                        refine ⟨?_, ?_, ?_, ?_, ?_, ?_, ?_, ?_⟩ <;> (first | with_reducible rfl | with_reducible assumption | omega | (exfalso; omega) | (exact Or.inr rfl) | (exact Or.inl (by omega)))
                      · skip
                        have c113' := c113
                        rw [Int32.le_iff_toInt_le] at c113'
                        refine y_bi (y_X9_bad) (fun s_17 h_s_17 => ?_)
                        obtain ⟨h0_s_17, h1_s_17⟩ := h_s_17
                        refine y_some ?_
                        try dsimp only
                        have e115 : (1 : Int32).toInt = 1 := rfl
                        refine y_some ?_
                        try dsimp only
                        refine ⟨?_, ?_, ?_, ?_, ?_, ?_, ?_, ?_⟩ <;> (first | with_reducible rfl | with_reducible assumption | omega | (exfalso; omega) | (exact Or.inr rfl) | (exact Or.inl (by omega)))
            · skip
              have c88' : ¬ p3.toInt = -1 := fun hz => c88 ((y_eqN rfl).mpr hz)
              refine y_bi (y_X9_isType (by omega) (by omega)) (fun s_29 h_s_29 => ?_)
              have h0_s_29 : (s_29.toInt = 0 ∧ ¬ (0 ≤ p3.toInt ∧ p3.toInt < 16777216 ∧ (p3.toInt % 65536 < v7_2.toInt ∨ 65528 ≤ p3.toInt % 65536))) ∨ (s_29.toInt = 1 ∧ (0 ≤ p3.toInt ∧ p3.toInt < 16777216 ∧ (p3.toInt % 65536 < v7_2.toInt ∨ 65528 ≤ p3.toInt % 65536))) := h_s_29
              refine y_if (fun c116 => ?_) (fun c116 => ?_)
              · skip
                have c116' := c116
                rw [← Int32.toInt_inj] at c116'
                have e117 := y_or0 h0_s_29 c116'
                clear h0_s_29
                refine y_bi (y_X9_bad) (fun s_31 h_s_31 => ?_)
                obtain ⟨h0_s_31, h1_s_31⟩ := h_s_31
                refine y_some ?_
                try dsimp only
                have e118 : (1 : Int32).toInt = 1 := rfl
                refine y_some ?_
                try dsimp only
                refine ⟨?_, ?_, ?_, ?_, ?_, ?_, ?_, ?_⟩ <;> (first | with_reducible rfl | with_reducible assumption | omega | (exfalso; omega) | (exact Or.inr rfl) | (exact Or.inl (by omega)))
              · skip
                have c116' := c116
                rw [← Int32.toInt_inj] at c116'
                have e119 := y_or1 h0_s_29 c116'
                clear h0_s_29
                refine y_if (fun c120 => ?_) (fun c120 => ?_)
                · skip
                  have c120' := c120
                  rw [← Int32.toInt_inj] at c120'
                  refine y_bi (y_X9_bad) (fun s_33 h_s_33 => ?_)
                  obtain ⟨h0_s_33, h1_s_33⟩ := h_s_33
                  refine y_some ?_
                  try dsimp only
                  have e121 : (1 : Int32).toInt = 1 := rfl
                  refine y_some ?_
                  try dsimp only
                  refine ⟨?_, ?_, ?_, ?_, ?_, ?_, ?_, ?_⟩ <;> (first | with_reducible rfl | with_reducible assumption | omega | (exfalso; omega) | (exact Or.inr rfl) | (exact Or.inl (by omega)))
                · skip
                  have c120' := c120
                  rw [← Int32.toInt_inj] at c120'
                  refine y_if (fun c122 => ?_) (fun c122 => ?_)
                  · skip
                    have c122' := c122
                    rw [← Int32.toInt_inj] at c122'
                    refine y_gd (y_gdI (by omega) (by omega)) ?_
                    refine y_if (fun c123 => ?_) (fun c123 => ?_)
                    · skip
                      try have e124 := @y_cl p1 (by omega)
                      have c123' := c123
                      rw [← Int32.toInt_inj] at c123'
                      refine y_if (fun c125 => ?_) (fun c125 => ?_)
                      · skip
                        have c125' := c125
                        rw [Int32.lt_iff_toInt_lt] at c125'
                        refine y_bi (y_X9_bad) (fun s_47 h_s_47 => ?_)
                        obtain ⟨h0_s_47, h1_s_47⟩ := h_s_47
                        refine y_some ?_
                        try dsimp only
                        have e126 : (1 : Int32).toInt = 1 := rfl
                        refine y_some ?_
                        try dsimp only
                        refine ⟨?_, ?_, ?_, ?_, ?_, ?_, ?_, ?_⟩ <;> (first | with_reducible rfl | with_reducible assumption | omega | (exfalso; omega) | (exact Or.inr rfl) | (exact Or.inl (by omega)))
                      · skip
                        have c125' := c125
                        rw [Int32.lt_iff_toInt_lt] at c125'
                        refine y_if (fun c127 => ?_) (fun c127 => ?_)
                        · skip
                          have e128 : (200 : Int32).toInt = 200 := rfl
                          have c127' := c127
                          rw [Int32.lt_iff_toInt_lt] at c127'
                          refine y_bi (y_X9_bad) (fun s_49 h_s_49 => ?_)
                          obtain ⟨h0_s_49, h1_s_49⟩ := h_s_49
                          refine y_some ?_
                          try dsimp only
                          have e129 : (1 : Int32).toInt = 1 := rfl
                          refine y_some ?_
                          try dsimp only
                          refine ⟨?_, ?_, ?_, ?_, ?_, ?_, ?_, ?_⟩ <;> (first | with_reducible rfl | with_reducible assumption | omega | (exfalso; omega) | (exact Or.inr rfl) | (exact Or.inl (by omega)))
                        · skip
                          have e130 : (200 : Int32).toInt = 200 := rfl
                          have c127' := c127
                          rw [Int32.lt_iff_toInt_lt] at c127'
                          refine y_if (fun c131 => ?_) (fun c131 => ?_)
                          · skip
                            have c131' := c131
                            rw [Int32.lt_iff_toInt_lt] at c131'
                            refine y_bi (y_X9_bad) (fun s_51 h_s_51 => ?_)
                            obtain ⟨h0_s_51, h1_s_51⟩ := h_s_51
                            refine y_some ?_
                            try dsimp only
                            have e132 : (1 : Int32).toInt = 1 := rfl
                            refine y_some ?_
                            try dsimp only
                            refine ⟨?_, ?_, ?_, ?_, ?_, ?_, ?_, ?_⟩ <;> (first | with_reducible rfl | with_reducible assumption | omega | (exfalso; omega) | (exact Or.inr rfl) | (exact Or.inl (by omega)))
                          · skip
                            have c131' := c131
                            rw [Int32.lt_iff_toInt_lt] at c131'
                            refine y_if (fun c133 => ?_) (fun c133 => ?_)
                            · skip
                              have c133' := c133
                              rw [Int32.le_iff_toInt_le] at c133'
                              refine y_some ?_
                              try dsimp only
                              have e134 : (1 : Int32).toInt = 1 := rfl
                              refine y_some ?_
                              try dsimp only
                              refine ⟨?_, ?_, ?_, ?_, ?_, ?_, ?_, ?_⟩ <;> (first | with_reducible rfl | with_reducible assumption | omega | (exfalso; omega) | (exact Or.inr rfl) | (exact Or.inl (by omega)))
                            · skip
                              have c133' := c133
                              rw [Int32.le_iff_toInt_le] at c133'
                              refine y_bi (y_X9_bad) (fun s_53 h_s_53 => ?_)
                              obtain ⟨h0_s_53, h1_s_53⟩ := h_s_53
                              refine y_some ?_
                              try dsimp only
                              have e135 : (1 : Int32).toInt = 1 := rfl
                              refine y_some ?_
                              try dsimp only
                              refine ⟨?_, ?_, ?_, ?_, ?_, ?_, ?_, ?_⟩ <;> (first | with_reducible rfl | with_reducible assumption | omega | (exfalso; omega) | (exact Or.inr rfl) | (exact Or.inl (by omega)))
                    · skip
                      try have e136 := @y_cl p1 (by omega)
                      have c123' := c123
                      rw [← Int32.toInt_inj] at c123'
                      refine y_bi (y_X9_bad) (fun s_45 h_s_45 => ?_)
                      obtain ⟨h0_s_45, h1_s_45⟩ := h_s_45
                      refine y_some ?_
                      try dsimp only
                      have e137 : (1 : Int32).toInt = 1 := rfl
                      refine y_some ?_
                      try dsimp only
                      refine ⟨?_, ?_, ?_, ?_, ?_, ?_, ?_, ?_⟩ <;> (first | with_reducible rfl | with_reducible assumption | omega | (exfalso; omega) | (exact Or.inr rfl) | (exact Or.inl (by omega)))
                  · skip
                    have c122' := c122
                    rw [← Int32.toInt_inj] at c122'
                    refine y_if (fun c138 => ?_) (fun c138 => ?_)
                    · skip
                      have c138' := c138
                      rw [Int32.lt_iff_toInt_lt] at c138'
                      refine y_bi (y_X9_bad) (fun s_36 h_s_36 => ?_)
                      obtain ⟨h0_s_36, h1_s_36⟩ := h_s_36
                      refine y_some ?_
                      try dsimp only
                      have e139 : (1 : Int32).toInt = 1 := rfl
                      refine y_some ?_
                      try dsimp only
                      refine ⟨?_, ?_, ?_, ?_, ?_, ?_, ?_, ?_⟩ <;> (first | with_reducible rfl | with_reducible assumption | omega | (exfalso; omega) | (exact Or.inr rfl) | (exact Or.inl (by omega)))
                    · skip
                      have c138' := c138
                      rw [Int32.lt_iff_toInt_lt] at c138'
                      refine y_if (fun c140 => ?_) (fun c140 => ?_)
                      · skip
                        have e141 : (200 : Int32).toInt = 200 := rfl
                        have c140' := c140
                        rw [Int32.lt_iff_toInt_lt] at c140'
                        refine y_bi (y_X9_bad) (fun s_38 h_s_38 => ?_)
                        obtain ⟨h0_s_38, h1_s_38⟩ := h_s_38
                        refine y_some ?_
                        try dsimp only
                        have e142 : (1 : Int32).toInt = 1 := rfl
                        refine y_some ?_
                        try dsimp only
                        refine ⟨?_, ?_, ?_, ?_, ?_, ?_, ?_, ?_⟩ <;> (first | with_reducible rfl | with_reducible assumption | omega | (exfalso; omega) | (exact Or.inr rfl) | (exact Or.inl (by omega)))
                      · skip
                        have e143 : (200 : Int32).toInt = 200 := rfl
                        have c140' := c140
                        rw [Int32.lt_iff_toInt_lt] at c140'
                        refine y_if (fun c144 => ?_) (fun c144 => ?_)
                        · skip
                          have c144' := c144
                          rw [Int32.lt_iff_toInt_lt] at c144'
                          refine y_bi (y_X9_bad) (fun s_40 h_s_40 => ?_)
                          obtain ⟨h0_s_40, h1_s_40⟩ := h_s_40
                          refine y_some ?_
                          try dsimp only
                          have e145 : (1 : Int32).toInt = 1 := rfl
                          refine y_some ?_
                          try dsimp only
                          refine ⟨?_, ?_, ?_, ?_, ?_, ?_, ?_, ?_⟩ <;> (first | with_reducible rfl | with_reducible assumption | omega | (exfalso; omega) | (exact Or.inr rfl) | (exact Or.inl (by omega)))
                        · skip
                          have c144' := c144
                          rw [Int32.lt_iff_toInt_lt] at c144'
                          refine y_if (fun c146 => ?_) (fun c146 => ?_)
                          · skip
                            have c146' := c146
                            rw [Int32.le_iff_toInt_le] at c146'
                            refine y_some ?_
                            try dsimp only
                            have e147 : (1 : Int32).toInt = 1 := rfl
                            refine y_some ?_
                            try dsimp only
                            refine ⟨?_, ?_, ?_, ?_, ?_, ?_, ?_, ?_⟩ <;> (first | with_reducible rfl | with_reducible assumption | omega | (exfalso; omega) | (exact Or.inr rfl) | (exact Or.inl (by omega)))
                          · skip
                            have c146' := c146
                            rw [Int32.le_iff_toInt_le] at c146'
                            refine y_bi (y_X9_bad) (fun s_42 h_s_42 => ?_)
                            obtain ⟨h0_s_42, h1_s_42⟩ := h_s_42
                            refine y_some ?_
                            try dsimp only
                            have e148 : (1 : Int32).toInt = 1 := rfl
                            refine y_some ?_
                            try dsimp only
                            refine ⟨?_, ?_, ?_, ?_, ?_, ?_, ?_, ?_⟩ <;> (first | with_reducible rfl | with_reducible assumption | omega | (exfalso; omega) | (exact Or.inr rfl) | (exact Or.inl (by omega)))
    · skip
      have c77' := c77
      rw [Int32.lt_iff_toInt_lt] at c77'
      refine y_if (fun c149 => ?_) (fun c149 => ?_)
      · skip
        have e150 : (2 : Int32).toInt = 2 := rfl
        have c149' := c149
        rw [Int32.lt_iff_toInt_lt] at c149'
        refine y_some ?_
        try dsimp only
        refine y_bt ?_
        refine y_bi (y_X9_isClass) (fun s_1 h_s_1 => ?_)
        have h0_s_1 : (s_1.toInt = 0 ∧ ¬ (0 ≤ p1.toInt ∧ p1.toInt < v7_2.toInt)) ∨ (s_1.toInt = 1 ∧ (0 ≤ p1.toInt ∧ p1.toInt < v7_2.toInt)) := h_s_1
        refine y_if (fun c151 => ?_) (fun c151 => ?_)
        · skip
          have c151' := c151
          rw [← Int32.toInt_inj] at c151'
          have e152 := y_or0 h0_s_1 c151'
          clear h0_s_1
          refine y_bi (y_X9_bad) (fun s_3 h_s_3 => ?_)
          obtain ⟨h0_s_3, h1_s_3⟩ := h_s_3
          refine y_some ?_
          try dsimp only
          have e153 : (1 : Int32).toInt = 1 := rfl
          refine y_some ?_
          try dsimp only
          refine ⟨?_, ?_, ?_, ?_, ?_, ?_, ?_, ?_⟩ <;> (first | with_reducible rfl | with_reducible assumption | omega | (exfalso; omega) | (exact Or.inr rfl) | (exact Or.inl (by omega)))
        · skip
          have c151' := c151
          rw [← Int32.toInt_inj] at c151'
          have e154 := y_or1 h0_s_1 c151'
          clear h0_s_1
          refine y_if (fun c155 => ?_) (fun c155 => ?_)
          · skip
            have c155' := c155
            rw [Int32.lt_iff_toInt_lt] at c155'
            refine y_bi (y_X9_bad) (fun s_5 h_s_5 => ?_)
            obtain ⟨h0_s_5, h1_s_5⟩ := h_s_5
            refine y_some ?_
            try dsimp only
            have e156 : (1 : Int32).toInt = 1 := rfl
            refine y_some ?_
            try dsimp only
            refine ⟨?_, ?_, ?_, ?_, ?_, ?_, ?_, ?_⟩ <;> (first | with_reducible rfl | with_reducible assumption | omega | (exfalso; omega) | (exact Or.inr rfl) | (exact Or.inl (by omega)))
          · skip
            have c155' := c155
            rw [Int32.lt_iff_toInt_lt] at c155'
            refine y_if (fun c157 => ?_) (fun c157 => ?_)
            · skip
              have c157' := c157
              rw [Int32.lt_iff_toInt_lt] at c157'
              refine y_bi (y_X9_bad) (fun s_7 h_s_7 => ?_)
              obtain ⟨h0_s_7, h1_s_7⟩ := h_s_7
              refine y_some ?_
              try dsimp only
              have e158 : (1 : Int32).toInt = 1 := rfl
              refine y_some ?_
              try dsimp only
              refine ⟨?_, ?_, ?_, ?_, ?_, ?_, ?_, ?_⟩ <;> (first | with_reducible rfl | with_reducible assumption | omega | (exfalso; omega) | (exact Or.inr rfl) | (exact Or.inl (by omega)))
            · skip
              have c157' := c157
              rw [Int32.lt_iff_toInt_lt] at c157'
              refine y_if (fun c159 => ?_) (fun c159 => ?_)
              · skip
                have c159' : p3.toInt = -1 := (y_eqN rfl).mp c159
                refine y_if (fun c160 => ?_) (fun c160 => ?_)
                · skip
                  have c160' := c160
                  rw [← Int32.toInt_inj] at c160'
                  refine y_gd (y_gdI (by omega) (by omega)) ?_
                  refine y_if (fun c161 => ?_) (fun c161 => ?_)
                  · skip
                    try have e162 := @y_cl p1 (by omega)
                    have c161' := c161
                    rw [← Int32.toInt_inj] at c161'
                    refine y_if (fun c163 => ?_) (fun c163 => ?_)
                    · skip
                      have c163' := c163
                      rw [Int32.lt_iff_toInt_lt] at c163'
                      refine y_bi (y_X9_bad) (fun s_22 h_s_22 => ?_)
                      obtain ⟨h0_s_22, h1_s_22⟩ := h_s_22
                      refine y_some ?_
                      try dsimp only
                      have e164 : (1 : Int32).toInt = 1 := rfl
                      refine y_some ?_
                      try dsimp only
                      refine ⟨?_, ?_, ?_, ?_, ?_, ?_, ?_, ?_⟩ <;> (first | with_reducible rfl | with_reducible assumption | omega | (exfalso; omega) | (exact Or.inr rfl) | (exact Or.inl (by omega)))
                    · skip
                      have c163' := c163
                      rw [Int32.lt_iff_toInt_lt] at c163'
                      refine y_if (fun c165 => ?_) (fun c165 => ?_)
                      · skip
                        have e166 : (200 : Int32).toInt = 200 := rfl
                        have c165' := c165
                        rw [Int32.lt_iff_toInt_lt] at c165'
                        refine y_bi (y_X9_bad) (fun s_24 h_s_24 => ?_)
                        obtain ⟨h0_s_24, h1_s_24⟩ := h_s_24
                        refine y_some ?_
                        try dsimp only
                        have e167 : (1 : Int32).toInt = 1 := rfl
                        refine y_some ?_
                        try dsimp only
                        refine ⟨?_, ?_, ?_, ?_, ?_, ?_, ?_, ?_⟩ <;> (first | with_reducible rfl | with_reducible assumption | omega | (exfalso; omega) | (exact Or.inr rfl) | (exact Or.inl (by omega)))
                      · skip
                        have e168 : (200 : Int32).toInt = 200 := rfl
                        have c165' := c165
                        rw [Int32.lt_iff_toInt_lt] at c165'
                        refine y_if (fun c169 => ?_) (fun c169 => ?_)
                        · skip
                          have c169' := c169
                          rw [Int32.lt_iff_toInt_lt] at c169'
                          refine y_bi (y_X9_bad) (fun s_26 h_s_26 => ?_)
                          obtain ⟨h0_s_26, h1_s_26⟩ := h_s_26
                          refine y_some ?_
                          try dsimp only
                          have e170 : (1 : Int32).toInt = 1 := rfl
                          refine y_some ?_
                          try dsimp only
                          refine ⟨?_, ?_, ?_, ?_, ?_, ?_, ?_, ?_⟩ <;> (first | with_reducible rfl | with_reducible assumption | omega | (exfalso; omega) | (exact Or.inr rfl) | (exact Or.inl (by omega)))
                        · skip
                          have c169' := c169
                          rw [Int32.lt_iff_toInt_lt] at c169'
                          refine y_if (fun c171 => ?_) (fun c171 => ?_)
                          · skip
                            have c171' := c171
                            rw [Int32.le_iff_toInt_le] at c171'
                            refine y_some ?_
                            try dsimp only
                            have e172 : (1 : Int32).toInt = 1 := rfl
                            refine y_some ?_
                            try dsimp only
                            refine ⟨?_, ?_, ?_, ?_, ?_, ?_, ?_, ?_⟩ <;> (first | with_reducible rfl | with_reducible assumption | omega | (exfalso; omega) | (exact Or.inr rfl) | (exact Or.inl (by omega)))
                          · skip
                            have c171' := c171
                            rw [Int32.le_iff_toInt_le] at c171'
                            refine y_bi (y_X9_bad) (fun s_28 h_s_28 => ?_)
                            obtain ⟨h0_s_28, h1_s_28⟩ := h_s_28
                            refine y_some ?_
                            try dsimp only
                            have e173 : (1 : Int32).toInt = 1 := rfl
                            refine y_some ?_
                            try dsimp only
                            refine ⟨?_, ?_, ?_, ?_, ?_, ?_, ?_, ?_⟩ <;> (first | with_reducible rfl | with_reducible assumption | omega | (exfalso; omega) | (exact Or.inr rfl) | (exact Or.inl (by omega)))
                  · skip
                    try have e174 := @y_cl p1 (by omega)
                    have c161' := c161
                    rw [← Int32.toInt_inj] at c161'
                    refine y_bi (y_X9_bad) (fun s_20 h_s_20 => ?_)
                    obtain ⟨h0_s_20, h1_s_20⟩ := h_s_20
                    refine y_some ?_
                    try dsimp only
                    have e175 : (1 : Int32).toInt = 1 := rfl
                    refine y_some ?_
                    try dsimp only
                    refine ⟨?_, ?_, ?_, ?_, ?_, ?_, ?_, ?_⟩ <;> (first | with_reducible rfl | with_reducible assumption | omega | (exfalso; omega) | (exact Or.inr rfl) | (exact Or.inl (by omega)))
                · skip
                  have c160' := c160
                  rw [← Int32.toInt_inj] at c160'
                  refine y_if (fun c176 => ?_) (fun c176 => ?_)
                  · skip
                    have c176' := c176
                    rw [Int32.lt_iff_toInt_lt] at c176'
                    refine y_bi (y_X9_bad) (fun s_11 h_s_11 => ?_)
                    obtain ⟨h0_s_11, h1_s_11⟩ := h_s_11
                    refine y_some ?_
                    try dsimp only
                    have e177 : (1 : Int32).toInt = 1 := rfl
                    refine y_some ?_
                    try dsimp only
                    refine ⟨?_, ?_, ?_, ?_, ?_, ?_, ?_, ?_⟩ <;> (first | with_reducible rfl | with_reducible assumption | omega | (exfalso; omega) | (exact Or.inr rfl) | (exact Or.inl (by omega)))
                  · skip
                    have c176' := c176
                    rw [Int32.lt_iff_toInt_lt] at c176'
                    refine y_if (fun c178 => ?_) (fun c178 => ?_)
                    · skip
                      have e179 : (200 : Int32).toInt = 200 := rfl
                      have c178' := c178
                      rw [Int32.lt_iff_toInt_lt] at c178'
                      refine y_bi (y_X9_bad) (fun s_13 h_s_13 => ?_)
                      obtain ⟨h0_s_13, h1_s_13⟩ := h_s_13
                      refine y_some ?_
                      try dsimp only
                      have e180 : (1 : Int32).toInt = 1 := rfl
                      refine y_some ?_
                      try dsimp only
                      refine ⟨?_, ?_, ?_, ?_, ?_, ?_, ?_, ?_⟩ <;> (first | with_reducible rfl | with_reducible assumption | omega | (exfalso; omega) | (exact Or.inr rfl) | (exact Or.inl (by omega)))
                    · skip
                      have e181 : (200 : Int32).toInt = 200 := rfl
                      have c178' := c178
                      rw [Int32.lt_iff_toInt_lt] at c178'
                      refine y_if (fun c182 => ?_) (fun c182 => ?_)
                      · skip
                        have c182' := c182
                        rw [Int32.lt_iff_toInt_lt] at c182'
                        refine y_bi (y_X9_bad) (fun s_15 h_s_15 => ?_)
                        obtain ⟨h0_s_15, h1_s_15⟩ := h_s_15
                        refine y_some ?_
                        try dsimp only
                        have e183 : (1 : Int32).toInt = 1 := rfl
                        refine y_some ?_
                        try dsimp only
                        refine ⟨?_, ?_, ?_, ?_, ?_, ?_, ?_, ?_⟩ <;> (first | with_reducible rfl | with_reducible assumption | omega | (exfalso; omega) | (exact Or.inr rfl) | (exact Or.inl (by omega)))
                      · skip
                        have c182' := c182
                        rw [Int32.lt_iff_toInt_lt] at c182'
                        refine y_if (fun c184 => ?_) (fun c184 => ?_)
                        · skip
                          have c184' := c184
                          rw [Int32.le_iff_toInt_le] at c184'
                          refine y_some ?_
                          try dsimp only
                          have e185 : (1 : Int32).toInt = 1 := rfl
                          refine y_some ?_
                          try dsimp only
                          refine ⟨?_, ?_, ?_, ?_, ?_, ?_, ?_, ?_⟩ <;> (first | with_reducible rfl | with_reducible assumption | omega | (exfalso; omega) | (exact Or.inr rfl) | (exact Or.inl (by omega)))
                        · skip
                          have c184' := c184
                          rw [Int32.le_iff_toInt_le] at c184'
                          refine y_bi (y_X9_bad) (fun s_17 h_s_17 => ?_)
                          obtain ⟨h0_s_17, h1_s_17⟩ := h_s_17
                          refine y_some ?_
                          try dsimp only
                          have e186 : (1 : Int32).toInt = 1 := rfl
                          refine y_some ?_
                          try dsimp only
                          refine ⟨?_, ?_, ?_, ?_, ?_, ?_, ?_, ?_⟩ <;> (first | with_reducible rfl | with_reducible assumption | omega | (exfalso; omega) | (exact Or.inr rfl) | (exact Or.inl (by omega)))
              · skip
                have c159' : ¬ p3.toInt = -1 := fun hz => c159 ((y_eqN rfl).mpr hz)
                refine y_bi (y_X9_isType (by omega) (by omega)) (fun s_29 h_s_29 => ?_)
                have h0_s_29 : (s_29.toInt = 0 ∧ ¬ (0 ≤ p3.toInt ∧ p3.toInt < 16777216 ∧ (p3.toInt % 65536 < v7_2.toInt ∨ 65528 ≤ p3.toInt % 65536))) ∨ (s_29.toInt = 1 ∧ (0 ≤ p3.toInt ∧ p3.toInt < 16777216 ∧ (p3.toInt % 65536 < v7_2.toInt ∨ 65528 ≤ p3.toInt % 65536))) := h_s_29
                refine y_if (fun c187 => ?_) (fun c187 => ?_)
                · skip
                  have c187' := c187
                  rw [← Int32.toInt_inj] at c187'
                  have e188 := y_or0 h0_s_29 c187'
                  clear h0_s_29
                  refine y_bi (y_X9_bad) (fun s_31 h_s_31 => ?_)
                  obtain ⟨h0_s_31, h1_s_31⟩ := h_s_31
                  refine y_some ?_
                  try dsimp only
                  have e189 : (1 : Int32).toInt = 1 := rfl
                  refine y_some ?_
                  try dsimp only
                  refine ⟨?_, ?_, ?_, ?_, ?_, ?_, ?_, ?_⟩ <;> (first | with_reducible rfl | with_reducible assumption | omega | (exfalso; omega) | (exact Or.inr rfl) | (exact Or.inl (by omega)))
                · skip
                  have c187' := c187
                  rw [← Int32.toInt_inj] at c187'
                  have e190 := y_or1 h0_s_29 c187'
                  clear h0_s_29
                  refine y_if (fun c191 => ?_) (fun c191 => ?_)
                  · skip
                    have c191' := c191
                    rw [← Int32.toInt_inj] at c191'
                    refine y_bi (y_X9_bad) (fun s_33 h_s_33 => ?_)
                    obtain ⟨h0_s_33, h1_s_33⟩ := h_s_33
                    refine y_some ?_
                    try dsimp only
                    have e192 : (1 : Int32).toInt = 1 := rfl
                    refine y_some ?_
                    try dsimp only
                    refine ⟨?_, ?_, ?_, ?_, ?_, ?_, ?_, ?_⟩ <;> (first | with_reducible rfl | with_reducible assumption | omega | (exfalso; omega) | (exact Or.inr rfl) | (exact Or.inl (by omega)))
                  · skip
                    have c191' := c191
                    rw [← Int32.toInt_inj] at c191'
                    refine y_if (fun c193 => ?_) (fun c193 => ?_)
                    · skip
                      have c193' := c193
                      rw [← Int32.toInt_inj] at c193'
                      refine y_gd (y_gdI (by omega) (by omega)) ?_
                      refine y_if (fun c194 => ?_) (fun c194 => ?_)
                      · skip
                        try have e195 := @y_cl p1 (by omega)
                        have c194' := c194
                        rw [← Int32.toInt_inj] at c194'
                        refine y_if (fun c196 => ?_) (fun c196 => ?_)
                        · skip
                          have c196' := c196
                          rw [Int32.lt_iff_toInt_lt] at c196'
                          refine y_bi (y_X9_bad) (fun s_47 h_s_47 => ?_)
                          obtain ⟨h0_s_47, h1_s_47⟩ := h_s_47
                          refine y_some ?_
                          try dsimp only
                          have e197 : (1 : Int32).toInt = 1 := rfl
                          refine y_some ?_
                          try dsimp only
                          refine ⟨?_, ?_, ?_, ?_, ?_, ?_, ?_, ?_⟩ <;> (first | with_reducible rfl | with_reducible assumption | omega | (exfalso; omega) | (exact Or.inr rfl) | (exact Or.inl (by omega)))
                        · skip
                          have c196' := c196
                          rw [Int32.lt_iff_toInt_lt] at c196'
                          refine y_if (fun c198 => ?_) (fun c198 => ?_)
                          · skip
                            have e199 : (200 : Int32).toInt = 200 := rfl
                            have c198' := c198
                            rw [Int32.lt_iff_toInt_lt] at c198'
                            refine y_bi (y_X9_bad) (fun s_49 h_s_49 => ?_)
                            obtain ⟨h0_s_49, h1_s_49⟩ := h_s_49
                            refine y_some ?_
                            try dsimp only
                            have e200 : (1 : Int32).toInt = 1 := rfl
                            refine y_some ?_
                            try dsimp only
                            refine ⟨?_, ?_, ?_, ?_, ?_, ?_, ?_, ?_⟩ <;> (first | with_reducible rfl | with_reducible assumption | omega | (exfalso; omega) | (exact Or.inr rfl) | (exact Or.inl (by omega)))
                          · skip
                            have e201 : (200 : Int32).toInt = 200 := rfl
                            have c198' := c198
                            rw [Int32.lt_iff_toInt_lt] at c198'
                            refine y_if (fun c202 => ?_) (fun c202 => ?_)
                            · skip
                              have c202' := c202
                              rw [Int32.lt_iff_toInt_lt] at c202'
                              refine y_bi (y_X9_bad) (fun s_51 h_s_51 => ?_)
                              obtain ⟨h0_s_51, h1_s_51⟩ := h_s_51
                              refine y_some ?_
                              try dsimp only
                              have e203 : (1 : Int32).toInt = 1 := rfl
                              refine y_some ?_
                              try dsimp only
                              refine ⟨?_, ?_, ?_, ?_, ?_, ?_, ?_, ?_⟩ <;> (first | with_reducible rfl | with_reducible assumption | omega | (exfalso; omega) | (exact Or.inr rfl) | (exact Or.inl (by omega)))
                            · skip
                              have c202' := c202
                              rw [Int32.lt_iff_toInt_lt] at c202'
                              refine y_if (fun c204 => ?_) (fun c204 => ?_)
                              · skip
                                have c204' := c204
                                rw [Int32.le_iff_toInt_le] at c204'
                                refine y_some ?_
                                try dsimp only
                                have e205 : (1 : Int32).toInt = 1 := rfl
                                refine y_some ?_
                                try dsimp only
                                refine ⟨?_, ?_, ?_, ?_, ?_, ?_, ?_, ?_⟩ <;> (first | with_reducible rfl | with_reducible assumption | omega | (exfalso; omega) | (exact Or.inr rfl) | (exact Or.inl (by omega)))
                              · skip
                                have c204' := c204
                                rw [Int32.le_iff_toInt_le] at c204'
                                refine y_bi (y_X9_bad) (fun s_53 h_s_53 => ?_)
                                obtain ⟨h0_s_53, h1_s_53⟩ := h_s_53
                                refine y_some ?_
                                try dsimp only
                                have e206 : (1 : Int32).toInt = 1 := rfl
                                refine y_some ?_
                                try dsimp only
                                refine ⟨?_, ?_, ?_, ?_, ?_, ?_, ?_, ?_⟩ <;> (first | with_reducible rfl | with_reducible assumption | omega | (exfalso; omega) | (exact Or.inr rfl) | (exact Or.inl (by omega)))
                      · skip
                        try have e207 := @y_cl p1 (by omega)
                        have c194' := c194
                        rw [← Int32.toInt_inj] at c194'
                        refine y_bi (y_X9_bad) (fun s_45 h_s_45 => ?_)
                        obtain ⟨h0_s_45, h1_s_45⟩ := h_s_45
                        refine y_some ?_
                        try dsimp only
                        have e208 : (1 : Int32).toInt = 1 := rfl
                        refine y_some ?_
                        try dsimp only
                        refine ⟨?_, ?_, ?_, ?_, ?_, ?_, ?_, ?_⟩ <;> (first | with_reducible rfl | with_reducible assumption | omega | (exfalso; omega) | (exact Or.inr rfl) | (exact Or.inl (by omega)))
                    · skip
                      have c193' := c193
                      rw [← Int32.toInt_inj] at c193'
                      refine y_if (fun c209 => ?_) (fun c209 => ?_)
                      · skip
                        have c209' := c209
                        rw [Int32.lt_iff_toInt_lt] at c209'
                        refine y_bi (y_X9_bad) (fun s_36 h_s_36 => ?_)
                        obtain ⟨h0_s_36, h1_s_36⟩ := h_s_36
                        refine y_some ?_
                        try dsimp only
                        have e210 : (1 : Int32).toInt = 1 := rfl
                        refine y_some ?_
                        try dsimp only
                        refine ⟨?_, ?_, ?_, ?_, ?_, ?_, ?_, ?_⟩ <;> (first | with_reducible rfl | with_reducible assumption | omega | (exfalso; omega) | (exact Or.inr rfl) | (exact Or.inl (by omega)))
                      · skip
                        have c209' := c209
                        rw [Int32.lt_iff_toInt_lt] at c209'
                        refine y_if (fun c211 => ?_) (fun c211 => ?_)
                        · skip
                          have e212 : (200 : Int32).toInt = 200 := rfl
                          have c211' := c211
                          rw [Int32.lt_iff_toInt_lt] at c211'
                          refine y_bi (y_X9_bad) (fun s_38 h_s_38 => ?_)
                          obtain ⟨h0_s_38, h1_s_38⟩ := h_s_38
                          refine y_some ?_
                          try dsimp only
                          have e213 : (1 : Int32).toInt = 1 := rfl
                          refine y_some ?_
                          try dsimp only
                          refine ⟨?_, ?_, ?_, ?_, ?_, ?_, ?_, ?_⟩ <;> (first | with_reducible rfl | with_reducible assumption | omega | (exfalso; omega) | (exact Or.inr rfl) | (exact Or.inl (by omega)))
                        · skip
                          have e214 : (200 : Int32).toInt = 200 := rfl
                          have c211' := c211
                          rw [Int32.lt_iff_toInt_lt] at c211'
                          refine y_if (fun c215 => ?_) (fun c215 => ?_)
                          · skip
                            have c215' := c215
                            rw [Int32.lt_iff_toInt_lt] at c215'
                            refine y_bi (y_X9_bad) (fun s_40 h_s_40 => ?_)
                            obtain ⟨h0_s_40, h1_s_40⟩ := h_s_40
                            refine y_some ?_
                            try dsimp only
                            have e216 : (1 : Int32).toInt = 1 := rfl
                            refine y_some ?_
                            try dsimp only
                            refine ⟨?_, ?_, ?_, ?_, ?_, ?_, ?_, ?_⟩ <;> (first | with_reducible rfl | with_reducible assumption | omega | (exfalso; omega) | (exact Or.inr rfl) | (exact Or.inl (by omega)))
                          · skip
                            have c215' := c215
                            rw [Int32.lt_iff_toInt_lt] at c215'
                            refine y_if (fun c217 => ?_) (fun c217 => ?_)
                            · skip
                              have c217' := c217
                              rw [Int32.le_iff_toInt_le] at c217'
                              refine y_some ?_
                              try dsimp only
                              have e218 : (1 : Int32).toInt = 1 := rfl
                              refine y_some ?_
                              try dsimp only
                              refine ⟨?_, ?_, ?_, ?_, ?_, ?_, ?_, ?_⟩ <;> (first | with_reducible rfl | with_reducible assumption | omega | (exfalso; omega) | (exact Or.inr rfl) | (exact Or.inl (by omega)))
                            · skip
                              have c217' := c217
                              rw [Int32.le_iff_toInt_le] at c217'
                              refine y_bi (y_X9_bad) (fun s_42 h_s_42 => ?_)
                              obtain ⟨h0_s_42, h1_s_42⟩ := h_s_42
                              refine y_some ?_
                              try dsimp only
                              have e219 : (1 : Int32).toInt = 1 := rfl
                              refine y_some ?_
                              try dsimp only
                              refine ⟨?_, ?_, ?_, ?_, ?_, ?_, ?_, ?_⟩ <;> (first | with_reducible rfl | with_reducible assumption | omega | (exfalso; omega) | (exact Or.inr rfl) | (exact Or.inl (by omega)))
      · skip
        have e220 : (2 : Int32).toInt = 2 := rfl
        have c149' := c149
        rw [Int32.lt_iff_toInt_lt] at c149'
        refine y_bi (y_X7_isResult (by omega) (by omega)) (fun r_5 h_r_5 => ?_)
        have h0_r_5 : (r_5.toInt = 0 ∧ ¬ (p3.toInt = -1 ∨ (0 ≤ p3.toInt ∧ p3.toInt < 16777216 ∧ (p3.toInt % 65536 < v7_2.toInt ∨ 65528 ≤ p3.toInt % 65536)))) ∨ (r_5.toInt = 1 ∧ (p3.toInt = -1 ∨ (0 ≤ p3.toInt ∧ p3.toInt < 16777216 ∧ (p3.toInt % 65536 < v7_2.toInt ∨ 65528 ≤ p3.toInt % 65536)))) := h_r_5
        refine y_if (fun c221 => ?_) (fun c221 => ?_)
        · skip
          have c221' := c221
          rw [← Int32.toInt_inj] at c221'
          have e222 := y_or0 h0_r_5 c221'
          clear h0_r_5
          refine y_some ?_
          try dsimp only
          refine y_bt ?_
          refine y_bi (y_X9_isClass) (fun s_1 h_s_1 => ?_)
          have h0_s_1 : (s_1.toInt = 0 ∧ ¬ (0 ≤ p1.toInt ∧ p1.toInt < v7_2.toInt)) ∨ (s_1.toInt = 1 ∧ (0 ≤ p1.toInt ∧ p1.toInt < v7_2.toInt)) := h_s_1
          refine y_if (fun c223 => ?_) (fun c223 => ?_)
          · skip
            have c223' := c223
            rw [← Int32.toInt_inj] at c223'
            have e224 := y_or0 h0_s_1 c223'
            clear h0_s_1
            refine y_bi (y_X9_bad) (fun s_3 h_s_3 => ?_)
            obtain ⟨h0_s_3, h1_s_3⟩ := h_s_3
            refine y_some ?_
            try dsimp only
            have e225 : (1 : Int32).toInt = 1 := rfl
            refine y_some ?_
            try dsimp only
            refine ⟨?_, ?_, ?_, ?_, ?_, ?_, ?_, ?_⟩ <;> (first | with_reducible rfl | with_reducible assumption | omega | (exfalso; omega) | (exact Or.inr rfl) | (exact Or.inl (by omega)))
          · skip
            have c223' := c223
            rw [← Int32.toInt_inj] at c223'
            have e226 := y_or1 h0_s_1 c223'
            clear h0_s_1
            refine y_if (fun c227 => ?_) (fun c227 => ?_)
            · skip
              have c227' := c227
              rw [Int32.lt_iff_toInt_lt] at c227'
              refine y_bi (y_X9_bad) (fun s_5 h_s_5 => ?_)
              obtain ⟨h0_s_5, h1_s_5⟩ := h_s_5
              refine y_some ?_
              try dsimp only
              have e228 : (1 : Int32).toInt = 1 := rfl
              refine y_some ?_
              try dsimp only
              refine ⟨?_, ?_, ?_, ?_, ?_, ?_, ?_, ?_⟩ <;> (first | with_reducible rfl | with_reducible assumption | omega | (exfalso; omega) | (exact Or.inr rfl) | (exact Or.inl (by omega)))
            · skip
              have c227' := c227
              rw [Int32.lt_iff_toInt_lt] at c227'
              refine y_if (fun c229 => ?_) (fun c229 => ?_)
              · skip
                have c229' := c229
                rw [Int32.lt_iff_toInt_lt] at c229'
                refine y_bi (y_X9_bad) (fun s_7 h_s_7 => ?_)
                obtain ⟨h0_s_7, h1_s_7⟩ := h_s_7
                refine y_some ?_
                try dsimp only
                have e230 : (1 : Int32).toInt = 1 := rfl
                refine y_some ?_
                try dsimp only
                refine ⟨?_, ?_, ?_, ?_, ?_, ?_, ?_, ?_⟩ <;> (first | with_reducible rfl | with_reducible assumption | omega | (exfalso; omega) | (exact Or.inr rfl) | (exact Or.inl (by omega)))
              · skip
                have c229' := c229
                rw [Int32.lt_iff_toInt_lt] at c229'
                refine y_if (fun c231 => ?_) (fun c231 => ?_)
                · skip
                  have c231' : p3.toInt = -1 := (y_eqN rfl).mp c231
                  refine y_if (fun c232 => ?_) (fun c232 => ?_)
                  · skip
                    have c232' := c232
                    rw [← Int32.toInt_inj] at c232'
                    refine y_gd (y_gdI (by omega) (by omega)) ?_
                    refine y_if (fun c233 => ?_) (fun c233 => ?_)
                    · skip
                      try have e234 := @y_cl p1 (by omega)
                      have c233' := c233
                      rw [← Int32.toInt_inj] at c233'
                      refine y_if (fun c235 => ?_) (fun c235 => ?_)
                      · skip
                        have c235' := c235
                        rw [Int32.lt_iff_toInt_lt] at c235'
                        refine y_bi (y_X9_bad) (fun s_22 h_s_22 => ?_)
                        obtain ⟨h0_s_22, h1_s_22⟩ := h_s_22
                        refine y_some ?_
                        try dsimp only
                        have e236 : (1 : Int32).toInt = 1 := rfl
                        refine y_some ?_
                        try dsimp only
                        refine ⟨?_, ?_, ?_, ?_, ?_, ?_, ?_, ?_⟩ <;> (first | with_reducible rfl | with_reducible assumption | omega | (exfalso; omega) | (exact Or.inr rfl) | (exact Or.inl (by omega)))
                      · skip
                        have c235' := c235
                        rw [Int32.lt_iff_toInt_lt] at c235'
                        refine y_if (fun c237 => ?_) (fun c237 => ?_)
                        · skip
                          have e238 : (200 : Int32).toInt = 200 := rfl
                          have c237' := c237
                          rw [Int32.lt_iff_toInt_lt] at c237'
                          refine y_bi (y_X9_bad) (fun s_24 h_s_24 => ?_)
                          obtain ⟨h0_s_24, h1_s_24⟩ := h_s_24
                          refine y_some ?_
                          try dsimp only
                          have e239 : (1 : Int32).toInt = 1 := rfl
                          refine y_some ?_
                          try dsimp only
                          refine ⟨?_, ?_, ?_, ?_, ?_, ?_, ?_, ?_⟩ <;> (first | with_reducible rfl | with_reducible assumption | omega | (exfalso; omega) | (exact Or.inr rfl) | (exact Or.inl (by omega)))
                        · skip
                          have e240 : (200 : Int32).toInt = 200 := rfl
                          have c237' := c237
                          rw [Int32.lt_iff_toInt_lt] at c237'
                          refine y_if (fun c241 => ?_) (fun c241 => ?_)
                          · skip
                            have c241' := c241
                            rw [Int32.lt_iff_toInt_lt] at c241'
                            refine y_bi (y_X9_bad) (fun s_26 h_s_26 => ?_)
                            obtain ⟨h0_s_26, h1_s_26⟩ := h_s_26
                            refine y_some ?_
                            try dsimp only
                            have e242 : (1 : Int32).toInt = 1 := rfl
                            refine y_some ?_
                            try dsimp only
                            refine ⟨?_, ?_, ?_, ?_, ?_, ?_, ?_, ?_⟩ <;> (first | with_reducible rfl | with_reducible assumption | omega | (exfalso; omega) | (exact Or.inr rfl) | (exact Or.inl (by omega)))
                          · skip
                            have c241' := c241
                            rw [Int32.lt_iff_toInt_lt] at c241'
                            refine y_if (fun c243 => ?_) (fun c243 => ?_)
                            · skip
                              have c243' := c243
                              rw [Int32.le_iff_toInt_le] at c243'
                              refine y_some ?_
                              try dsimp only
                              have e244 : (1 : Int32).toInt = 1 := rfl
                              refine y_some ?_
                              try dsimp only
                              refine ⟨?_, ?_, ?_, ?_, ?_, ?_, ?_, ?_⟩ <;> (first | with_reducible rfl | with_reducible assumption | omega | (exfalso; omega) | (exact Or.inr rfl) | (exact Or.inl (by omega)))
                            · skip
                              have c243' := c243
                              rw [Int32.le_iff_toInt_le] at c243'
                              refine y_bi (y_X9_bad) (fun s_28 h_s_28 => ?_)
                              obtain ⟨h0_s_28, h1_s_28⟩ := h_s_28
                              refine y_some ?_
                              try dsimp only
                              have e245 : (1 : Int32).toInt = 1 := rfl
                              refine y_some ?_
                              try dsimp only
                              refine ⟨?_, ?_, ?_, ?_, ?_, ?_, ?_, ?_⟩ <;> (first | with_reducible rfl | with_reducible assumption | omega | (exfalso; omega) | (exact Or.inr rfl) | (exact Or.inl (by omega)))
                    · skip
                      try have e246 := @y_cl p1 (by omega)
                      have c233' := c233
                      rw [← Int32.toInt_inj] at c233'
                      refine y_bi (y_X9_bad) (fun s_20 h_s_20 => ?_)
                      obtain ⟨h0_s_20, h1_s_20⟩ := h_s_20
                      refine y_some ?_
                      try dsimp only
                      have e247 : (1 : Int32).toInt = 1 := rfl
                      refine y_some ?_
                      try dsimp only
                      refine ⟨?_, ?_, ?_, ?_, ?_, ?_, ?_, ?_⟩ <;> (first | with_reducible rfl | with_reducible assumption | omega | (exfalso; omega) | (exact Or.inr rfl) | (exact Or.inl (by omega)))
                  · skip
                    have c232' := c232
                    rw [← Int32.toInt_inj] at c232'
                    refine y_if (fun c248 => ?_) (fun c248 => ?_)
                    · skip
                      have c248' := c248
                      rw [Int32.lt_iff_toInt_lt] at c248'
                      refine y_bi (y_X9_bad) (fun s_11 h_s_11 => ?_)
                      obtain ⟨h0_s_11, h1_s_11⟩ := h_s_11
                      refine y_some ?_
                      try dsimp only
                      have e249 : (1 : Int32).toInt = 1 := rfl
                      refine y_some ?_
                      try dsimp only
                      refine ⟨?_, ?_, ?_, ?_, ?_, ?_, ?_, ?_⟩ <;> (first | with_reducible rfl | with_reducible assumption | omega | (exfalso; omega) | (exact Or.inr rfl) | (exact Or.inl (by omega)))
                    · skip
                      have c248' := c248
                      rw [Int32.lt_iff_toInt_lt] at c248'
                      refine y_if (fun c250 => ?_) (fun c250 => ?_)
                      · skip
                        have e251 : (200 : Int32).toInt = 200 := rfl
                        have c250' := c250
                        rw [Int32.lt_iff_toInt_lt] at c250'
                        refine y_bi (y_X9_bad) (fun s_13 h_s_13 => ?_)
                        obtain ⟨h0_s_13, h1_s_13⟩ := h_s_13
                        refine y_some ?_
                        try dsimp only
                        have e252 : (1 : Int32).toInt = 1 := rfl
                        refine y_some ?_
                        try dsimp only
                        refine ⟨?_, ?_, ?_, ?_, ?_, ?_, ?_, ?_⟩ <;> (first | with_reducible rfl | with_reducible assumption | omega | (exfalso; omega) | (exact Or.inr rfl) | (exact Or.inl (by omega)))
                      · skip
                        have e253 : (200 : Int32).toInt = 200 := rfl
                        have c250' := c250
                        rw [Int32.lt_iff_toInt_lt] at c250'
                        refine y_if (fun c254 => ?_) (fun c254 => ?_)
                        · skip
                          have c254' := c254
                          rw [Int32.lt_iff_toInt_lt] at c254'
                          refine y_bi (y_X9_bad) (fun s_15 h_s_15 => ?_)
                          obtain ⟨h0_s_15, h1_s_15⟩ := h_s_15
                          refine y_some ?_
                          try dsimp only
                          have e255 : (1 : Int32).toInt = 1 := rfl
                          refine y_some ?_
                          try dsimp only
                          refine ⟨?_, ?_, ?_, ?_, ?_, ?_, ?_, ?_⟩ <;> (first | with_reducible rfl | with_reducible assumption | omega | (exfalso; omega) | (exact Or.inr rfl) | (exact Or.inl (by omega)))
                        · skip
                          have c254' := c254
                          rw [Int32.lt_iff_toInt_lt] at c254'
                          refine y_if (fun c256 => ?_) (fun c256 => ?_)
                          · skip
                            have c256' := c256
                            rw [Int32.le_iff_toInt_le] at c256'
                            refine y_some ?_
                            try dsimp only
                            have e257 : (1 : Int32).toInt = 1 := rfl
                            refine y_some ?_
                            try dsimp only
                            refine ⟨?_, ?_, ?_, ?_, ?_, ?_, ?_, ?_⟩ <;> (first | with_reducible rfl | with_reducible assumption | omega | (exfalso; omega) | (exact Or.inr rfl) | (exact Or.inl (by omega)))
                          · skip
                            have c256' := c256
                            rw [Int32.le_iff_toInt_le] at c256'
                            refine y_bi (y_X9_bad) (fun s_17 h_s_17 => ?_)
                            obtain ⟨h0_s_17, h1_s_17⟩ := h_s_17
                            refine y_some ?_
                            try dsimp only
                            have e258 : (1 : Int32).toInt = 1 := rfl
                            refine y_some ?_
                            try dsimp only
                            refine ⟨?_, ?_, ?_, ?_, ?_, ?_, ?_, ?_⟩ <;> (first | with_reducible rfl | with_reducible assumption | omega | (exfalso; omega) | (exact Or.inr rfl) | (exact Or.inl (by omega)))
                · skip
                  have c231' : ¬ p3.toInt = -1 := fun hz => c231 ((y_eqN rfl).mpr hz)
                  refine y_bi (y_X9_isType (by omega) (by omega)) (fun s_29 h_s_29 => ?_)
                  have h0_s_29 : (s_29.toInt = 0 ∧ ¬ (0 ≤ p3.toInt ∧ p3.toInt < 16777216 ∧ (p3.toInt % 65536 < v7_2.toInt ∨ 65528 ≤ p3.toInt % 65536))) ∨ (s_29.toInt = 1 ∧ (0 ≤ p3.toInt ∧ p3.toInt < 16777216 ∧ (p3.toInt % 65536 < v7_2.toInt ∨ 65528 ≤ p3.toInt % 65536))) := h_s_29
                  refine y_if (fun c259 => ?_) (fun c259 => ?_)
                  · skip
                    have c259' := c259
                    rw [← Int32.toInt_inj] at c259'
                    have e260 := y_or0 h0_s_29 c259'
                    clear h0_s_29
                    refine y_bi (y_X9_bad) (fun s_31 h_s_31 => ?_)
                    obtain ⟨h0_s_31, h1_s_31⟩ := h_s_31
                    refine y_some ?_
                    try dsimp only
                    have e261 : (1 : Int32).toInt = 1 := rfl
                    refine y_some ?_
                    try dsimp only
                    refine ⟨?_, ?_, ?_, ?_, ?_, ?_, ?_, ?_⟩ <;> (first | with_reducible rfl | with_reducible assumption | omega | (exfalso; omega) | (exact Or.inr rfl) | (exact Or.inl (by omega)))
                  · skip
                    have c259' := c259
                    rw [← Int32.toInt_inj] at c259'
                    have e262 := y_or1 h0_s_29 c259'
                    clear h0_s_29
                    refine y_if (fun c263 => ?_) (fun c263 => ?_)
                    · skip
                      have c263' := c263
                      rw [← Int32.toInt_inj] at c263'
                      refine y_bi (y_X9_bad) (fun s_33 h_s_33 => ?_)
                      obtain ⟨h0_s_33, h1_s_33⟩ := h_s_33
                      refine y_some ?_
                      try dsimp only
                      have e264 : (1 : Int32).toInt = 1 := rfl
                      refine y_some ?_
                      try dsimp only
                      refine ⟨?_, ?_, ?_, ?_, ?_, ?_, ?_, ?_⟩ <;> (first | with_reducible rfl | with_reducible assumption | omega | (exfalso; omega) | (exact Or.inr rfl) | (exact Or.inl (by omega)))
                    · skip
                      have c263' := c263
                      rw [← Int32.toInt_inj] at c263'
                      refine y_if (fun c265 => ?_) (fun c265 => ?_)
                      · skip
                        have c265' := c265
                        rw [← Int32.toInt_inj] at c265'
                        refine y_gd (y_gdI (by omega) (by omega)) ?_
                        refine y_if (fun c266 => ?_) (fun c266 => ?_)
                        · skip
                          try have e267 := @y_cl p1 (by omega)
                          have c266' := c266
                          rw [← Int32.toInt_inj] at c266'
                          refine y_if (fun c268 => ?_) (fun c268 => ?_)
                          · skip
                            have c268' := c268
                            rw [Int32.lt_iff_toInt_lt] at c268'
                            refine y_bi (y_X9_bad) (fun s_47 h_s_47 => ?_)
                            obtain ⟨h0_s_47, h1_s_47⟩ := h_s_47
                            refine y_some ?_
                            try dsimp only
                            have e269 : (1 : Int32).toInt = 1 := rfl
                            refine y_some ?_
                            try dsimp only
                            refine ⟨?_, ?_, ?_, ?_, ?_, ?_, ?_, ?_⟩ <;> (first | with_reducible rfl | with_reducible assumption | omega | (exfalso; omega) | (exact Or.inr rfl) | (exact Or.inl (by omega)))
                          · skip
                            have c268' := c268
                            rw [Int32.lt_iff_toInt_lt] at c268'
                            refine y_if (fun c270 => ?_) (fun c270 => ?_)
                            · skip
                              have e271 : (200 : Int32).toInt = 200 := rfl
                              have c270' := c270
                              rw [Int32.lt_iff_toInt_lt] at c270'
                              refine y_bi (y_X9_bad) (fun s_49 h_s_49 => ?_)
                              obtain ⟨h0_s_49, h1_s_49⟩ := h_s_49
                              refine y_some ?_
                              try dsimp only
                              have e272 : (1 : Int32).toInt = 1 := rfl
                              refine y_some ?_
                              try dsimp only
                              refine ⟨?_, ?_, ?_, ?_, ?_, ?_, ?_, ?_⟩ <;> (first | with_reducible rfl | with_reducible assumption | omega | (exfalso; omega) | (exact Or.inr rfl) | (exact Or.inl (by omega)))
                            · skip
                              have e273 : (200 : Int32).toInt = 200 := rfl
                              have c270' := c270
                              rw [Int32.lt_iff_toInt_lt] at c270'
                              refine y_if (fun c274 => ?_) (fun c274 => ?_)
                              · skip
                                have c274' := c274
                                rw [Int32.lt_iff_toInt_lt] at c274'
                                refine y_bi (y_X9_bad) (fun s_51 h_s_51 => ?_)
                                obtain ⟨h0_s_51, h1_s_51⟩ := h_s_51
                                refine y_some ?_
                                try dsimp only
                                have e275 : (1 : Int32).toInt = 1 := rfl
                                refine y_some ?_
                                try dsimp only
                                refine ⟨?_, ?_, ?_, ?_, ?_, ?_, ?_, ?_⟩ <;> (first | with_reducible rfl | with_reducible assumption | omega | (exfalso; omega) | (exact Or.inr rfl) | (exact Or.inl (by omega)))
                              · skip
                                have c274' := c274
                                rw [Int32.lt_iff_toInt_lt] at c274'
                                refine y_if (fun c276 => ?_) (fun c276 => ?_)
                                · skip
                                  have c276' := c276
                                  rw [Int32.le_iff_toInt_le] at c276'
                                  refine y_some ?_
                                  try dsimp only
                                  have e277 : (1 : Int32).toInt = 1 := rfl
                                  refine y_some ?_
                                  try dsimp only
                                  refine ⟨?_, ?_, ?_, ?_, ?_, ?_, ?_, ?_⟩ <;> (first | with_reducible rfl | with_reducible assumption | omega | (exfalso; omega) | (exact Or.inr rfl) | (exact Or.inl (by omega)))
                                · skip
                                  have c276' := c276
                                  rw [Int32.le_iff_toInt_le] at c276'
                                  refine y_bi (y_X9_bad) (fun s_53 h_s_53 => ?_)
                                  obtain ⟨h0_s_53, h1_s_53⟩ := h_s_53
                                  refine y_some ?_
                                  try dsimp only
                                  have e278 : (1 : Int32).toInt = 1 := rfl
                                  refine y_some ?_
                                  try dsimp only
                                  refine ⟨?_, ?_, ?_, ?_, ?_, ?_, ?_, ?_⟩ <;> (first | with_reducible rfl | with_reducible assumption | omega | (exfalso; omega) | (exact Or.inr rfl) | (exact Or.inl (by omega)))
                        · skip
                          try have e279 := @y_cl p1 (by omega)
                          have c266' := c266
                          rw [← Int32.toInt_inj] at c266'
                          refine y_bi (y_X9_bad) (fun s_45 h_s_45 => ?_)
                          obtain ⟨h0_s_45, h1_s_45⟩ := h_s_45
                          refine y_some ?_
                          try dsimp only
                          have e280 : (1 : Int32).toInt = 1 := rfl
                          refine y_some ?_
                          try dsimp only
                          refine ⟨?_, ?_, ?_, ?_, ?_, ?_, ?_, ?_⟩ <;> (first | with_reducible rfl | with_reducible assumption | omega | (exfalso; omega) | (exact Or.inr rfl) | (exact Or.inl (by omega)))
                      · skip
                        have c265' := c265
                        rw [← Int32.toInt_inj] at c265'
                        refine y_if (fun c281 => ?_) (fun c281 => ?_)
                        · skip
                          have c281' := c281
                          rw [Int32.lt_iff_toInt_lt] at c281'
                          refine y_bi (y_X9_bad) (fun s_36 h_s_36 => ?_)
                          obtain ⟨h0_s_36, h1_s_36⟩ := h_s_36
                          refine y_some ?_
                          try dsimp only
                          have e282 : (1 : Int32).toInt = 1 := rfl
                          refine y_some ?_
                          try dsimp only
                          refine ⟨?_, ?_, ?_, ?_, ?_, ?_, ?_, ?_⟩ <;> (first | with_reducible rfl | with_reducible assumption | omega | (exfalso; omega) | (exact Or.inr rfl) | (exact Or.inl (by omega)))
                        · skip
                          have c281' := c281
                          rw [Int32.lt_iff_toInt_lt] at c281'
                          refine y_if (fun c283 => ?_) (fun c283 => ?_)
                          · skip
                            have e284 : (200 : Int32).toInt = 200 := rfl
                            have c283' := c283
                            rw [Int32.lt_iff_toInt_lt] at c283'
                            refine y_bi (y_X9_bad) (fun s_38 h_s_38 => ?_)
                            obtain ⟨h0_s_38, h1_s_38⟩ := h_s_38
                            refine y_some ?_
                            try dsimp only
                            have e285 : (1 : Int32).toInt = 1 := rfl
                            refine y_some ?_
                            try dsimp only
                            refine ⟨?_, ?_, ?_, ?_, ?_, ?_, ?_, ?_⟩ <;> (first | with_reducible rfl | with_reducible assumption | omega | (exfalso; omega) | (exact Or.inr rfl) | (exact Or.inl (by omega)))
                          · skip
                            have e286 : (200 : Int32).toInt = 200 := rfl
                            have c283' := c283
                            rw [Int32.lt_iff_toInt_lt] at c283'
                            refine y_if (fun c287 => ?_) (fun c287 => ?_)
                            · skip
                              have c287' := c287
                              rw [Int32.lt_iff_toInt_lt] at c287'
                              refine y_bi (y_X9_bad) (fun s_40 h_s_40 => ?_)
                              obtain ⟨h0_s_40, h1_s_40⟩ := h_s_40
                              refine y_some ?_
                              try dsimp only
                              have e288 : (1 : Int32).toInt = 1 := rfl
                              refine y_some ?_
                              try dsimp only
                              refine ⟨?_, ?_, ?_, ?_, ?_, ?_, ?_, ?_⟩ <;> (first | with_reducible rfl | with_reducible assumption | omega | (exfalso; omega) | (exact Or.inr rfl) | (exact Or.inl (by omega)))
                            · skip
                              have c287' := c287
                              rw [Int32.lt_iff_toInt_lt] at c287'
                              refine y_if (fun c289 => ?_) (fun c289 => ?_)
                              · skip
                                have c289' := c289
                                rw [Int32.le_iff_toInt_le] at c289'
                                refine y_some ?_
                                try dsimp only
                                have e290 : (1 : Int32).toInt = 1 := rfl
                                refine y_some ?_
                                try dsimp only
                                refine ⟨?_, ?_, ?_, ?_, ?_, ?_, ?_, ?_⟩ <;> (first | with_reducible rfl | with_reducible assumption | omega | (exfalso; omega) | (exact Or.inr rfl) | (exact Or.inl (by omega)))
                              · skip
                                have c289' := c289
                                rw [Int32.le_iff_toInt_le] at c289'
                                refine y_bi (y_X9_bad) (fun s_42 h_s_42 => ?_)
                                obtain ⟨h0_s_42, h1_s_42⟩ := h_s_42
                                refine y_some ?_
                                try dsimp only
                                have e291 : (1 : Int32).toInt = 1 := rfl
                                refine y_some ?_
                                try dsimp only
                                refine ⟨?_, ?_, ?_, ?_, ?_, ?_, ?_, ?_⟩ <;> (first | with_reducible rfl | with_reducible assumption | omega | (exfalso; omega) | (exact Or.inr rfl) | (exact Or.inl (by omega)))
        · skip
          have c221' := c221
          rw [← Int32.toInt_inj] at c221'
          have e292 := y_or1 h0_r_5 c221'
          clear h0_r_5
          refine y_if (fun c293 => ?_) (fun c293 => ?_)
          · skip
            have c293' := c293
            rw [← Int32.toInt_inj] at c293'
            refine y_if (fun c294 => ?_) (fun c294 => ?_)
            · skip
              have c294' : p3.toInt = -1 := (y_eqN rfl).mp c294
              refine y_gd (y_gdI (by omega) (by omega)) ?_
              refine y_if (fun c295 => ?_) (fun c295 => ?_)
              · skip
                try have e296 := @y_cl p1 (by omega)
                have c295' := c295
                rw [← Int32.toInt_inj] at c295'
                refine y_if (fun c297 => ?_) (fun c297 => ?_)
                · skip
                  have c297' := c297
                  rw [Int32.lt_iff_toInt_lt] at c297'
                  refine y_some ?_
                  try dsimp only
                  refine y_bt ?_
                  refine y_bi (y_X9_isClass) (fun s_1 h_s_1 => ?_)
                  have h0_s_1 : (s_1.toInt = 0 ∧ ¬ (0 ≤ p1.toInt ∧ p1.toInt < v7_2.toInt)) ∨ (s_1.toInt = 1 ∧ (0 ≤ p1.toInt ∧ p1.toInt < v7_2.toInt)) := h_s_1
                  refine y_if (fun c298 => ?_) (fun c298 => ?_)
                  · skip
                    have c298' := c298
                    rw [← Int32.toInt_inj] at c298'
                    have e299 := y_or0 h0_s_1 c298'
                    clear h0_s_1
                    refine y_bi (y_X9_bad) (fun s_3 h_s_3 => ?_)
                    obtain ⟨h0_s_3, h1_s_3⟩ := h_s_3
                    refine y_some ?_
                    try dsimp only
                    have e300 : (1 : Int32).toInt = 1 := rfl
                    refine y_some ?_
                    try dsimp only
                    refine ⟨?_, ?_, ?_, ?_, ?_, ?_, ?_, ?_⟩ <;> (first | with_reducible rfl | with_reducible assumption | omega | (exfalso; omega) | (exact Or.inr rfl) | (exact Or.inl (by omega)))
                  · skip
                    have c298' := c298
                    rw [← Int32.toInt_inj] at c298'
                    have e301 := y_or1 h0_s_1 c298'
                    clear h0_s_1
                    refine y_if (fun c302 => ?_) (fun c302 => ?_)
                    · skip
                      have c302' := c302
                      rw [Int32.lt_iff_toInt_lt] at c302'
                      refine y_bi (y_X9_bad) (fun s_5 h_s_5 => ?_)
                      obtain ⟨h0_s_5, h1_s_5⟩ := h_s_5
                      refine y_some ?_
                      try dsimp only
                      have e303 : (1 : Int32).toInt = 1 := rfl
                      refine y_some ?_
                      try dsimp only
                      refine ⟨?_, ?_, ?_, ?_, ?_, ?_, ?_, ?_⟩ <;> (first | with_reducible rfl | with_reducible assumption | omega | (exfalso; omega) | (exact Or.inr rfl) | (exact Or.inl (by omega)))
                    · skip
                      have c302' := c302
                      rw [Int32.lt_iff_toInt_lt] at c302'
                      refine y_if (fun c304 => ?_) (fun c304 => ?_)
                      · skip
                        have c304' := c304
                        rw [Int32.lt_iff_toInt_lt] at c304'
                        refine y_bi (y_X9_bad) (fun s_7 h_s_7 => ?_)
                        obtain ⟨h0_s_7, h1_s_7⟩ := h_s_7
                        refine y_some ?_
                        try dsimp only
                        have e305 : (1 : Int32).toInt = 1 := rfl
                        refine y_some ?_
                        try dsimp only
                        refine ⟨?_, ?_, ?_, ?_, ?_, ?_, ?_, ?_⟩ <;> (first | with_reducible rfl | with_reducible assumption | omega | (exfalso; omega) | (exact Or.inr rfl) | (exact Or.inl (by omega)))
                      · skip
                        have c304' := c304
                        rw [Int32.lt_iff_toInt_lt] at c304'
                        refine y_if (fun c306 => ?_) (fun c306 => ?_)
                        · skip
                          have c306' : p3.toInt = -1 := (y_eqN rfl).mp c306
                          refine y_if (fun c307 => ?_) (fun c307 => ?_)
                          · skip
                            have c307' := c307
                            rw [← Int32.toInt_inj] at c307'
                            refine y_gd (y_gdI (by omega) (by omega)) ?_
                            refine y_if (fun c308 => ?_) (fun c308 => ?_)
                            · skip
                              have c308' := c308
                              rw [← Int32.toInt_inj] at c308'
                              refine y_if (fun c309 => ?_) (fun c309 => ?_)
                              · skip
                                have c309' := c309
                                rw [Int32.lt_iff_toInt_lt] at c309'
                                refine y_bi (y_X9_bad) (fun s_22 h_s_22 => ?_)
                                obtain ⟨h0_s_22, h1_s_22⟩ := h_s_22
                                refine y_some ?_
                                try dsimp only
                                have e310 : (1 : Int32).toInt = 1 := rfl
                                refine y_some ?_
                                try dsimp only
                                refine ⟨?_, ?_, ?_, ?_, ?_, ?_, ?_, ?_⟩ <;> (first | with_reducible rfl | with_reducible assumption | omega | (exfalso; omega) | (exact Or.inr rfl) | (exact Or.inl (by omega)))
                              · skip
                                have c309' := c309
                                rw [Int32.lt_iff_toInt_lt] at c309'
                                refine y_if (fun c311 => ?_) (fun c311 => ?_)
                                · skip
                                  have e312 : (200 : Int32).toInt = 200 := rfl
                                  have c311' := c311
                                  rw [Int32.lt_iff_toInt_lt] at c311'
                                  refine y_bi (y_X9_bad) (fun s_24 h_s_24 => ?_)
                                  obtain ⟨h0_s_24, h1_s_24⟩ := h_s_24
                                  refine y_some ?_
                                  try dsimp only
                                  have e313 : (1 : Int32).toInt = 1 := rfl
                                  refine y_some ?_
                                  try dsimp only
                                  refine ⟨?_, ?_, ?_, ?_, ?_, ?_, ?_, ?_⟩ <;> (first | with_reducible rfl | with_reducible assumption | omega | (exfalso; omega) | (exact Or.inr rfl) | (exact Or.inl (by omega)))
                                · skip
                                  have e314 : (200 : Int32).toInt = 200 := rfl
                                  have c311' := c311
                                  rw [Int32.lt_iff_toInt_lt] at c311'
                                  refine y_if (fun c315 => ?_) (fun c315 => ?_)
                                  · skip
                                    have c315' := c315
                                    rw [Int32.lt_iff_toInt_lt] at c315'
                                    refine y_bi (y_X9_bad) (fun s_26 h_s_26 => ?_)
                                    obtain ⟨h0_s_26, h1_s_26⟩ := h_s_26
                                    refine y_some ?_
                                    try dsimp only
                                    have e316 : (1 : Int32).toInt = 1 := rfl
                                    refine y_some ?_
                                    try dsimp only
                                    refine ⟨?_, ?_, ?_, ?_, ?_, ?_, ?_, ?_⟩ <;> (first | with_reducible rfl | with_reducible assumption | omega | (exfalso; omega) | (exact Or.inr rfl) | (exact Or.inl (by omega)))
                                  · skip
                                    have c315' := c315
                                    rw [Int32.lt_iff_toInt_lt] at c315'
                                    refine y_if (fun c317 => ?_) (fun c317 => ?_)
                                    · skip
                                      have c317' := c317
                                      rw [Int32.le_iff_toInt_le] at c317'
                                      refine y_some ?_
                                      try dsimp only
                                      have e318 : (1 : Int32).toInt = 1 := rfl
                                      refine y_some ?_
                                      try dsimp only
                                      refine ⟨?_, ?_, ?_, ?_, ?_, ?_, ?_, ?_⟩ <;> (first | with_reducible rfl | with_reducible assumption | omega | (exfalso; omega) | (exact Or.inr rfl) | (exact Or.inl (by omega)))
                                    · skip
                                      have c317' := c317
                                      rw [Int32.le_iff_toInt_le] at c317'
                                      refine y_bi (y_X9_bad) (fun s_28 h_s_28 => ?_)
                                      obtain ⟨h0_s_28, h1_s_28⟩ := h_s_28
                                      refine y_some ?_
                                      try dsimp only
                                      have e319 : (1 : Int32).toInt = 1 := rfl
                                      refine y_some ?_
                                      try dsimp only
                                      refine ⟨?_, ?_, ?_, ?_, ?_, ?_, ?_, ?_⟩ <;> (first | with_reducible rfl | with_reducible assumption | omega | (exfalso; omega) | (exact Or.inr rfl) | (exact Or.inl (by omega)))
                            · skip
                              have c308' := c308
                              rw [← Int32.toInt_inj] at c308'
                              refine y_bi (y_X9_bad) (fun s_20 h_s_20 => ?_)
                              obtain ⟨h0_s_20, h1_s_20⟩ := h_s_20
                              refine y_some ?_
                              try dsimp only
                              have e320 : (1 : Int32).toInt = 1 := rfl
                              refine y_some ?_
                              try dsimp only
                              refine ⟨?_, ?_, ?_, ?_, ?_, ?_, ?_, ?_⟩ <;> (first | with_reducible rfl | with_reducible assumption | omega | (exfalso; omega) | (exact Or.inr rfl) | (exact Or.inl (by omega)))
                          · skip
                            have c307' := c307
                            rw [← Int32.toInt_inj] at c307'
                            refine y_if (fun c321 => ?_) (fun c321 => ?_)
                            · skip
                              have c321' := c321
                              rw [Int32.lt_iff_toInt_lt] at c321'
                              refine y_bi (y_X9_bad) (fun s_11 h_s_11 => ?_)
                              obtain ⟨h0_s_11, h1_s_11⟩ := h_s_11
                              refine y_some ?_
                              try dsimp only
                              have e322 : (1 : Int32).toInt = 1 := rfl
                              refine y_some ?_
                              try dsimp only
                              refine ⟨?_, ?_, ?_, ?_, ?_, ?_, ?_, ?_⟩ <;> (first | with_reducible rfl | with_reducible assumption | omega | (exfalso; omega) | (exact Or.inr rfl) | (exact Or.inl (by omega)))
                            · skip
                              have c321' := c321
                              rw [Int32.lt_iff_toInt_lt] at c321'
                              refine y_if (fun c323 => ?_) (fun c323 => ?_)
                              · skip
                                have e324 : (200 : Int32).toInt = 200 := rfl
                                have c323' := c323
                                rw [Int32.lt_iff_toInt_lt] at c323'
                                refine y_bi (y_X9_bad) (fun s_13 h_s_13 => ?_)
                                obtain ⟨h0_s_13, h1_s_13⟩ := h_s_13
                                refine y_some ?_
                                try dsimp only
                                have e325 : (1 : Int32).toInt = 1 := rfl
                                refine y_some ?_
                                try dsimp only
                                refine ⟨?_, ?_, ?_, ?_, ?_, ?_, ?_, ?_⟩ <;> (first | with_reducible rfl | with_reducible assumption | omega | (exfalso; omega) | (exact Or.inr rfl) | (exact Or.inl (by omega)))
                              · skip
                                have e326 : (200 : Int32).toInt = 200 := rfl
                                have c323' := c323
                                rw [Int32.lt_iff_toInt_lt] at c323'
                                refine y_if (fun c327 => ?_) (fun c327 => ?_)
                                · skip
                                  have c327' := c327
                                  rw [Int32.lt_iff_toInt_lt] at c327'
                                  refine y_bi (y_X9_bad) (fun s_15 h_s_15 => ?_)
                                  obtain ⟨h0_s_15, h1_s_15⟩ := h_s_15
                                  refine y_some ?_
                                  try dsimp only
                                  have e328 : (1 : Int32).toInt = 1 := rfl
                                  refine y_some ?_
                                  try dsimp only
                                  refine ⟨?_, ?_, ?_, ?_, ?_, ?_, ?_, ?_⟩ <;> (first | with_reducible rfl | with_reducible assumption | omega | (exfalso; omega) | (exact Or.inr rfl) | (exact Or.inl (by omega)))
                                · skip
                                  have c327' := c327
                                  rw [Int32.lt_iff_toInt_lt] at c327'
                                  refine y_if (fun c329 => ?_) (fun c329 => ?_)
                                  · skip
                                    have c329' := c329
                                    rw [Int32.le_iff_toInt_le] at c329'
                                    refine y_some ?_
                                    try dsimp only
                                    have e330 : (1 : Int32).toInt = 1 := rfl
                                    refine y_some ?_
                                    try dsimp only
                                    refine ⟨?_, ?_, ?_, ?_, ?_, ?_, ?_, ?_⟩ <;> (first | with_reducible rfl | with_reducible assumption | omega | (exfalso; omega) | (exact Or.inr rfl) | (exact Or.inl (by omega)))
                                  · skip
                                    have c329' := c329
                                    rw [Int32.le_iff_toInt_le] at c329'
                                    refine y_bi (y_X9_bad) (fun s_17 h_s_17 => ?_)
                                    obtain ⟨h0_s_17, h1_s_17⟩ := h_s_17
                                    refine y_some ?_
                                    try dsimp only
                                    have e331 : (1 : Int32).toInt = 1 := rfl
                                    refine y_some ?_
                                    try dsimp only
                                    refine ⟨?_, ?_, ?_, ?_, ?_, ?_, ?_, ?_⟩ <;> (first | with_reducible rfl | with_reducible assumption | omega | (exfalso; omega) | (exact Or.inr rfl) | (exact Or.inl (by omega)))
                        · skip
                          have c306' : ¬ p3.toInt = -1 := fun hz => c306 ((y_eqN rfl).mpr hz)
                          refine y_bi (y_X9_isType (by omega) (by omega)) (fun s_29 h_s_29 => ?_)
                          have h0_s_29 : (s_29.toInt = 0 ∧ ¬ (0 ≤ p3.toInt ∧ p3.toInt < 16777216 ∧ (p3.toInt % 65536 < v7_2.toInt ∨ 65528 ≤ p3.toInt % 65536))) ∨ (s_29.toInt = 1 ∧ (0 ≤ p3.toInt ∧ p3.toInt < 16777216 ∧ (p3.toInt % 65536 < v7_2.toInt ∨ 65528 ≤ p3.toInt % 65536))) := h_s_29
                          refine y_if (fun c332 => ?_) (fun c332 => ?_)
                          · skip
                            have c332' := c332
                            rw [← Int32.toInt_inj] at c332'
                            have e333 := y_or0 h0_s_29 c332'
                            clear h0_s_29
                            refine y_bi (y_X9_bad) (fun s_31 h_s_31 => ?_)
                            obtain ⟨h0_s_31, h1_s_31⟩ := h_s_31
                            refine y_some ?_
                            try dsimp only
                            have e334 : (1 : Int32).toInt = 1 := rfl
                            refine y_some ?_
                            try dsimp only
                            refine ⟨?_, ?_, ?_, ?_, ?_, ?_, ?_, ?_⟩ <;> (first | with_reducible rfl | with_reducible assumption | omega | (exfalso; omega) | (exact Or.inr rfl) | (exact Or.inl (by omega)))
                          · skip
                            have c332' := c332
                            rw [← Int32.toInt_inj] at c332'
                            have e335 := y_or1 h0_s_29 c332'
                            clear h0_s_29
                            refine y_if (fun c336 => ?_) (fun c336 => ?_)
                            · skip
                              have c336' := c336
                              rw [← Int32.toInt_inj] at c336'
                              refine y_bi (y_X9_bad) (fun s_33 h_s_33 => ?_)
                              obtain ⟨h0_s_33, h1_s_33⟩ := h_s_33
                              refine y_some ?_
                              try dsimp only
                              have e337 : (1 : Int32).toInt = 1 := rfl
                              refine y_some ?_
                              try dsimp only
                              refine ⟨?_, ?_, ?_, ?_, ?_, ?_, ?_, ?_⟩ <;> (first | with_reducible rfl | with_reducible assumption | omega | (exfalso; omega) | (exact Or.inr rfl) | (exact Or.inl (by omega)))
                            · skip
                              have c336' := c336
                              rw [← Int32.toInt_inj] at c336'
                              refine y_if (fun c338 => ?_) (fun c338 => ?_)
                              · skip
                                have c338' := c338
                                rw [← Int32.toInt_inj] at c338'
                                refine y_gd (y_gdI (by omega) (by omega)) ?_
                                refine y_if (fun c339 => ?_) (fun c339 => ?_)
                                · skip
                                  have c339' := c339
                                  rw [← Int32.toInt_inj] at c339'
                                  refine y_if (fun c340 => ?_) (fun c340 => ?_)
                                  · skip
                                    have c340' := c340
                                    rw [Int32.lt_iff_toInt_lt] at c340'
                                    refine y_bi (y_X9_bad) (fun s_47 h_s_47 => ?_)
                                    obtain ⟨h0_s_47, h1_s_47⟩ := h_s_47
                                    refine y_some ?_
                                    try dsimp only
                                    have e341 : (1 : Int32).toInt = 1 := rfl
                                    refine y_some ?_
                                    try dsimp only
                                    refine ⟨?_, ?_, ?_, ?_, ?_, ?_, ?_, ?_⟩ <;> (first | with_reducible rfl | with_reducible assumption | omega | (exfalso; omega) | (exact Or.inr rfl) | (exact Or.inl (by omega)))
                                  · skip
                                    have c340' := c340
                                    rw [Int32.lt_iff_toInt_lt] at c340'
                                    refine y_if (fun c342 => ?_) (fun c342 => ?_)
                                    · skip
                                      have e343 : (200 : Int32).toInt = 200 := rfl
                                      have c342' := c342
                                      rw [Int32.lt_iff_toInt_lt] at c342'
                                      refine y_bi (y_X9_bad) (fun s_49 h_s_49 => ?_)
                                      obtain ⟨h0_s_49, h1_s_49⟩ := h_s_49
                                      refine y_some ?_
                                      try dsimp only
                                      have e344 : (1 : Int32).toInt = 1 := rfl
                                      refine y_some ?_
                                      try dsimp only
                                      refine ⟨?_, ?_, ?_, ?_, ?_, ?_, ?_, ?_⟩ <;> (first | with_reducible rfl | with_reducible assumption | omega | (exfalso; omega) | (exact Or.inr rfl) | (exact Or.inl (by omega)))
                                    · skip
                                      have e345 : (200 : Int32).toInt = 200 := rfl
                                      have c342' := c342
                                      rw [Int32.lt_iff_toInt_lt] at c342'
                                      refine y_if (fun c346 => ?_) (fun c346 => ?_)
                                      · skip
                                        have c346' := c346
                                        rw [Int32.lt_iff_toInt_lt] at c346'
                                        refine y_bi (y_X9_bad) (fun s_51 h_s_51 => ?_)
                                        obtain ⟨h0_s_51, h1_s_51⟩ := h_s_51
                                        refine y_some ?_
                                        try dsimp only
                                        have e347 : (1 : Int32).toInt = 1 := rfl
                                        refine y_some ?_
                                        try dsimp only
                                        refine ⟨?_, ?_, ?_, ?_, ?_, ?_, ?_, ?_⟩ <;> (first | with_reducible rfl | with_reducible assumption | omega | (exfalso; omega) | (exact Or.inr rfl) | (exact Or.inl (by omega)))
                                      · skip
                                        have c346' := c346
                                        rw [Int32.lt_iff_toInt_lt] at c346'
                                        refine y_if (fun c348 => ?_) (fun c348 => ?_)
                                        · skip
                                          have c348' := c348
                                          rw [Int32.le_iff_toInt_le] at c348'
                                          refine y_some ?_
                                          try dsimp only
                                          have e349 : (1 : Int32).toInt = 1 := rfl
                                          refine y_some ?_
                                          try dsimp only
                                          refine ⟨?_, ?_, ?_, ?_, ?_, ?_, ?_, ?_⟩ <;> (first | with_reducible rfl | with_reducible assumption | omega | (exfalso; omega) | (exact Or.inr rfl) | (exact Or.inl (by omega)))
                                        · skip
                                          have c348' := c348
                                          rw [Int32.le_iff_toInt_le] at c348'
                                          refine y_bi (y_X9_bad) (fun s_53 h_s_53 => ?_)
                                          obtain ⟨h0_s_53, h1_s_53⟩ := h_s_53
                                          refine y_some ?_
                                          try dsimp only
                                          have e350 : (1 : Int32).toInt = 1 := rfl
                                          refine y_some ?_
                                          try dsimp only
                                          refine ⟨?_, ?_, ?_, ?_, ?_, ?_, ?_, ?_⟩ <;> (first | with_reducible rfl | with_reducible assumption | omega | (exfalso; omega) | (exact Or.inr rfl) | (exact Or.inl (by omega)))
                                · skip
                                  have c339' := c339
                                  rw [← Int32.toInt_inj] at c339'
                                  refine y_bi (y_X9_bad) (fun s_45 h_s_45 => ?_)
                                  obtain ⟨h0_s_45, h1_s_45⟩ := h_s_45
                                  refine y_some ?_
                                  try dsimp only
                                  have e351 : (1 : Int32).toInt = 1 := rfl
                                  refine y_some ?_
                                  try dsimp only
                                  refine ⟨?_, ?_, ?_, ?_, ?_, ?_, ?_, ?_⟩ <;> (first | with_reducible rfl | with_reducible assumption | omega | (exfalso; omega) | (exact Or.inr rfl) | (exact Or.inl (by omega)))
                              · skip
                                have c338' := c338
                                rw [← Int32.toInt_inj] at c338'
                                refine y_if (fun c352 => ?_) (fun c352 => ?_)
                                · skip
                                  have c352' := c352
                                  rw [Int32.lt_iff_toInt_lt] at c352'
                                  refine y_bi (y_X9_bad) (fun s_36 h_s_36 => ?_)
                                  obtain ⟨h0_s_36, h1_s_36⟩ := h_s_36
                                  refine y_some ?_
                                  try dsimp only
                                  have e353 : (1 : Int32).toInt = 1 := rfl
                                  refine y_some ?_
                                  try dsimp only
                                  refine ⟨?_, ?_, ?_, ?_, ?_, ?_, ?_, ?_⟩ <;> (first | with_reducible rfl | with_reducible assumption | omega | (exfalso; omega) | (exact Or.inr rfl) | (exact Or.inl (by omega)))
                                · skip
                                  have c352' := c352
                                  rw [Int32.lt_iff_toInt_lt] at c352'
                                  refine y_if (fun c354 => ?_) (fun c354 => ?_)
                                  · skip
                                    have e355 : (200 : Int32).toInt = 200 := rfl
                                    have c354' := c354
                                    rw [Int32.lt_iff_toInt_lt] at c354'
                                    refine y_bi (y_X9_bad) (fun s_38 h_s_38 => ?_)
                                    obtain ⟨h0_s_38, h1_s_38⟩ := h_s_38
                                    refine y_some ?_
                                    try dsimp only
                                    have e356 : (1 : Int32).toInt = 1 := rfl
                                    refine y_some ?_
                                    try dsimp only
                                    refine ⟨?_, ?_, ?_, ?_, ?_, ?_, ?_, ?_⟩ <;> (first | with_reducible rfl | with_reducible assumption | omega | (exfalso; omega) | (exact Or.inr rfl) | (exact Or.inl (by omega)))
                                  · skip
                                    have e357 : (200 : Int32).toInt = 200 := rfl
                                    have c354' := c354
                                    rw [Int32.lt_iff_toInt_lt] at c354'
                                    refine y_if (fun c358 => ?_) (fun c358 => ?_)
                                    · skip
                                      have c358' := c358
                                      rw [Int32.lt_iff_toInt_lt] at c358'
                                      refine y_bi (y_X9_bad) (fun s_40 h_s_40 => ?_)
                                      obtain ⟨h0_s_40, h1_s_40⟩ := h_s_40
                                      refine y_some ?_
                                      try dsimp only
                                      have e359 : (1 : Int32).toInt = 1 := rfl
                                      refine y_some ?_
                                      try dsimp only
                                      refine ⟨?_, ?_, ?_, ?_, ?_, ?_, ?_, ?_⟩ <;> (first | with_reducible rfl | with_reducible assumption | omega | (exfalso; omega) | (exact Or.inr rfl) | (exact Or.inl (by omega)))
                                    · skip
                                      have c358' := c358
                                      rw [Int32.lt_iff_toInt_lt] at c358'
                                      refine y_if (fun c360 => ?_) (fun c360 => ?_)
                                      · skip
                                        have c360' := c360
                                        rw [Int32.le_iff_toInt_le] at c360'
                                        refine y_some ?_
                                        try dsimp only
                                        have e361 : (1 : Int32).toInt = 1 := rfl
                                        refine y_some ?_
                                        try dsimp only
                                        refine ⟨?_, ?_, ?_, ?_, ?_, ?_, ?_, ?_⟩ <;> (first | with_reducible rfl | with_reducible assumption | omega | (exfalso; omega) | (exact Or.inr rfl) | (exact Or.inl (by omega)))
                                      · skip
                                        have c360' := c360
                                        rw [Int32.le_iff_toInt_le] at c360'
                                        refine y_bi (y_X9_bad) (fun s_42 h_s_42 => ?_)
                                        obtain ⟨h0_s_42, h1_s_42⟩ := h_s_42
                                        refine y_some ?_
                                        try dsimp only
                                        have e362 : (1 : Int32).toInt = 1 := rfl
                                        refine y_some ?_
                                        try dsimp only
                                        refine ⟨?_, ?_, ?_, ?_, ?_, ?_, ?_, ?_⟩ <;> (first | with_reducible rfl | with_reducible assumption | omega | (exfalso; omega) | (exact Or.inr rfl) | (exact Or.inl (by omega)))
                · skip
                  have c297' := c297
                  rw [Int32.lt_iff_toInt_lt] at c297'
                  refine y_if (fun c363 => ?_) (fun c363 => ?_)
                  · skip
                    have e364 : (200 : Int32).toInt = 200 := rfl
                    have c363' := c363
                    rw [Int32.lt_iff_toInt_lt] at c363'
                    refine y_some ?_
                    try dsimp only
                    refine y_bt ?_
                    refine y_bi (y_X9_isClass) (fun s_1 h_s_1 => ?_)
                    have h0_s_1 : (s_1.toInt = 0 ∧ ¬ (0 ≤ p1.toInt ∧ p1.toInt < v7_2.toInt)) ∨ (s_1.toInt = 1 ∧ (0 ≤ p1.toInt ∧ p1.toInt < v7_2.toInt)) := h_s_1
                    refine y_if (fun c365 => ?_) (fun c365 => ?_)
                    · skip
                      have c365' := c365
                      rw [← Int32.toInt_inj] at c365'
                      have e366 := y_or0 h0_s_1 c365'
                      clear h0_s_1
                      refine y_bi (y_X9_bad) (fun s_3 h_s_3 => ?_)
                      obtain ⟨h0_s_3, h1_s_3⟩ := h_s_3
                      refine y_some ?_
                      try dsimp only
                      have e367 : (1 : Int32).toInt = 1 := rfl
                      refine y_some ?_
                      try dsimp only
                      refine ⟨?_, ?_, ?_, ?_, ?_, ?_, ?_, ?_⟩ <;> (first | with_reducible rfl | with_reducible assumption | omega | (exfalso; omega) | (exact Or.inr rfl) | (exact Or.inl (by omega)))
                    · skip
                      have c365' := c365
                      rw [← Int32.toInt_inj] at c365'
                      have e368 := y_or1 h0_s_1 c365'
                      clear h0_s_1
                      refine y_if (fun c369 => ?_) (fun c369 => ?_)
                      · skip
                        have c369' := c369
                        rw [Int32.lt_iff_toInt_lt] at c369'
                        refine y_bi (y_X9_bad) (fun s_5 h_s_5 => ?_)
                        obtain ⟨h0_s_5, h1_s_5⟩ := h_s_5
                        refine y_some ?_
                        try dsimp only
                        have e370 : (1 : Int32).toInt = 1 := rfl
                        refine y_some ?_
                        try dsimp only
                        refine ⟨?_, ?_, ?_, ?_, ?_, ?_, ?_, ?_⟩ <;> (first | with_reducible rfl | with_reducible assumption | omega | (exfalso; omega) | (exact Or.inr rfl) | (exact Or.inl (by omega)))
                      · skip
                        have c369' := c369
                        rw [Int32.lt_iff_toInt_lt] at c369'
                        refine y_if (fun c371 => ?_) (fun c371 => ?_)
                        · skip
                          have c371' := c371
                          rw [Int32.lt_iff_toInt_lt] at c371'
                          refine y_bi (y_X9_bad) (fun s_7 h_s_7 => ?_)
                          obtain ⟨h0_s_7, h1_s_7⟩ := h_s_7
                          refine y_some ?_
                          try dsimp only
                          have e372 : (1 : Int32).toInt = 1 := rfl
                          refine y_some ?_
                          try dsimp only
                          refine ⟨?_, ?_, ?_, ?_, ?_, ?_, ?_, ?_⟩ <;> (first | with_reducible rfl | with_reducible assumption | omega | (exfalso; omega) | (exact Or.inr rfl) | (exact Or.inl (by omega)))
                        · skip
                          have c371' := c371
                          rw [Int32.lt_iff_toInt_lt] at c371'
                          refine y_if (fun c373 => ?_) (fun c373 => ?_)
                          · skip
                            have c373' : p3.toInt = -1 := (y_eqN rfl).mp c373
                            refine y_if (fun c374 => ?_) (fun c374 => ?_)
                            · skip
                              have c374' := c374
                              rw [← Int32.toInt_inj] at c374'
                              refine y_gd (y_gdI (by omega) (by omega)) ?_
                              refine y_if (fun c375 => ?_) (fun c375 => ?_)
                              · skip
                                have c375' := c375
                                rw [← Int32.toInt_inj] at c375'
                                refine y_if (fun c376 => ?_) (fun c376 => ?_)
                                · skip
                                  have c376' := c376
                                  rw [Int32.lt_iff_toInt_lt] at c376'
                                  refine y_bi (y_X9_bad) (fun s_22 h_s_22 => ?_)
                                  obtain ⟨h0_s_22, h1_s_22⟩ := h_s_22
                                  refine y_some ?_
                                  try dsimp only
                                  have e377 : (1 : Int32).toInt = 1 := rfl
                                  refine y_some ?_
                                  try dsimp only
                                  refine ⟨?_, ?_, ?_, ?_, ?_, ?_, ?_, ?_⟩ <;> (first | with_reducible rfl | with_reducible assumption | omega | (exfalso; omega) | (exact Or.inr rfl) | (exact Or.inl (by omega)))
                                · skip
                                  have c376' := c376
                                  rw [Int32.lt_iff_toInt_lt] at c376'
                                  refine y_if (fun c378 => ?_) (fun c378 => ?_)
                                  · skip
                                    have c378' := c378
                                    rw [Int32.lt_iff_toInt_lt] at c378'
                                    refine y_bi (y_X9_bad) (fun s_24 h_s_24 => ?_)
                                    obtain ⟨h0_s_24, h1_s_24⟩ := h_s_24
                                    refine y_some ?_
                                    try dsimp only
                                    have e379 : (1 : Int32).toInt = 1 := rfl
                                    refine y_some ?_
                                    try dsimp only
                                    refine ⟨?_, ?_, ?_, ?_, ?_, ?_, ?_, ?_⟩ <;> (first | with_reducible rfl | with_reducible assumption | omega | (exfalso; omega) | (exact Or.inr rfl) | (exact Or.inl (by omega)))
                                  · skip
                                    have c378' := c378
                                    rw [Int32.lt_iff_toInt_lt] at c378'
                                    refine y_if (fun c380 => ?_) (fun c380 => ?_)
                                    · skip
                                      have c380' := c380
                                      rw [Int32.lt_iff_toInt_lt] at c380'
                                      refine y_bi (y_X9_bad) (fun s_26 h_s_26 => ?_)
                                      obtain ⟨h0_s_26, h1_s_26⟩ := h_s_26
                                      refine y_some ?_
                                      try dsimp only
                                      have e381 : (1 : Int32).toInt = 1 := rfl
                                      refine y_some ?_
                                      try dsimp only
                                      refine ⟨?_, ?_, ?_, ?_, ?_, ?_, ?_, ?_⟩ <;> (first | with_reducible rfl | with_reducible assumption | omega | (exfalso; omega) | (exact Or.inr rfl) | (exact Or.inl (by omega)))
                                    · skip
                                      have c380' := c380
                                      rw [Int32.lt_iff_toInt_lt] at c380'
                                      refine y_if (fun c382 => ?_) (fun c382 => ?_)
                                      · skip
                                        have c382' := c382
                                        rw [Int32.le_iff_toInt_le] at c382'
                                        refine y_some ?_
                                        try dsimp only
                                        have e383 : (1 : Int32).toInt = 1 := rfl
                                        refine y_some ?_
                                        try dsimp only
                                        refine ⟨?_, ?_, ?_, ?_, ?_, ?_, ?_, ?_⟩ <;> (first | with_reducible rfl | with_reducible assumption | omega | (exfalso; omega) | (exact Or.inr rfl) | (exact Or.inl (by omega)))
                                      · skip
                                        have c382' := c382
                                        rw [Int32.le_iff_toInt_le] at c382'
                                        refine y_bi (y_X9_bad) (fun s_28 h_s_28 => ?_)
                                        obtain ⟨h0_s_28, h1_s_28⟩ := h_s_28
                                        refine y_some ?_
                                        try dsimp only
                                        have e384 : (1 : Int32).toInt = 1 := rfl
                                        refine y_some ?_
                                        try dsimp only
                                        refine ⟨?_, ?_, ?_, ?_, ?_, ?_, ?_, ?_⟩ <;> (first | with_reducible rfl | with_reducible assumption | omega | (exfalso; omega) | (exact Or.inr rfl) | (exact Or.inl (by omega)))
                              · skip
                                have c375' := c375
                                rw [← Int32.toInt_inj] at c375'
                                refine y_bi (y_X9_bad) (fun s_20 h_s_20 => ?_)
                                obtain ⟨h0_s_20, h1_s_20⟩ := h_s_20
                                refine y_some ?_
                                try dsimp only
                                have e385 : (1 : Int32).toInt = 1 := rfl
                                refine y_some ?_
                                try dsimp only
                                refine ⟨?_, ?_, ?_, ?_, ?_, ?_, ?_, ?_⟩ <;> (first | with_reducible rfl | with_reducible assumption | omega | (exfalso; omega) | (exact Or.inr rfl) | (exact Or.inl (by omega)))
                            · skip
                              have c374' := c374
                              rw [← Int32.toInt_inj] at c374'
                              refine y_if (fun c386 => ?_) (fun c386 => ?_)
                              · skip
                                have c386' := c386
                                rw [Int32.lt_iff_toInt_lt] at c386'
                                refine y_bi (y_X9_bad) (fun s_11 h_s_11 => ?_)
                                obtain ⟨h0_s_11, h1_s_11⟩ := h_s_11
                                refine y_some ?_
                                try dsimp only
                                have e387 : (1 : Int32).toInt = 1 := rfl
                                refine y_some ?_
                                try dsimp only
                                refine ⟨?_, ?_, ?_, ?_, ?_, ?_, ?_, ?_⟩ <;> (first | with_reducible rfl | with_reducible assumption | omega | (exfalso; omega) | (exact Or.inr rfl) | (exact Or.inl (by omega)))
                              · skip
                                have c386' := c386
                                rw [Int32.lt_iff_toInt_lt] at c386'
                                refine y_if (fun c388 => ?_) (fun c388 => ?_)
                                · skip
                                  have c388' := c388
                                  rw [Int32.lt_iff_toInt_lt] at c388'
                                  refine y_bi (y_X9_bad) (fun s_13 h_s_13 => ?_)
                                  obtain ⟨h0_s_13, h1_s_13⟩ := h_s_13
                                  refine y_some ?_
                                  try dsimp only
                                  have e389 : (1 : Int32).toInt = 1 := rfl
                                  refine y_some ?_
                                  try dsimp only
                                  refine ⟨?_, ?_, ?_, ?_, ?_, ?_, ?_, ?_⟩ <;> (first | with_reducible rfl | with_reducible assumption | omega | (exfalso; omega) | (exact Or.inr rfl) | (exact Or.inl (by omega)))
                                · skip
                                  have c388' := c388
                                  rw [Int32.lt_iff_toInt_lt] at c388'
                                  refine y_if (fun c390 => ?_) (fun c390 => ?_)
                                  · skip
                                    have c390' := c390
                                    rw [Int32.lt_iff_toInt_lt] at c390'
                                    refine y_bi (y_X9_bad) (fun s_15 h_s_15 => ?_)
                                    obtain ⟨h0_s_15, h1_s_15⟩ := h_s_15
                                    refine y_some ?_
                                    try dsimp only
                                    have e391 : (1 : Int32).toInt = 1 := rfl
                                    refine y_some ?_
                                    try dsimp only
                                    refine ⟨?_, ?_, ?_, ?_, ?_, ?_, ?_, ?_⟩ <;> (first | with_reducible rfl | with_reducible assumption | omega | (exfalso; omega) | (exact Or.inr rfl) | (exact Or.inl (by omega)))
                                  · skip
                                    have c390' := c390
                                    rw [Int32.lt_iff_toInt_lt] at c390'
                                    refine y_if (fun c392 => ?_) (fun c392 => ?_)
                                    · skip
                                      have c392' := c392
                                      rw [Int32.le_iff_toInt_le] at c392'
                                      refine y_some ?_
                                      try dsimp only
                                      have e393 : (1 : Int32).toInt = 1 := rfl
                                      refine y_some ?_
                                      try dsimp only
                                      refine ⟨?_, ?_, ?_, ?_, ?_, ?_, ?_, ?_⟩ <;> (first | with_reducible rfl | with_reducible assumption | omega | (exfalso; omega) | (exact Or.inr rfl) | (exact Or.inl (by omega)))
                                    · skip
                                      have c392' := c392
                                      rw [Int32.le_iff_toInt_le] at c392'
                                      refine y_bi (y_X9_bad) (fun s_17 h_s_17 => ?_)
                                      obtain ⟨h0_s_17, h1_s_17⟩ := h_s_17
                                      refine y_some ?_
                                      try dsimp only
                                      have e394 : (1 : Int32).toInt = 1 := rfl
                                      refine y_some ?_
                                      try dsimp only
                                      refine ⟨?_, ?_, ?_, ?_, ?_, ?_, ?_, ?_⟩ <;> (first | with_reducible rfl | with_reducible assumption | omega | (exfalso; omega) | (exact Or.inr rfl) | (exact Or.inl (by omega)))
                          · skip
                            have c373' : ¬ p3.toInt = -1 := fun hz => c373 ((y_eqN rfl).mpr hz)
                            refine y_bi (y_X9_isType (by omega) (by omega)) (fun s_29 h_s_29 => ?_)
                            have h0_s_29 : (s_29.toInt = 0 ∧ ¬ (0 ≤ p3.toInt ∧ p3.toInt < 16777216 ∧ (p3.toInt % 65536 < v7_2.toInt ∨ 65528 ≤ p3.toInt % 65536))) ∨ (s_29.toInt = 1 ∧ (0 ≤ p3.toInt ∧ p3.toInt < 16777216 ∧ (p3.toInt % 65536 < v7_2.toInt ∨ 65528 ≤ p3.toInt % 65536))) := h_s_29
                            refine y_if (fun c395 => ?_) (fun c395 => ?_)
                            · skip
                              have c395' := c395
                              rw [← Int32.toInt_inj] at c395'
                              have e396 := y_or0 h0_s_29 c395'
                              clear h0_s_29
                              refine y_bi (y_X9_bad) (fun s_31 h_s_31 => ?_)
                              obtain ⟨h0_s_31, h1_s_31⟩ := h_s_31
                              refine y_some ?_
                              try dsimp only
                              have e397 : (1 : Int32).toInt = 1 := rfl
                              refine y_some ?_
                              try dsimp only
                              refine ⟨?_, ?_, ?_, ?_, ?_, ?_, ?_, ?_⟩ <;> (first | with_reducible rfl | with_reducible assumption | omega | (exfalso; omega) | (exact Or.inr rfl) | (exact Or.inl (by omega)))
                            · skip
                              have c395' := c395
                              rw [← Int32.toInt_inj] at c395'
                              have e398 := y_or1 h0_s_29 c395'
                              clear h0_s_29
                              refine y_if (fun c399 => ?_) (fun c399 => ?_)
                              · skip
                                have c399' := c399
                                rw [← Int32.toInt_inj] at c399'
                                refine y_bi (y_X9_bad) (fun s_33 h_s_33 => ?_)
                                obtain ⟨h0_s_33, h1_s_33⟩ := h_s_33
                                refine y_some ?_
                                try dsimp only
                                have e400 : (1 : Int32).toInt = 1 := rfl
                                refine y_some ?_
                                try dsimp only
                                refine ⟨?_, ?_, ?_, ?_, ?_, ?_, ?_, ?_⟩ <;> (first | with_reducible rfl | with_reducible assumption | omega | (exfalso; omega) | (exact Or.inr rfl) | (exact Or.inl (by omega)))
                              · skip
                                have c399' := c399
                                rw [← Int32.toInt_inj] at c399'
                                refine y_if (fun c401 => ?_) (fun c401 => ?_)
                                · skip
                                  have c401' := c401
                                  rw [← Int32.toInt_inj] at c401'
                                  refine y_gd (y_gdI (by omega) (by omega)) ?_
                                  refine y_if (fun c402 => ?_) (fun c402 => ?_)
                                  · skip
                                    have c402' := c402
                                    rw [← Int32.toInt_inj] at c402'
                                    refine y_if (fun c403 => ?_) (fun c403 => ?_)
                                    · skip
                                      have c403' := c403
                                      rw [Int32.lt_iff_toInt_lt] at c403'
                                      refine y_bi (y_X9_bad) (fun s_47 h_s_47 => ?_)
                                      obtain ⟨h0_s_47, h1_s_47⟩ := h_s_47
                                      refine y_some ?_
                                      try dsimp only
                                      have e404 : (1 : Int32).toInt = 1 := rfl
                                      refine y_some ?_
                                      try dsimp only
                                      refine ⟨?_, ?_, ?_, ?_, ?_, ?_, ?_, ?_⟩ <;> (first | with_reducible rfl | with_reducible assumption | omega | (exfalso; omega) | (exact Or.inr rfl) | (exact Or.inl (by omega)))
                                    · skip
                                      have c403' := c403
                                      rw [Int32.lt_iff_toInt_lt] at c403'
                                      refine y_if (fun c405 => ?_) (fun c405 => ?_)
                                      · skip
                                        have c405' := c405
                                        rw [Int32.lt_iff_toInt_lt] at c405'
                                        refine y_bi (y_X9_bad) (fun s_49 h_s_49 => ?_)
                                        obtain ⟨h0_s_49, h1_s_49⟩ := h_s_49
                                        refine y_some ?_
                                        try dsimp only
                                        have e406 : (1 : Int32).toInt = 1 := rfl
                                        refine y_some ?_
                                        try dsimp only
                                        refine ⟨?_, ?_, ?_, ?_, ?_, ?_, ?_, ?_⟩ <;> (first | with_reducible rfl | with_reducible assumption | omega | (exfalso; omega) | (exact Or.inr rfl) | (exact Or.inl (by omega)))
                                      · skip
                                        have c405' := c405
                                        rw [Int32.lt_iff_toInt_lt] at c405'
                                        refine y_if (fun c407 => ?_) (fun c407 => ?_)
                                        · skip
                                          have c407' := c407
                                          rw [Int32.lt_iff_toInt_lt] at c407'
                                          refine y_bi (y_X9_bad) (fun s_51 h_s_51 => ?_)
                                          obtain ⟨h0_s_51, h1_s_51⟩ := h_s_51
                                          refine y_some ?_
                                          try dsimp only
                                          have e408 : (1 : Int32).toInt = 1 := rfl
                                          refine y_some ?_
                                          try dsimp only
                                          refine ⟨?_, ?_, ?_, ?_, ?_, ?_, ?_, ?_⟩ <;> (first | with_reducible rfl | with_reducible assumption | omega | (exfalso; omega) | (exact Or.inr rfl) | (exact Or.inl (by omega)))
                                        · skip
                                          have c407' := c407
                                          rw [Int32.lt_iff_toInt_lt] at c407'
                                          refine y_if (fun c409 => ?_) (fun c409 => ?_)
                                          · skip
                                            have c409' := c409
                                            rw [Int32.le_iff_toInt_le] at c409'
                                            refine y_some ?_
                                            try dsimp only
                                            have e410 : (1 : Int32).toInt = 1 := rfl
                                            refine y_some ?_
                                            try dsimp only
                                            refine ⟨?_, ?_, ?_, ?_, ?_, ?_, ?_, ?_⟩ <;> (first | with_reducible rfl | with_reducible assumption | omega | (exfalso; omega) | (exact Or.inr rfl) | (exact Or.inl (by omega)))
                                          · skip
                                            have c409' := c409
                                            rw [Int32.le_iff_toInt_le] at c409'
                                            refine y_bi (y_X9_bad) (fun s_53 h_s_53 => ?_)
                                            obtain ⟨h0_s_53, h1_s_53⟩ := h_s_53
                                            refine y_some ?_
                                            try dsimp only
                                            have e411 : (1 : Int32).toInt = 1 := rfl
                                            refine y_some ?_
                                            try dsimp only
                                            refine ⟨?_, ?_, ?_, ?_, ?_, ?_, ?_, ?_⟩ <;> (first | with_reducible rfl | with_reducible assumption | omega | (exfalso; omega) | (exact Or.inr rfl) | (exact Or.inl (by omega)))
                                  · skip
                                    have c402' := c402
                                    rw [← Int32.toInt_inj] at c402'
                                    refine y_bi (y_X9_bad) (fun s_45 h_s_45 => ?_)
                                    obtain ⟨h0_s_45, h1_s_45⟩ := h_s_45
                                    refine y_some ?_
                                    try dsimp only
                                    have e412 : (1 : Int32).toInt = 1 := rfl
                                    refine y_some ?_
                                    try dsimp only
                                    refine ⟨?_, ?_, ?_, ?_, ?_, ?_, ?_, ?_⟩ <;> (first | with_reducible rfl | with_reducible assumption | omega | (exfalso; omega) | (exact Or.inr rfl) | (exact Or.inl (by omega)))
                                · skip
                                  have c401' := c401
                                  rw [← Int32.toInt_inj] at c401'
                                  refine y_if (fun c413 => ?_) (fun c413 => ?_)
                                  · skip
                                    have c413' := c413
                                    rw [Int32.lt_iff_toInt_lt] at c413'
                                    refine y_bi (y_X9_bad) (fun s_36 h_s_36 => ?_)
                                    obtain ⟨h0_s_36, h1_s_36⟩ := h_s_36
                                    refine y_some ?_
                                    try dsimp only
                                    have e414 : (1 : Int32).toInt = 1 := rfl
                                    refine y_some ?_
                                    try dsimp only
                                    refine ⟨?_, ?_, ?_, ?_, ?_, ?_, ?_, ?_⟩ <;> (first | with_reducible rfl | with_reducible assumption | omega | (exfalso; omega) | (exact Or.inr rfl) | (exact Or.inl (by omega)))
                                  · skip
                                    have c413' := c413
                                    rw [Int32.lt_iff_toInt_lt] at c413'
                                    refine y_if (fun c415 => ?_) (fun c415 => ?_)
                                    · skip
                                      have c415' := c415
                                      rw [Int32.lt_iff_toInt_lt] at c415'
                                      refine y_bi (y_X9_bad) (fun s_38 h_s_38 => ?_)
                                      obtain ⟨h0_s_38, h1_s_38⟩ := h_s_38
                                      refine y_some ?_
                                      try dsimp only
                                      have e416 : (1 : Int32).toInt = 1 := rfl
                                      refine y_some ?_
                                      try dsimp only
                                      refine ⟨?_, ?_, ?_, ?_, ?_, ?_, ?_, ?_⟩ <;> (first | with_reducible rfl | with_reducible assumption | omega | (exfalso; omega) | (exact Or.inr rfl) | (exact Or.inl (by omega)))
                                    · skip
                                      have c415' := c415
                                      rw [Int32.lt_iff_toInt_lt] at c415'
                                      refine y_if (fun c417 => ?_) (fun c417 => ?_)
                                      · skip
                                        have c417' := c417
                                        rw [Int32.lt_iff_toInt_lt] at c417'
                                        refine y_bi (y_X9_bad) (fun s_40 h_s_40 => ?_)
                                        obtain ⟨h0_s_40, h1_s_40⟩ := h_s_40
                                        refine y_some ?_
                                        try dsimp only
                                        have e418 : (1 : Int32).toInt = 1 := rfl
                                        refine y_some ?_
                                        try dsimp only
                                        refine ⟨?_, ?_, ?_, ?_, ?_, ?_, ?_, ?_⟩ <;> (first | with_reducible rfl | with_reducible assumption | omega | (exfalso; omega) | (exact Or.inr rfl) | (exact Or.inl (by omega)))
                                      · skip
                                        have c417' := c417
                                        rw [Int32.lt_iff_toInt_lt] at c417'
                                        refine y_if (fun c419 => ?_) (fun c419 => ?_)
                                        · skip
                                          have c419' := c419
                                          rw [Int32.le_iff_toInt_le] at c419'
                                          refine y_some ?_
                                          try dsimp only
                                          have e420 : (1 : Int32).toInt = 1 := rfl
                                          refine y_some ?_
                                          try dsimp only
                                          refine ⟨?_, ?_, ?_, ?_, ?_, ?_, ?_, ?_⟩ <;> (first | with_reducible rfl | with_reducible assumption | omega | (exfalso; omega) | (exact Or.inr rfl) | (exact Or.inl (by omega)))
                                        · skip
                                          have c419' := c419
                                          rw [Int32.le_iff_toInt_le] at c419'
                                          refine y_bi (y_X9_bad) (fun s_42 h_s_42 => ?_)
                                          obtain ⟨h0_s_42, h1_s_42⟩ := h_s_42
                                          refine y_some ?_
                                          try dsimp only
                                          have e421 : (1 : Int32).toInt = 1 := rfl
                                          refine y_some ?_
                                          try dsimp only
                                          refine ⟨?_, ?_, ?_, ?_, ?_, ?_, ?_, ?_⟩ <;> (first | with_reducible rfl | with_reducible assumption | omega | (exfalso; omega) | (exact Or.inr rfl) | (exact Or.inl (by omega)))
                  · skip
                    have e422 : (200 : Int32).toInt = 200 := rfl
                    have c363' := c363
                    rw [Int32.lt_iff_toInt_lt] at c363'
                    refine y_if (fun c423 => ?_) (fun c423 => ?_)
                    · skip
                      have c423' := c423
                      rw [Int32.lt_iff_toInt_lt] at c423'
                      refine y_some ?_
                      try dsimp only
                      refine y_bt ?_
                      refine y_bi (y_X9_isClass) (fun s_1 h_s_1 => ?_)
                      have h0_s_1 : (s_1.toInt = 0 ∧ ¬ (0 ≤ p1.toInt ∧ p1.toInt < v7_2.toInt)) ∨ (s_1.toInt = 1 ∧ (0 ≤ p1.toInt ∧ p1.toInt < v7_2.toInt)) := h_s_1
                      refine y_if (fun c424 => ?_) (fun c424 => ?_)
                      · skip
                        have c424' := c424
                        rw [← Int32.toInt_inj] at c424'
                        have e425 := y_or0 h0_s_1 c424'
                        clear h0_s_1
                        refine y_bi (y_X9_bad) (fun s_3 h_s_3 => ?_)
                        obtain ⟨h0_s_3, h1_s_3⟩ := h_s_3
                        refine y_some ?_
                        try dsimp only
                        have e426 : (1 : Int32).toInt = 1 := rfl
                        refine y_some ?_
                        try dsimp only
                        refine ⟨?_, ?_, ?_, ?_, ?_, ?_, ?_, ?_⟩ <;> (first | with_reducible rfl | with_reducible assumption | omega | (exfalso; omega) | (exact Or.inr rfl) | (exact Or.inl (by omega)))
                      · skip
                        have c424' := c424
                        rw [← Int32.toInt_inj] at c424'
                        have e427 := y_or1 h0_s_1 c424'
                        clear h0_s_1
                        refine y_if (fun c428 => ?_) (fun c428 => ?_)
                        · skip
                          have c428' := c428
                          rw [Int32.lt_iff_toInt_lt] at c428'
                          refine y_bi (y_X9_bad) (fun s_5 h_s_5 => ?_)
                          obtain ⟨h0_s_5, h1_s_5⟩ := h_s_5
                          refine y_some ?_
                          try dsimp only
                          have e429 : (1 : Int32).toInt = 1 := rfl
                          refine y_some ?_
                          try dsimp only
                          refine ⟨?_, ?_, ?_, ?_, ?_, ?_, ?_, ?_⟩ <;> (first | with_reducible rfl | with_reducible assumption | omega | (exfalso; omega) | (exact Or.inr rfl) | (exact Or.inl (by omega)))
                        · skip
                          have c428' := c428
                          rw [Int32.lt_iff_toInt_lt] at c428'
                          refine y_if (fun c430 => ?_) (fun c430 => ?_)
                          · skip
                            have c430' := c430
                            rw [Int32.lt_iff_toInt_lt] at c430'
                            refine y_bi (y_X9_bad) (fun s_7 h_s_7 => ?_)
                            obtain ⟨h0_s_7, h1_s_7⟩ := h_s_7
                            refine y_some ?_
                            try dsimp only
                            have e431 : (1 : Int32).toInt = 1 := rfl
                            refine y_some ?_
                            try dsimp only
                            refine ⟨?_, ?_, ?_, ?_, ?_, ?_, ?_, ?_⟩ <;> (first | with_reducible rfl | with_reducible assumption | omega | (exfalso; omega) | (exact Or.inr rfl) | (exact Or.inl (by omega)))
                          · skip
                            have c430' := c430
                            rw [Int32.lt_iff_toInt_lt] at c430'
                            refine y_if (fun c432 => ?_) (fun c432 => ?_)
                            · skip
                              have c432' : p3.toInt = -1 := (y_eqN rfl).mp c432
                              refine y_if (fun c433 => ?_) (fun c433 => ?_)
                              · skip
                                have c433' := c433
                                rw [← Int32.toInt_inj] at c433'
                                refine y_gd (y_gdI (by omega) (by omega)) ?_
                                refine y_if (fun c434 => ?_) (fun c434 => ?_)
                                · skip
                                  have c434' := c434
                                  rw [← Int32.toInt_inj] at c434'
                                  refine y_if (fun c435 => ?_) (fun c435 => ?_)
                                  · skip
                                    have c435' := c435
                                    rw [Int32.lt_iff_toInt_lt] at c435'
                                    refine y_bi (y_X9_bad) (fun s_22 h_s_22 => ?_)
                                    obtain ⟨h0_s_22, h1_s_22⟩ := h_s_22
                                    refine y_some ?_
                                    try dsimp only
                                    have e436 : (1 : Int32).toInt = 1 := rfl
                                    refine y_some ?_
                                    try dsimp only
                                    refine ⟨?_, ?_, ?_, ?_, ?_, ?_, ?_, ?_⟩ <;> (first | with_reducible rfl | with_reducible assumption | omega | (exfalso; omega) | (exact Or.inr rfl) | (exact Or.inl (by omega)))
                                  · skip
                                    have c435' := c435
                                    rw [Int32.lt_iff_toInt_lt] at c435'
                                    refine y_if (fun c437 => ?_) (fun c437 => ?_)
                                    · skip
                                      have c437' := c437
                                      rw [Int32.lt_iff_toInt_lt] at c437'
                                      refine y_bi (y_X9_bad) (fun s_24 h_s_24 => ?_)
                                      obtain ⟨h0_s_24, h1_s_24⟩ := h_s_24
                                      refine y_some ?_
                                      try dsimp only
                                      have e438 : (1 : Int32).toInt = 1 := rfl
                                      refine y_some ?_
                                      try dsimp only
                                      refine ⟨?_, ?_, ?_, ?_, ?_, ?_, ?_, ?_⟩ <;> (first | with_reducible rfl | with_reducible assumption | omega | (exfalso; omega) | (exact Or.inr rfl) | (exact Or.inl (by omega)))
                                    · skip
                                      have c437' := c437
                                      rw [Int32.lt_iff_toInt_lt] at c437'
                                      refine y_if (fun c439 => ?_) (fun c439 => ?_)
                                      · skip
                                        have c439' := c439
                                        rw [Int32.lt_iff_toInt_lt] at c439'
                                        refine y_bi (y_X9_bad) (fun s_26 h_s_26 => ?_)
                                        obtain ⟨h0_s_26, h1_s_26⟩ := h_s_26
                                        refine y_some ?_
                                        try dsimp only
                                        have e440 : (1 : Int32).toInt = 1 := rfl
                                        refine y_some ?_
                                        try dsimp only
                                        refine ⟨?_, ?_, ?_, ?_, ?_, ?_, ?_, ?_⟩ <;> (first | with_reducible rfl | with_reducible assumption | omega | (exfalso; omega) | (exact Or.inr rfl) | (exact Or.inl (by omega)))
                                      · skip
                                        have c439' := c439
                                        rw [Int32.lt_iff_toInt_lt] at c439'
                                        refine y_if (fun c441 => ?_) (fun c441 => ?_)
                                        · skip
                                          have c441' := c441
                                          rw [Int32.le_iff_toInt_le] at c441'
                                          refine y_some ?_
                                          try dsimp only
                                          have e442 : (1 : Int32).toInt = 1 := rfl
                                          refine y_some ?_
                                          try dsimp only
                                          refine ⟨?_, ?_, ?_, ?_, ?_, ?_, ?_, ?_⟩ <;> (first | with_reducible rfl | with_reducible assumption | omega | (exfalso; omega) | (exact Or.inr rfl) | (exact Or.inl (by omega)))
                                        · skip
                                          have c441' := c441
                                          rw [Int32.le_iff_toInt_le] at c441'
                                          refine y_bi (y_X9_bad) (fun s_28 h_s_28 => ?_)
                                          obtain ⟨h0_s_28, h1_s_28⟩ := h_s_28
                                          refine y_some ?_
                                          try dsimp only
                                          have e443 : (1 : Int32).toInt = 1 := rfl
                                          refine y_some ?_
                                          try dsimp only
                                          refine ⟨?_, ?_, ?_, ?_, ?_, ?_, ?_, ?_⟩ <;> (first | with_reducible rfl | with_reducible assumption | omega | (exfalso; omega) | (exact Or.inr rfl) | (exact Or.inl (by omega)))
                                · skip
                                  have c434' := c434
                                  rw [← Int32.toInt_inj] at c434'
                                  refine y_bi (y_X9_bad) (fun s_20 h_s_20 => ?_)
                                  obtain ⟨h0_s_20, h1_s_20⟩ := h_s_20
                                  refine y_some ?_
                                  try dsimp only
                                  have e444 : (1 : Int32).toInt = 1 := rfl
                                  refine y_some ?_
                                  try dsimp only
                                  refine ⟨?_, ?_, ?_, ?_, ?_, ?_, ?_, ?_⟩ <;> (first | with_reducible rfl | with_reducible assumption | omega | (exfalso; omega) | (exact Or.inr rfl) | (exact Or.inl (by omega)))
                              · skip
                                have c433' := c433
                                rw [← Int32.toInt_inj] at c433'
                                refine y_if (fun c445 => ?_) (fun c445 => ?_)
                                · skip
                                  have c445' := c445
                                  rw [Int32.lt_iff_toInt_lt] at c445'
                                  refine y_bi (y_X9_bad) (fun s_11 h_s_11 => ?_)
                                  obtain ⟨h0_s_11, h1_s_11⟩ := h_s_11
                                  refine y_some ?_
                                  try dsimp only
                                  have e446 : (1 : Int32).toInt = 1 := rfl
                                  refine y_some ?_
                                  try dsimp only
                                  refine ⟨?_, ?_, ?_, ?_, ?_, ?_, ?_, ?_⟩ <;> (first | with_reducible rfl | with_reducible assumption | omega | (exfalso; omega) | (exact Or.inr rfl) | (exact Or.inl (by omega)))
                                · skip
                                  have c445' := c445
                                  rw [Int32.lt_iff_toInt_lt] at c445'
                                  refine y_if (fun c447 => ?_) (fun c447 => ?_)
                                  · skip
                                    have c447' := c447
                                    rw [Int32.lt_iff_toInt_lt] at c447'
                                    refine y_bi (y_X9_bad) (fun s_13 h_s_13 => ?_)
                                    obtain ⟨h0_s_13, h1_s_13⟩ := h_s_13
                                    refine y_some ?_
                                    try dsimp only
                                    have e448 : (1 : Int32).toInt = 1 := rfl
                                    refine y_some ?_
                                    try dsimp only
                                    refine ⟨?_, ?_, ?_, ?_, ?_, ?_, ?_, ?_⟩ <;> (first | with_reducible rfl | with_reducible assumption | omega | (exfalso; omega) | (exact Or.inr rfl) | (exact Or.inl (by omega)))
                                  · skip
                                    have c447' := c447
                                    rw [Int32.lt_iff_toInt_lt] at c447'
                                    refine y_if (fun c449 => ?_) (fun c449 => ?_)
                                    · skip
                                      have c449' := c449
                                      rw [Int32.lt_iff_toInt_lt] at c449'
                                      refine y_bi (y_X9_bad) (fun s_15 h_s_15 => ?_)
                                      obtain ⟨h0_s_15, h1_s_15⟩ := h_s_15
                                      refine y_some ?_
                                      try dsimp only
                                      have e450 : (1 : Int32).toInt = 1 := rfl
                                      refine y_some ?_
                                      try dsimp only
                                      refine ⟨?_, ?_, ?_, ?_, ?_, ?_, ?_, ?_⟩ <;> (first | with_reducible rfl | with_reducible assumption | omega | (exfalso; omega) | (exact Or.inr rfl) | (exact Or.inl (by omega)))
                                    · skip
                                      have c449' := c449
                                      rw [Int32.lt_iff_toInt_lt] at c449'
                                      refine y_if (fun c451 => ?_) (fun c451 => ?_)
                                      · skip
                                        have c451' := c451
                                        rw [Int32.le_iff_toInt_le] at c451'
                                        refine y_some ?_
                                        try dsimp only
                                        have e452 : (1 : Int32).toInt = 1 := rfl
                                        refine y_some ?_
                                        try dsimp only
                                        refine ⟨?_, ?_, ?_, ?_, ?_, ?_, ?_, ?_⟩ <;> (first | with_reducible rfl | with_reducible assumption | omega | (exfalso; omega) | (exact Or.inr rfl) | (exact Or.inl (by omega)))
                                      · skip
                                        have c451' := c451
                                        rw [Int32.le_iff_toInt_le] at c451'
                                        refine y_bi (y_X9_bad) (fun s_17 h_s_17 => ?_)
                                        obtain ⟨h0_s_17, h1_s_17⟩ := h_s_17
                                        refine y_some ?_
                                        try dsimp only
                                        have e453 : (1 : Int32).toInt = 1 := rfl
                                        refine y_some ?_
                                        try dsimp only
                                        refine ⟨?_, ?_, ?_, ?_, ?_, ?_, ?_, ?_⟩ <;> (first | with_reducible rfl | with_reducible assumption | omega | (exfalso; omega) | (exact Or.inr rfl) | (exact Or.inl (by omega)))
                            · skip
                              have c432' : ¬ p3.toInt = -1 := fun hz => c432 ((y_eqN rfl).mpr hz)
                              refine y_bi (y_X9_isType (by omega) (by omega)) (fun s_29 h_s_29 => ?_)
                              have h0_s_29 : (s_29.toInt = 0 ∧ ¬ (0 ≤ p3.toInt ∧ p3.toInt < 16777216 ∧ (p3.toInt % 65536 < v7_2.toInt ∨ 65528 ≤ p3.toInt % 65536))) ∨ (s_29.toInt = 1 ∧ (0 ≤ p3.toInt ∧ p3.toInt < 16777216 ∧ (p3.toInt % 65536 < v7_2.toInt ∨ 65528 ≤ p3.toInt % 65536))) := h_s_29
                              refine y_if (fun c454 => ?_) (fun c454 => ?_)
                              · skip
                                have c454' := c454
                                rw [← Int32.toInt_inj] at c454'
                                have e455 := y_or0 h0_s_29 c454'
                                clear h0_s_29
                                refine y_bi (y_X9_bad) (fun s_31 h_s_31 => ?_)
                                obtain ⟨h0_s_31, h1_s_31⟩ := h_s_31
                                refine y_some ?_
                                try dsimp only
                                have e456 : (1 : Int32).toInt = 1 := rfl
                                refine y_some ?_
                                try dsimp only
                                refine ⟨?_, ?_, ?_, ?_, ?_, ?_, ?_, ?_⟩ <;> (first | with_reducible rfl | with_reducible assumption | omega | (exfalso; omega) | (exact Or.inr rfl) | (exact Or.inl (by omega)))
                              · skip
                                have c454' := c454
                                rw [← Int32.toInt_inj] at c454'
                                have e457 := y_or1 h0_s_29 c454'
                                clear h0_s_29
                                refine y_if (fun c458 => ?_) (fun c458 => ?_)
                                · skip
                                  have c458' := c458
                                  rw [← Int32.toInt_inj] at c458'
                                  refine y_bi (y_X9_bad) (fun s_33 h_s_33 => ?_)
                                  obtain ⟨h0_s_33, h1_s_33⟩ := h_s_33
                                  refine y_some ?_
                                  try dsimp only
                                  have e459 : (1 : Int32).toInt = 1 := rfl
                                  refine y_some ?_
                                  try dsimp only
                                  refine ⟨?_, ?_, ?_, ?_, ?_, ?_, ?_, ?_⟩ <;> (first | with_reducible rfl | with_reducible assumption | omega | (exfalso; omega) | (exact Or.inr rfl) | (exact Or.inl (by omega)))
                                · skip
                                  have c458' := c458
                                  rw [← Int32.toInt_inj] at c458'
                                  refine y_if (fun c460 => ?_) (fun c460 => ?_)
                                  · skip
                                    have c460' := c460
                                    rw [← Int32.toInt_inj] at c460'
                                    refine y_gd (y_gdI (by omega) (by omega)) ?_
                                    refine y_if (fun c461 => ?_) (fun c461 => ?_)
                                    · skip
                                      have c461' := c461
                                      rw [← Int32.toInt_inj] at c461'
                                      refine y_if (fun c462 => ?_) (fun c462 => ?_)
                                      · skip
                                        have c462' := c462
                                        rw [Int32.lt_iff_toInt_lt] at c462'
                                        refine y_bi (y_X9_bad) (fun s_47 h_s_47 => ?_)
                                        obtain ⟨h0_s_47, h1_s_47⟩ := h_s_47
                                        refine y_some ?_
                                        try dsimp only
                                        have e463 : (1 : Int32).toInt = 1 := rfl
                                        refine y_some ?_
                                        try dsimp only
                                        refine ⟨?_, ?_, ?_, ?_, ?_, ?_, ?_, ?_⟩ <;> (first | with_reducible rfl | with_reducible assumption | omega | (exfalso; omega) | (exact Or.inr rfl) | (exact Or.inl (by omega)))
                                      · skip
                                        have c462' := c462
                                        rw [Int32.lt_iff_toInt_lt] at c462'
                                        refine y_if (fun c464 => ?_) (fun c464 => ?_)
                                        · skip
                                          have c464' := c464
                                          rw [Int32.lt_iff_toInt_lt] at c464'
                                          refine y_bi (y_X9_bad) (fun s_49 h_s_49 => ?_)
                                          obtain ⟨h0_s_49, h1_s_49⟩ := h_s_49
                                          refine y_some ?_
                                          try dsimp only
                                          have e465 : (1 : Int32).toInt = 1 := rfl
                                          refine y_some ?_
                                          try dsimp only
                                          refine ⟨?_, ?_, ?_, ?_, ?_, ?_, ?_, ?_⟩ <;> (first | with_reducible rfl | with_reducible assumption | omega | (exfalso; omega) | (exact Or.inr rfl) | (exact Or.inl (by omega)))
                                        · skip
                                          have c464' := c464
                                          rw [Int32.lt_iff_toInt_lt] at c464'
                                          refine y_if (fun c466 => ?_) (fun c466 => ?_)
                                          · skip
                                            have c466' := c466
                                            rw [Int32.lt_iff_toInt_lt] at c466'
                                            refine y_bi (y_X9_bad) (fun s_51 h_s_51 => ?_)
                                            obtain ⟨h0_s_51, h1_s_51⟩ := h_s_51
                                            refine y_some ?_
                                            try dsimp only
                                            have e467 : (1 : Int32).toInt = 1 := rfl
                                            refine y_some ?_
                                            try dsimp only
                                            refine ⟨?_, ?_, ?_, ?_, ?_, ?_, ?_, ?_⟩ <;> (first | with_reducible rfl | with_reducible assumption | omega | (exfalso; omega) | (exact Or.inr rfl) | (exact Or.inl (by omega)))
                                          · skip
                                            have c466' := c466
                                            rw [Int32.lt_iff_toInt_lt] at c466'
                                            refine y_if (fun c468 => ?_) (fun c468 => ?_)
                                            · skip
                                              have c468' := c468
                                              rw [Int32.le_iff_toInt_le] at c468'
                                              refine y_some ?_
                                              try dsimp only
                                              have e469 : (1 : Int32).toInt = 1 := rfl
                                              refine y_some ?_
                                              try dsimp only
                                              refine ⟨?_, ?_, ?_, ?_, ?_, ?_, ?_, ?_⟩ <;> (first | with_reducible rfl | with_reducible assumption | omega | (exfalso; omega) | (exact Or.inr rfl) | (exact Or.inl (by omega)))
                                            · skip
                                              have c468' := c468
                                              rw [Int32.le_iff_toInt_le] at c468'
                                              refine y_bi (y_X9_bad) (fun s_53 h_s_53 => ?_)
                                              obtain ⟨h0_s_53, h1_s_53⟩ := h_s_53
                                              refine y_some ?_
                                              try dsimp only
                                              have e470 : (1 : Int32).toInt = 1 := rfl
                                              refine y_some ?_
                                              try dsimp only
                                              refine ⟨?_, ?_, ?_, ?_, ?_, ?_, ?_, ?_⟩ <;> (first | with_reducible rfl | with_reducible assumption | omega | (exfalso; omega) | (exact Or.inr rfl) | (exact Or.inl (by omega)))
                                    · skip
                                      have c461' := c461
                                      rw [← Int32.toInt_inj] at c461'
                                      refine y_bi (y_X9_bad) (fun s_45 h_s_45 => ?_)
                                      obtain ⟨h0_s_45, h1_s_45⟩ := h_s_45
                                      refine y_some ?_
                                      try dsimp only
                                      have e471 : (1 : Int32).toInt = 1 := rfl
                                      refine y_some ?_
                                      try dsimp only
                                      refine ⟨?_, ?_, ?_, ?_, ?_, ?_, ?_, ?_⟩ <;> (first | with_reducible rfl | with_reducible assumption | omega | (exfalso; omega) | (exact Or.inr rfl) | (exact Or.inl (by omega)))
                                  · skip
                                    have c460' := c460
                                    rw [← Int32.toInt_inj] at c460'
                                    refine y_if (fun c472 => ?_) (fun c472 => ?_)
                                    · skip
                                      have c472' := c472
                                      rw [Int32.lt_iff_toInt_lt] at c472'
                                      refine y_bi (y_X9_bad) (fun s_36 h_s_36 => ?_)
                                      obtain ⟨h0_s_36, h1_s_36⟩ := h_s_36
                                      refine y_some ?_
                                      try dsimp only
                                      have e473 : (1 : Int32).toInt = 1 := rfl
                                      refine y_some ?_
                                      try dsimp only
                                      refine ⟨?_, ?_, ?_, ?_, ?_, ?_, ?_, ?_⟩ <;> (first | with_reducible rfl | with_reducible assumption | omega | (exfalso; omega) | (exact Or.inr rfl) | (exact Or.inl (by omega)))
                                    · skip
                                      have c472' := c472
                                      rw [Int32.lt_iff_toInt_lt] at c472'
                                      refine y_if (fun c474 => ?_) (fun c474 => ?_)
                                      · skip
                                        have c474' := c474
                                        rw [Int32.lt_iff_toInt_lt] at c474'
                                        refine y_bi (y_X9_bad) (fun s_38 h_s_38 => ?_)
                                        obtain ⟨h0_s_38, h1_s_38⟩ := h_s_38
                                        refine y_some ?_
                                        try dsimp only
                                        have e475 : (1 : Int32).toInt = 1 := rfl
                                        refine y_some ?_
                                        try dsimp only
                                        refine ⟨?_, ?_, ?_, ?_, ?_, ?_, ?_, ?_⟩ <;> (first | with_reducible rfl | with_reducible assumption | omega | (exfalso; omega) | (exact Or.inr rfl) | (exact Or.inl (by omega)))
                                      · skip
                                        have c474' := c474
                                        rw [Int32.lt_iff_toInt_lt] at c474'
                                        refine y_if (fun c476 => ?_) (fun c476 => ?_)
                                        · skip
                                          have c476' := c476
                                          rw [Int32.lt_iff_toInt_lt] at c476'
                                          refine y_bi (y_X9_bad) (fun s_40 h_s_40 => ?_)
                                          obtain ⟨h0_s_40, h1_s_40⟩ := h_s_40
                                          refine y_some ?_
                                          try dsimp only
                                          have e477 : (1 : Int32).toInt = 1 := rfl
                                          refine y_some ?_
                                          try dsimp only
                                          refine ⟨?_, ?_, ?_, ?_, ?_, ?_, ?_, ?_⟩ <;> (first | with_reducible rfl | with_reducible assumption | omega | (exfalso; omega) | (exact Or.inr rfl) | (exact Or.inl (by omega)))
                                        · skip
                                          have c476' := c476
                                          rw [Int32.lt_iff_toInt_lt] at c476'
                                          refine y_if (fun c478 => ?_) (fun c478 => ?_)
                                          · skip
                                            have c478' := c478
                                            rw [Int32.le_iff_toInt_le] at c478'
                                            refine y_some ?_
                                            try dsimp only
                                            have e479 : (1 : Int32).toInt = 1 := rfl
                                            refine y_some ?_
                                            try dsimp only
                                            refine ⟨?_, ?_, ?_, ?_, ?_, ?_, ?_, ?_⟩ <;> (first | with_reducible rfl | with_reducible assumption | omega | (exfalso; omega) | (exact Or.inr rfl) | (exact Or.inl (by omega)))
                                          · skip
                                            have c478' := c478
                                            rw [Int32.le_iff_toInt_le] at c478'
                                            refine y_bi (y_X9_bad) (fun s_42 h_s_42 => ?_)
                                            obtain ⟨h0_s_42, h1_s_42⟩ := h_s_42
                                            refine y_some ?_
                                            try dsimp only
                                            have e480 : (1 : Int32).toInt = 1 := rfl
                                            refine y_some ?_
                                            try dsimp only
                                            refine ⟨?_, ?_, ?_, ?_, ?_, ?_, ?_, ?_⟩ <;> (first | with_reducible rfl | with_reducible assumption | omega | (exfalso; omega) | (exact Or.inr rfl) | (exact Or.inl (by omega)))
                    · skip
                      have c423' := c423
                      rw [Int32.lt_iff_toInt_lt] at c423'
                      refine y_if (fun c481 => ?_) (fun c481 => ?_)
                      · skip
                        have c481' := c481
                        rw [Int32.le_iff_toInt_le] at c481'
                        refine y_bi (ye_X0_begin) (fun r_20 h_r_20 => ?_)
                        obtain ⟨h0_r_20, h1_r_20, h2_r_20⟩ := h_r_20
                        refine y_some ?_
                        try dsimp only
                        refine y_bt ?_
                        refine y_bi (y_X9_isClass) (fun s_1 h_s_1 => ?_)
                        have h0_s_1 : (s_1.toInt = 0 ∧ ¬ (0 ≤ p1.toInt ∧ p1.toInt < v7_2.toInt)) ∨ (s_1.toInt = 1 ∧ (0 ≤ p1.toInt ∧ p1.toInt < v7_2.toInt)) := h_s_1
                        refine y_if (fun c482 => ?_) (fun c482 => ?_)
                        · skip
                          have c482' := c482
                          rw [← Int32.toInt_inj] at c482'
                          have e483 := y_or0 h0_s_1 c482'
                          clear h0_s_1
                          refine y_bi (y_X9_bad) (fun s_3 h_s_3 => ?_)
                          obtain ⟨h0_s_3, h1_s_3⟩ := h_s_3
                          refine y_some ?_
                          try dsimp only
                          refine y_some ?_
                          try dsimp only
                          refine ⟨?_, ?_, ?_, ?_, ?_, ?_, ?_, ?_⟩ <;> (first | with_reducible rfl | with_reducible assumption | omega | (exfalso; omega) | (exact Or.inr rfl) | (exact Or.inl (by omega)))
                        · skip
                          have c482' := c482
                          rw [← Int32.toInt_inj] at c482'
                          have e484 := y_or1 h0_s_1 c482'
                          clear h0_s_1
                          refine y_if (fun c485 => ?_) (fun c485 => ?_)
                          · skip
                            have c485' := c485
                            rw [Int32.lt_iff_toInt_lt] at c485'
                            refine y_bi (y_X9_bad) (fun s_5 h_s_5 => ?_)
                            obtain ⟨h0_s_5, h1_s_5⟩ := h_s_5
                            refine y_some ?_
                            try dsimp only
                            refine y_some ?_
                            try dsimp only
                            refine ⟨?_, ?_, ?_, ?_, ?_, ?_, ?_, ?_⟩ <;> (first | with_reducible rfl | with_reducible assumption | omega | (exfalso; omega) | (exact Or.inr rfl) | (exact Or.inl (by omega)))
                          · skip
                            have c485' := c485
                            rw [Int32.lt_iff_toInt_lt] at c485'
                            refine y_if (fun c486 => ?_) (fun c486 => ?_)
                            · skip
                              have c486' := c486
                              rw [Int32.lt_iff_toInt_lt] at c486'
                              refine y_bi (y_X9_bad) (fun s_7 h_s_7 => ?_)
                              obtain ⟨h0_s_7, h1_s_7⟩ := h_s_7
                              refine y_some ?_
                              try dsimp only
                              refine y_some ?_
                              try dsimp only
                              refine ⟨?_, ?_, ?_, ?_, ?_, ?_, ?_, ?_⟩ <;> (first | with_reducible rfl | with_reducible assumption | omega | (exfalso; omega) | (exact Or.inr rfl) | (exact Or.inl (by omega)))
                            · skip
                              have c486' := c486
                              rw [Int32.lt_iff_toInt_lt] at c486'
                              refine y_if (fun c487 => ?_) (fun c487 => ?_)
                              · skip
                                have c487' : p3.toInt = -1 := (y_eqN rfl).mp c487
                                refine y_if (fun c488 => ?_) (fun c488 => ?_)
                                · skip
                                  have c488' := c488
                                  rw [← Int32.toInt_inj] at c488'
                                  refine y_gd (y_gdI (by omega) (by omega)) ?_
                                  refine y_if (fun c489 => ?_) (fun c489 => ?_)
                                  · skip
                                    have c489' := c489
                                    rw [← Int32.toInt_inj] at c489'
                                    refine y_if (fun c490 => ?_) (fun c490 => ?_)
                                    · skip
                                      have c490' := c490
                                      rw [Int32.lt_iff_toInt_lt] at c490'
                                      refine y_bi (y_X9_bad) (fun s_22 h_s_22 => ?_)
                                      obtain ⟨h0_s_22, h1_s_22⟩ := h_s_22
                                      refine y_some ?_
                                      try dsimp only
                                      refine y_some ?_
                                      try dsimp only
                                      refine ⟨?_, ?_, ?_, ?_, ?_, ?_, ?_, ?_⟩ <;> (first | with_reducible rfl | with_reducible assumption | omega | (exfalso; omega) | (exact Or.inr rfl) | (exact Or.inl (by omega)))
                                    · skip
                                      have c490' := c490
                                      rw [Int32.lt_iff_toInt_lt] at c490'
                                      refine y_if (fun c491 => ?_) (fun c491 => ?_)
                                      · skip
                                        have c491' := c491
                                        rw [Int32.lt_iff_toInt_lt] at c491'
                                        refine y_bi (y_X9_bad) (fun s_24 h_s_24 => ?_)
                                        obtain ⟨h0_s_24, h1_s_24⟩ := h_s_24
                                        refine y_some ?_
                                        try dsimp only
                                        refine y_some ?_
                                        try dsimp only
                                        refine ⟨?_, ?_, ?_, ?_, ?_, ?_, ?_, ?_⟩ <;> (first | with_reducible rfl | with_reducible assumption | omega | (exfalso; omega) | (exact Or.inr rfl) | (exact Or.inl (by omega)))
                                      · skip
                                        have c491' := c491
                                        rw [Int32.lt_iff_toInt_lt] at c491'
                                        refine y_if (fun c492 => ?_) (fun c492 => ?_)
                                        · skip
                                          have c492' := c492
                                          rw [Int32.lt_iff_toInt_lt] at c492'
                                          refine y_bi (y_X9_bad) (fun s_26 h_s_26 => ?_)
                                          obtain ⟨h0_s_26, h1_s_26⟩ := h_s_26
                                          refine y_some ?_
                                          try dsimp only
                                          refine y_some ?_
                                          try dsimp only
                                          refine ⟨?_, ?_, ?_, ?_, ?_, ?_, ?_, ?_⟩ <;> (first | with_reducible rfl | with_reducible assumption | omega | (exfalso; omega) | (exact Or.inr rfl) | (exact Or.inl (by omega)))
                                        · skip
                                          have c492' := c492
                                          rw [Int32.lt_iff_toInt_lt] at c492'
                                          refine y_if (fun c493 => ?_) (fun c493 => ?_)
                                          · skip
                                            have c493' := c493
                                            rw [Int32.le_iff_toInt_le] at c493'
                                            refine y_some ?_
                                            try dsimp only
                                            refine y_some ?_
                                            try dsimp only
                                            refine ⟨?_, ?_, ?_, ?_, ?_, ?_, ?_, ?_⟩ <;> (first | with_reducible rfl | with_reducible assumption | omega | (exfalso; omega) | (exact Or.inr rfl) | (exact Or.inl (by omega)))
                                          · skip
                                            have c493' := c493
                                            rw [Int32.le_iff_toInt_le] at c493'
                                            refine y_bi (y_X9_bad) (fun s_28 h_s_28 => ?_)
                                            obtain ⟨h0_s_28, h1_s_28⟩ := h_s_28
                                            refine y_some ?_
                                            try dsimp only
                                            refine y_some ?_
                                            try dsimp only
                                            refine ⟨?_, ?_, ?_, ?_, ?_, ?_, ?_, ?_⟩ <;> (first | with_reducible rfl | with_reducible assumption | omega | (exfalso; omega) | (exact Or.inr rfl) | (exact Or.inl (by omega)))
                                  · skip
                                    have c489' := c489
                                    rw [← Int32.toInt_inj] at c489'
                                    refine y_bi (y_X9_bad) (fun s_20 h_s_20 => ?_)
                                    obtain ⟨h0_s_20, h1_s_20⟩ := h_s_20
                                    refine y_some ?_
                                    try dsimp only
                                    refine y_some ?_
                                    try dsimp only
                                    refine ⟨?_, ?_, ?_, ?_, ?_, ?_, ?_, ?_⟩ <;> (first | with_reducible rfl | with_reducible assumption | omega | (exfalso; omega) | (exact Or.inr rfl) | (exact Or.inl (by omega)))
                                · skip
                                  have c488' := c488
                                  rw [← Int32.toInt_inj] at c488'
                                  refine y_if (fun c494 => ?_) (fun c494 => ?_)
                                  · skip
                                    have c494' := c494
                                    rw [Int32.lt_iff_toInt_lt] at c494'
                                    refine y_bi (y_X9_bad) (fun s_11 h_s_11 => ?_)
                                    obtain ⟨h0_s_11, h1_s_11⟩ := h_s_11
                                    refine y_some ?_
                                    try dsimp only
                                    refine y_some ?_
                                    try dsimp only
                                    refine ⟨?_, ?_, ?_, ?_, ?_, ?_, ?_, ?_⟩ <;> (first | with_reducible rfl | with_reducible assumption | omega | (exfalso; omega) | (exact Or.inr rfl) | (exact Or.inl (by omega)))
                                  · skip
                                    have c494' := c494
                                    rw [Int32.lt_iff_toInt_lt] at c494'
                                    refine y_if (fun c495 => ?_) (fun c495 => ?_)
                                    · skip
                                      have c495' := c495
                                      rw [Int32.lt_iff_toInt_lt] at c495'
                                      refine y_bi (y_X9_bad) (fun s_13 h_s_13 => ?_)
                                      obtain ⟨h0_s_13, h1_s_13⟩ := h_s_13
                                      refine y_some ?_
                                      try dsimp only
                                      refine y_some ?_
                                      try dsimp only
                                      refine ⟨?_, ?_, ?_, ?_, ?_, ?_, ?_, ?_⟩ <;> (first | with_reducible rfl | with_reducible assumption | omega | (exfalso; omega) | (exact Or.inr rfl) | (exact Or.inl (by omega)))
                                    · skip
                                      have c495' := c495
                                      rw [Int32.lt_iff_toInt_lt] at c495'
                                      refine y_if (fun c496 => ?_) (fun c496 => ?_)
                                      · skip
                                        have c496' := c496
                                        rw [Int32.lt_iff_toInt_lt] at c496'
                                        refine y_bi (y_X9_bad) (fun s_15 h_s_15 => ?_)
                                        obtain ⟨h0_s_15, h1_s_15⟩ := h_s_15
                                        refine y_some ?_
                                        try dsimp only
                                        refine y_some ?_
                                        try dsimp only
                                        refine ⟨?_, ?_, ?_, ?_, ?_, ?_, ?_, ?_⟩ <;> (first | with_reducible rfl | with_reducible assumption | omega | (exfalso; omega) | (exact Or.inr rfl) | (exact Or.inl (by omega)))
                                      · skip
                                        have c496' := c496
                                        rw [Int32.lt_iff_toInt_lt] at c496'
                                        refine y_if (fun c497 => ?_) (fun c497 => ?_)
                                        · skip
                                          have c497' := c497
                                          rw [Int32.le_iff_toInt_le] at c497'
                                          refine y_some ?_
                                          try dsimp only
                                          refine y_some ?_
                                          try dsimp only
                                          refine ⟨?_, ?_, ?_, ?_, ?_, ?_, ?_, ?_⟩ <;> (first | with_reducible rfl | with_reducible assumption | omega | (exfalso; omega) | (exact Or.inr rfl) | (exact Or.inl (by omega)))
                                        · skip
                                          have c497' := c497
                                          rw [Int32.le_iff_toInt_le] at c497'
                                          refine y_bi (y_X9_bad) (fun s_17 h_s_17 => ?_)
                                          obtain ⟨h0_s_17, h1_s_17⟩ := h_s_17
                                          refine y_some ?_
                                          try dsimp only
                                          refine y_some ?_
                                          try dsimp only
                                          refine ⟨?_, ?_, ?_, ?_, ?_, ?_, ?_, ?_⟩ <;> (first | with_reducible rfl | with_reducible assumption | omega | (exfalso; omega) | (exact Or.inr rfl) | (exact Or.inl (by omega)))
                              · skip
                                have c487' : ¬ p3.toInt = -1 := fun hz => c487 ((y_eqN rfl).mpr hz)
                                refine y_bi (y_X9_isType (by omega) (by omega)) (fun s_29 h_s_29 => ?_)
                                have h0_s_29 : (s_29.toInt = 0 ∧ ¬ (0 ≤ p3.toInt ∧ p3.toInt < 16777216 ∧ (p3.toInt % 65536 < v7_2.toInt ∨ 65528 ≤ p3.toInt % 65536))) ∨ (s_29.toInt = 1 ∧ (0 ≤ p3.toInt ∧ p3.toInt < 16777216 ∧ (p3.toInt % 65536 < v7_2.toInt ∨ 65528 ≤ p3.toInt % 65536))) := h_s_29
                                refine y_if (fun c498 => ?_) (fun c498 => ?_)
                                · skip
                                  have c498' := c498
                                  rw [← Int32.toInt_inj] at c498'
                                  have e499 := y_or0 h0_s_29 c498'
                                  clear h0_s_29
                                  refine y_bi (y_X9_bad) (fun s_31 h_s_31 => ?_)
                                  obtain ⟨h0_s_31, h1_s_31⟩ := h_s_31
                                  refine y_some ?_
                                  try dsimp only
                                  refine y_some ?_
                                  try dsimp only
                                  refine ⟨?_, ?_, ?_, ?_, ?_, ?_, ?_, ?_⟩ <;> (first | with_reducible rfl | with_reducible assumption | omega | (exfalso; omega) | (exact Or.inr rfl) | (exact Or.inl (by omega)))
                                · skip
                                  have c498' := c498
                                  rw [← Int32.toInt_inj] at c498'
                                  have e500 := y_or1 h0_s_29 c498'
                                  clear h0_s_29
                                  refine y_if (fun c501 => ?_) (fun c501 => ?_)
                                  · skip
                                    have c501' := c501
                                    rw [← Int32.toInt_inj] at c501'
                                    refine y_bi (y_X9_bad) (fun s_33 h_s_33 => ?_)
                                    obtain ⟨h0_s_33, h1_s_33⟩ := h_s_33
                                    refine y_some ?_
                                    try dsimp only
                                    refine y_some ?_
                                    try dsimp only
                                    refine ⟨?_, ?_, ?_, ?_, ?_, ?_, ?_, ?_⟩ <;> (first | with_reducible rfl | with_reducible assumption | omega | (exfalso; omega) | (exact Or.inr rfl) | (exact Or.inl (by omega)))
                                  · skip
                                    have c501' := c501
                                    rw [← Int32.toInt_inj] at c501'
                                    refine y_if (fun c502 => ?_) (fun c502 => ?_)
                                    · skip
                                      have c502' := c502
                                      rw [← Int32.toInt_inj] at c502'
                                      refine y_gd (y_gdI (by omega) (by omega)) ?_
                                      refine y_if (fun c503 => ?_) (fun c503 => ?_)
                                      · skip
                                        have c503' := c503
                                        rw [← Int32.toInt_inj] at c503'
                                        refine y_if (fun c504 => ?_) (fun c504 => ?_)
                                        · skip
                                          have c504' := c504
                                          rw [Int32.lt_iff_toInt_lt] at c504'
                                          refine y_bi (y_X9_bad) (fun s_47 h_s_47 => ?_)
                                          obtain ⟨h0_s_47, h1_s_47⟩ := h_s_47
                                          refine y_some ?_
                                          try dsimp only
                                          refine y_some ?_
                                          try dsimp only
                                          refine ⟨?_, ?_, ?_, ?_, ?_, ?_, ?_, ?_⟩ <;> (first | with_reducible rfl | with_reducible assumption | omega | (exfalso; omega) | (exact Or.inr rfl) | (exact Or.inl (by omega)))
                                        · skip
                                          have c504' := c504
                                          rw [Int32.lt_iff_toInt_lt] at c504'
                                          refine y_if (fun c505 => ?_) (fun c505 => ?_)
                                          · skip
                                            have c505' := c505
                                            rw [Int32.lt_iff_toInt_lt] at c505'
                                            refine y_bi (y_X9_bad) (fun s_49 h_s_49 => ?_)
                                            obtain ⟨h0_s_49, h1_s_49⟩ := h_s_49
                                            refine y_some ?_
                                            try dsimp only
                                            refine y_some ?_
                                            try dsimp only
                                            refine ⟨?_, ?_, ?_, ?_, ?_, ?_, ?_, ?_⟩ <;> (first | with_reducible rfl | with_reducible assumption | omega | (exfalso; omega) | (exact Or.inr rfl) | (exact Or.inl (by omega)))
                                          · skip
                                            have c505' := c505
                                            rw [Int32.lt_iff_toInt_lt] at c505'
                                            refine y_if (fun c506 => ?_) (fun c506 => ?_)
                                            · skip
                                              have c506' := c506
                                              rw [Int32.lt_iff_toInt_lt] at c506'
                                              refine y_bi (y_X9_bad) (fun s_51 h_s_51 => ?_)
                                              obtain ⟨h0_s_51, h1_s_51⟩ := h_s_51
                                              refine y_some ?_
                                              try dsimp only
                                              refine y_some ?_
                                              try dsimp only
                                              refine ⟨?_, ?_, ?_, ?_, ?_, ?_, ?_, ?_⟩ <;> (first | with_reducible rfl | with_reducible assumption | omega | (exfalso; omega) | (exact Or.inr rfl) | (exact Or.inl (by omega)))
                                            · skip
                                              have c506' := c506
                                              rw [Int32.lt_iff_toInt_lt] at c506'
                                              refine y_if (fun c507 => ?_) (fun c507 => ?_)
                                              · skip
                                                have c507' := c507
                                                rw [Int32.le_iff_toInt_le] at c507'
                                                refine y_some ?_
                                                try dsimp only
                                                refine y_some ?_
                                                try dsimp only
                                                refine ⟨?_, ?_, ?_, ?_, ?_, ?_, ?_, ?_⟩ <;> (first | with_reducible rfl | with_reducible assumption | omega | (exfalso; omega) | (exact Or.inr rfl) | (exact Or.inl (by omega)))
                                              · skip
                                                have c507' := c507
                                                rw [Int32.le_iff_toInt_le] at c507'
                                                refine y_bi (y_X9_bad) (fun s_53 h_s_53 => ?_)
                                                obtain ⟨h0_s_53, h1_s_53⟩ := h_s_53
                                                refine y_some ?_
                                                try dsimp only
                                                refine y_some ?_
                                                try dsimp only
                                                refine ⟨?_, ?_, ?_, ?_, ?_, ?_, ?_, ?_⟩ <;> (first | with_reducible rfl | with_reducible assumption | omega | (exfalso; omega) | (exact Or.inr rfl) | (exact Or.inl (by omega)))
                                      · skip
                                        have c503' := c503
                                        rw [← Int32.toInt_inj] at c503'
                                        refine y_bi (y_X9_bad) (fun s_45 h_s_45 => ?_)
                                        obtain ⟨h0_s_45, h1_s_45⟩ := h_s_45
                                        refine y_some ?_
                                        try dsimp only
                                        refine y_some ?_
                                        try dsimp only
                                        refine ⟨?_, ?_, ?_, ?_, ?_, ?_, ?_, ?_⟩ <;> (first | with_reducible rfl | with_reducible assumption | omega | (exfalso; omega) | (exact Or.inr rfl) | (exact Or.inl (by omega)))
                                    · skip
                                      have c502' := c502
                                      rw [← Int32.toInt_inj] at c502'
                                      refine y_if (fun c508 => ?_) (fun c508 => ?_)
                                      · skip
                                        have c508' := c508
                                        rw [Int32.lt_iff_toInt_lt] at c508'
                                        refine y_bi (y_X9_bad) (fun s_36 h_s_36 => ?_)
                                        obtain ⟨h0_s_36, h1_s_36⟩ := h_s_36
                                        refine y_some ?_
                                        try dsimp only
                                        refine y_some ?_
                                        try dsimp only
                                        refine ⟨?_, ?_, ?_, ?_, ?_, ?_, ?_, ?_⟩ <;> (first | with_reducible rfl | with_reducible assumption | omega | (exfalso; omega) | (exact Or.inr rfl) | (exact Or.inl (by omega)))
                                      · skip
                                        have c508' := c508
                                        rw [Int32.lt_iff_toInt_lt] at c508'
                                        refine y_if (fun c509 => ?_) (fun c509 => ?_)
                                        · skip
                                          have c509' := c509
                                          rw [Int32.lt_iff_toInt_lt] at c509'
                                          refine y_bi (y_X9_bad) (fun s_38 h_s_38 => ?_)
                                          obtain ⟨h0_s_38, h1_s_38⟩ := h_s_38
                                          refine y_some ?_
                                          try dsimp only
                                          refine y_some ?_
                                          try dsimp only
                                          refine ⟨?_, ?_, ?_, ?_, ?_, ?_, ?_, ?_⟩ <;> (first | with_reducible rfl | with_reducible assumption | omega | (exfalso; omega) | (exact Or.inr rfl) | (exact Or.inl (by omega)))
                                        · skip
                                          have c509' := c509
                                          rw [Int32.lt_iff_toInt_lt] at c509'
                                          refine y_if (fun c510 => ?_) (fun c510 => ?_)
                                          · skip
                                            have c510' := c510
                                            rw [Int32.lt_iff_toInt_lt] at c510'
                                            refine y_bi (y_X9_bad) (fun s_40 h_s_40 => ?_)
                                            obtain ⟨h0_s_40, h1_s_40⟩ := h_s_40
                                            refine y_some ?_
                                            try dsimp only
                                            refine y_some ?_
                                            try dsimp only
                                            refine ⟨?_, ?_, ?_, ?_, ?_, ?_, ?_, ?_⟩ <;> (first | with_reducible rfl | with_reducible assumption | omega | (exfalso; omega) | (exact Or.inr rfl) | (exact Or.inl (by omega)))
                                          · skip
                                            have c510' := c510
                                            rw [Int32.lt_iff_toInt_lt] at c510'
                                            refine y_if (fun c511 => ?_) (fun c511 => ?_)
                                            · skip
                                              have c511' := c511
                                              rw [Int32.le_iff_toInt_le] at c511'
                                              refine y_some ?_
                                              try dsimp only
                                              refine y_some ?_
                                              try dsimp only
                                              refine ⟨?_, ?_, ?_, ?_, ?_, ?_, ?_, ?_⟩ <;> (first | with_reducible rfl | with_reducible assumption | omega | (exfalso; omega) | (exact Or.inr rfl) | (exact Or.inl (by omega)))
                                            · skip
                                              have c511' := c511
                                              rw [Int32.le_iff_toInt_le] at c511'
                                              refine y_bi (y_X9_bad) (fun s_42 h_s_42 => ?_)
                                              obtain ⟨h0_s_42, h1_s_42⟩ := h_s_42
                                              refine y_some ?_
                                              try dsimp only
                                              refine y_some ?_
                                              try dsimp only
                                              refine ⟨?_, ?_, ?_, ?_, ?_, ?_, ?_, ?_⟩ <;> (first | with_reducible rfl | with_reducible assumption | omega | (exfalso; omega) | (exact Or.inr rfl) | (exact Or.inl (by omega)))
                      · skip
                        have c481' := c481
                        rw [Int32.le_iff_toInt_le] at c481'
                        refine y_some ?_
                        try dsimp only
                        refine y_bt ?_
                        refine y_bi (y_X9_isClass) (fun s_1 h_s_1 => ?_)
                        have h0_s_1 : (s_1.toInt = 0 ∧ ¬ (0 ≤ p1.toInt ∧ p1.toInt < v7_2.toInt)) ∨ (s_1.toInt = 1 ∧ (0 ≤ p1.toInt ∧ p1.toInt < v7_2.toInt)) := h_s_1
                        refine y_if (fun c512 => ?_) (fun c512 => ?_)
                        · skip
                          have c512' := c512
                          rw [← Int32.toInt_inj] at c512'
                          have e513 := y_or0 h0_s_1 c512'
                          clear h0_s_1
                          refine y_bi (y_X9_bad) (fun s_3 h_s_3 => ?_)
                          obtain ⟨h0_s_3, h1_s_3⟩ := h_s_3
                          refine y_some ?_
                          try dsimp only
                          have e514 : (1 : Int32).toInt = 1 := rfl
                          refine y_some ?_
                          try dsimp only
                          refine ⟨?_, ?_, ?_, ?_, ?_, ?_, ?_, ?_⟩ <;> (first | with_reducible rfl | with_reducible assumption | omega | (exfalso; omega) | (exact Or.inr rfl) | (exact Or.inl (by omega)))
                        · skip
                          have c512' := c512
                          rw [← Int32.toInt_inj] at c512'
                          have e515 := y_or1 h0_s_1 c512'
                          clear h0_s_1
                          refine y_if (fun c516 => ?_) (fun c516 => ?_)
                          · skip
                            have c516' := c516
                            rw [Int32.lt_iff_toInt_lt] at c516'
                            refine y_bi (y_X9_bad) (fun s_5 h_s_5 => ?_)
                            obtain ⟨h0_s_5, h1_s_5⟩ := h_s_5
                            refine y_some ?_
                            try dsimp only
                            have e517 : (1 : Int32).toInt = 1 := rfl
                            refine y_some ?_
                            try dsimp only
                            refine ⟨?_, ?_, ?_, ?_, ?_, ?_, ?_, ?_⟩ <;> (first | with_reducible rfl | with_reducible assumption | omega | (exfalso; omega) | (exact Or.inr rfl) | (exact Or.inl (by omega)))
                          · skip
                            have c516' := c516
                            rw [Int32.lt_iff_toInt_lt] at c516'
                            refine y_if (fun c518 => ?_) (fun c518 => ?_)
                            · skip
                              have c518' := c518
                              rw [Int32.lt_iff_toInt_lt] at c518'
                              refine y_bi (y_X9_bad) (fun s_7 h_s_7 => ?_)
                              obtain ⟨h0_s_7, h1_s_7⟩ := h_s_7
                              refine y_some ?_
                              try dsimp only
                              have e519 : (1 : Int32).toInt = 1 := rfl
                              refine y_some ?_
                              try dsimp only
                              refine ⟨?_, ?_, ?_, ?_, ?_, ?_, ?_, ?_⟩ <;> (first | with_reducible rfl | with_reducible assumption | omega | (exfalso; omega) | (exact Or.inr rfl) | (exact Or.inl (by omega)))
                            · skip
                              have c518' := c518
                              rw [Int32.lt_iff_toInt_lt] at c518'
                              refine y_if (fun c520 => ?_) (fun c520 => ?_)
                              · skip
                                have c520' : p3.toInt = -1 := (y_eqN rfl).mp c520
                                refine y_if (fun c521 => ?_) (fun c521 => ?_)
                                · skip
                                  have c521' := c521
                                  rw [← Int32.toInt_inj] at c521'
                                  refine y_gd (y_gdI (by omega) (by omega)) ?_
                                  refine y_if (fun c522 => ?_) (fun c522 => ?_)
                                  · skip
                                    have c522' := c522
                                    rw [← Int32.toInt_inj] at c522'
                                    refine y_if (fun c523 => ?_) (fun c523 => ?_)
                                    · skip
                                      have c523' := c523
                                      rw [Int32.lt_iff_toInt_lt] at c523'
                                      refine y_bi (y_X9_bad) (fun s_22 h_s_22 => ?_)
                                      obtain ⟨h0_s_22, h1_s_22⟩ := h_s_22
                                      refine y_some ?_
                                      try dsimp only
                                      have e524 : (1 : Int32).toInt = 1 := rfl
                                      refine y_some ?_
                                      try dsimp only
                                      refine ⟨?_, ?_, ?_, ?_, ?_, ?_, ?_, ?_⟩ <;> (first | with_reducible rfl | with_reducible assumption | omega | (exfalso; omega) | (exact Or.inr rfl) | (exact Or.inl (by omega)))
                                    · skip
                                      have c523' := c523
                                      rw [Int32.lt_iff_toInt_lt] at c523'
                                      refine y_if (fun c525 => ?_) (fun c525 => ?_)
                                      · skip
                                        have c525' := c525
                                        rw [Int32.lt_iff_toInt_lt] at c525'
                                        refine y_bi (y_X9_bad) (fun s_24 h_s_24 => ?_)
                                        obtain ⟨h0_s_24, h1_s_24⟩ := h_s_24
                                        refine y_some ?_
                                        try dsimp only
                                        have e526 : (1 : Int32).toInt = 1 := rfl
                                        refine y_some ?_
                                        try dsimp only
                                        refine ⟨?_, ?_, ?_, ?_, ?_, ?_, ?_, ?_⟩ <;> (first | with_reducible rfl | with_reducible assumption | omega | (exfalso; omega) | (exact Or.inr rfl) | (exact Or.inl (by omega)))
                                      · skip
                                        have c525' := c525
                                        rw [Int32.lt_iff_toInt_lt] at c525'
                                        refine y_if (fun c527 => ?_) (fun c527 => ?_)
                                        · skip
                                          have c527' := c527
                                          rw [Int32.lt_iff_toInt_lt] at c527'
                                          refine y_bi (y_X9_bad) (fun s_26 h_s_26 => ?_)
                                          obtain ⟨h0_s_26, h1_s_26⟩ := h_s_26
                                          refine y_some ?_
                                          try dsimp only
                                          have e528 : (1 : Int32).toInt = 1 := rfl
                                          refine y_some ?_
                                          try dsimp only
                                          refine ⟨?_, ?_, ?_, ?_, ?_, ?_, ?_, ?_⟩ <;> (first | with_reducible rfl | with_reducible assumption | omega | (exfalso; omega) | (exact Or.inr rfl) | (exact Or.inl (by omega)))
                                        · skip
                                          have c527' := c527
                                          rw [Int32.lt_iff_toInt_lt] at c527'
                                          refine y_if (fun c529 => ?_) (fun c529 => ?_)
                                          · skip
                                            have c529' := c529
                                            rw [Int32.le_iff_toInt_le] at c529'
                                            refine y_some ?_
                                            try dsimp only
                                            have e530 : (1 : Int32).toInt = 1 := rfl
                                            refine y_some ?_
                                            try dsimp only
                                            refine ⟨?_, ?_, ?_, ?_, ?_, ?_, ?_, ?_⟩ <;> (first | with_reducible rfl | with_reducible assumption | omega | (exfalso; omega) | (exact Or.inr rfl) | (exact Or.inl (by omega)))
                                          · skip
                                            have c529' := c529
                                            rw [Int32.le_iff_toInt_le] at c529'
                                            refine y_bi (y_X9_bad) (fun s_28 h_s_28 => ?_)
                                            obtain ⟨h0_s_28, h1_s_28⟩ := h_s_28
                                            refine y_some ?_
                                            try dsimp only
                                            have e531 : (1 : Int32).toInt = 1 := rfl
                                            refine y_some ?_
                                            try dsimp only
                                            refine ⟨?_, ?_, ?_, ?_, ?_, ?_, ?_, ?_⟩ <;> (first | with_reducible rfl | with_reducible assumption | omega | (exfalso; omega) | (exact Or.inr rfl) | (exact Or.inl (by omega)))
                                  · skip
                                    have c522' := c522
                                    rw [← Int32.toInt_inj] at c522'
                                    refine y_bi (y_X9_bad) (fun s_20 h_s_20 => ?_)
                                    obtain ⟨h0_s_20, h1_s_20⟩ := h_s_20
                                    refine y_some ?_
                                    try dsimp only
                                    have e532 : (1 : Int32).toInt = 1 := rfl
                                    refine y_some ?_
                                    try dsimp only
                                    refine ⟨?_, ?_, ?_, ?_, ?_, ?_, ?_, ?_⟩ <;> (first | with_reducible rfl | with_reducible assumption | omega | (exfalso; omega) | (exact Or.inr rfl) | (exact Or.inl (by omega)))
                                · skip
                                  have c521' := c521
                                  rw [← Int32.toInt_inj] at c521'
                                  refine y_if (fun c533 => ?_) (fun c533 => ?_)
                                  · skip
                                    have c533' := c533
                                    rw [Int32.lt_iff_toInt_lt] at c533'
                                    refine y_bi (y_X9_bad) (fun s_11 h_s_11 => ?_)
                                    obtain ⟨h0_s_11, h1_s_11⟩ := h_s_11
                                    refine y_some ?_
                                    try dsimp only
                                    have e534 : (1 : Int32).toInt = 1 := rfl
                                    refine y_some ?_
                                    try dsimp only
                                    refine ⟨?_, ?_, ?_, ?_, ?_, ?_, ?_, ?_⟩ <;> (first | with_reducible rfl | with_reducible assumption | omega | (exfalso; omega) | (exact Or.inr rfl) | (exact Or.inl (by omega)))
                                  · skip
                                    have c533' := c533
                                    rw [Int32.lt_iff_toInt_lt] at c533'
                                    refine y_if (fun c535 => ?_) (fun c535 => ?_)
                                    · skip
                                      have c535' := c535
                                      rw [Int32.lt_iff_toInt_lt] at c535'
                                      refine y_bi (y_X9_bad) (fun s_13 h_s_13 => ?_)
                                      obtain ⟨h0_s_13, h1_s_13⟩ := h_s_13
                                      refine y_some ?_
                                      try dsimp only
                                      have e536 : (1 : Int32).toInt = 1 := rfl
                                      refine y_some ?_
                                      try dsimp only
                                      refine ⟨?_, ?_, ?_, ?_, ?_, ?_, ?_, ?_⟩ <;> (first | with_reducible rfl | with_reducible assumption | omega | (exfalso; omega) | (exact Or.inr rfl) | (exact Or.inl (by omega)))
                                    · skip
                                      have c535' := c535
                                      rw [Int32.lt_iff_toInt_lt] at c535'
                                      refine y_if (fun c537 => ?_) (fun c537 => ?_)
                                      · skip
                                        have c537' := c537
                                        rw [Int32.lt_iff_toInt_lt] at c537'
                                        refine y_bi (y_X9_bad) (fun s_15 h_s_15 => ?_)
                                        obtain ⟨h0_s_15, h1_s_15⟩ := h_s_15
                                        refine y_some ?_
                                        try dsimp only
                                        have e538 : (1 : Int32).toInt = 1 := rfl
                                        refine y_some ?_
                                        try dsimp only
                                        refine ⟨?_, ?_, ?_, ?_, ?_, ?_, ?_, ?_⟩ <;> (first | with_reducible rfl | with_reducible assumption | omega | (exfalso; omega) | (exact Or.inr rfl) | (exact Or.inl (by omega)))
                                      · skip
                                        have c537' := c537
                                        rw [Int32.lt_iff_toInt_lt] at c537'
                                        refine y_if (fun c539 => ?_) (fun c539 => ?_)
                                        · skip
                                          have c539' := c539
                                          rw [Int32.le_iff_toInt_le] at c539'
                                          refine y_some ?_
                                          try dsimp only
                                          have e540 : (1 : Int32).toInt = 1 := rfl
                                          refine y_some ?_
                                          try dsimp only
                                          refine ⟨?_, ?_, ?_, ?_, ?_, ?_, ?_, ?_⟩ <;> (first | with_reducible rfl | with_reducible assumption | omega | (exfalso; omega) | (exact Or.inr rfl) | (exact Or.inl (by omega)))
                                        · skip
                                          have c539' := c539
                                          rw [Int32.le_iff_toInt_le] at c539'
                                          refine y_bi (y_X9_bad) (fun s_17 h_s_17 => ?_)
                                          obtain ⟨h0_s_17, h1_s_17⟩ := h_s_17
                                          refine y_some ?_
                                          try dsimp only
                                          have e541 : (1 : Int32).toInt = 1 := rfl
                                          refine y_some ?_
                                          try dsimp only
                                          refine ⟨?_, ?_, ?_, ?_, ?_, ?_, ?_, ?_⟩ <;> (first | with_reducible rfl | with_reducible assumption | omega | (exfalso; omega) | (exact Or.inr rfl) | (exact Or.inl (by omega)))
                              · skip
                                have c520' : ¬ p3.toInt = -1 := fun hz => c520 ((y_eqN rfl).mpr hz)
                                refine y_bi (y_X9_isType (by omega) (by omega)) (fun s_29 h_s_29 => ?_)
                                have h0_s_29 : (s_29.toInt = 0 ∧ ¬ (0 ≤ p3.toInt ∧ p3.toInt < 16777216 ∧ (p3.toInt % 65536 < v7_2.toInt ∨ 65528 ≤ p3.toInt % 65536))) ∨ (s_29.toInt = 1 ∧ (0 ≤ p3.toInt ∧ p3.toInt < 16777216 ∧ (p3.toInt % 65536 < v7_2.toInt ∨ 65528 ≤ p3.toInt % 65536))) := h_s_29
                                refine y_if (fun c542 => ?_) (fun c542 => ?_)
                                · skip
                                  have c542' := c542
                                  rw [← Int32.toInt_inj] at c542'
                                  have e543 := y_or0 h0_s_29 c542'
                                  clear h0_s_29
                                  refine y_bi (y_X9_bad) (fun s_31 h_s_31 => ?_)
                                  obtain ⟨h0_s_31, h1_s_31⟩ := h_s_31
                                  refine y_some ?_
                                  try dsimp only
                                  have e544 : (1 : Int32).toInt = 1 := rfl
                                  refine y_some ?_
                                  try dsimp only
                                  refine ⟨?_, ?_, ?_, ?_, ?_, ?_, ?_, ?_⟩ <;> (first | with_reducible rfl | with_reducible assumption | omega | (exfalso; omega) | (exact Or.inr rfl) | (exact Or.inl (by omega)))
                                · skip
                                  have c542' := c542
                                  rw [← Int32.toInt_inj] at c542'
                                  have e545 := y_or1 h0_s_29 c542'
                                  clear h0_s_29
                                  refine y_if (fun c546 => ?_) (fun c546 => ?_)
                                  · skip
                                    have c546' := c546
                                    rw [← Int32.toInt_inj] at c546'
                                    refine y_bi (y_X9_bad) (fun s_33 h_s_33 => ?_)
                                    obtain ⟨h0_s_33, h1_s_33⟩ := h_s_33
                                    refine y_some ?_
                                    try dsimp only
                                    have e547 : (1 : Int32).toInt = 1 := rfl
                                    refine y_some ?_
                                    try dsimp only
                                    refine ⟨?_, ?_, ?_, ?_, ?_, ?_, ?_, ?_⟩ <;> (first | with_reducible rfl | with_reducible assumption | omega | (exfalso; omega) | (exact Or.inr rfl) | (exact Or.inl (by omega)))
                                  · skip
                                    have c546' := c546
                                    rw [← Int32.toInt_inj] at c546'
                                    refine y_if (fun c548 => ?_) (fun c548 => ?_)
                                    · skip
                                      have c548' := c548
                                      rw [← Int32.toInt_inj] at c548'
                                      refine y_gd (y_gdI (by omega) (by omega)) ?_
                                      refine y_if (fun c549 => ?_) (fun c549 => ?_)
                                      · skip
                                        have c549' := c549
                                        rw [← Int32.toInt_inj] at c549'
                                        refine y_if (fun c550 => ?_) (fun c550 => ?_)
                                        · skip
                                          have c550' := c550
                                          rw [Int32.lt_iff_toInt_lt] at c550'
                                          refine y_bi (y_X9_bad) (fun s_47 h_s_47 => ?_)
                                          obtain ⟨h0_s_47, h1_s_47⟩ := h_s_47
                                          refine y_some ?_
                                          try dsimp only
                                          have e551 : (1 : Int32).toInt = 1 := rfl
                                          refine y_some ?_
                                          try dsimp only
                                          refine ⟨?_, ?_, ?_, ?_, ?_, ?_, ?_, ?_⟩ <;> (first | with_reducible rfl | with_reducible assumption | omega | (exfalso; omega) | (exact Or.inr rfl) | (exact Or.inl (by omega)))
                                        · skip
                                          have c550' := c550
                                          rw [Int32.lt_iff_toInt_lt] at c550'
                                          refine y_if (fun c552 => ?_) (fun c552 => ?_)
                                          · skip
                                            have c552' := c552
                                            rw [Int32.lt_iff_toInt_lt] at c552'
                                            refine y_bi (y_X9_bad) (fun s_49 h_s_49 => ?_)
                                            obtain ⟨h0_s_49, h1_s_49⟩ := h_s_49
                                            refine y_some ?_
                                            try dsimp only
                                            have e553 : (1 : Int32).toInt = 1 := rfl
                                            refine y_some ?_
                                            try dsimp only
                                            refine ⟨?_, ?_, ?_, ?_, ?_, ?_, ?_, ?_⟩ <;> (first | with_reducible rfl | with_reducible assumption | omega | (exfalso; omega) | (exact Or.inr rfl) | (exact Or.inl (by omega)))
                                          · skip
                                            have c552' := c552
                                            rw [Int32.lt_iff_toInt_lt] at c552'
                                            refine y_if (fun c554 => ?_) (fun c554 => ?_)
                                            · skip
                                              have c554' := c554
                                              rw [Int32.lt_iff_toInt_lt] at c554'
                                              refine y_bi (y_X9_bad) (fun s_51 h_s_51 => ?_)
                                              obtain ⟨h0_s_51, h1_s_51⟩ := h_s_51
                                              refine y_some ?_
                                              try dsimp only
                                              have e555 : (1 : Int32).toInt = 1 := rfl
                                              refine y_some ?_
                                              try dsimp only
                                              refine ⟨?_, ?_, ?_, ?_, ?_, ?_, ?_, ?_⟩ <;> (first | with_reducible rfl | with_reducible assumption | omega | (exfalso; omega) | (exact Or.inr rfl) | (exact Or.inl (by omega)))
                                            · skip
                                              have c554' := c554
                                              rw [Int32.lt_iff_toInt_lt] at c554'
                                              refine y_if (fun c556 => ?_) (fun c556 => ?_)
                                              · skip
                                                have c556' := c556
                                                rw [Int32.le_iff_toInt_le] at c556'
                                                refine y_some ?_
                                                try dsimp only
                                                have e557 : (1 : Int32).toInt = 1 := rfl
                                                refine y_some ?_
                                                try dsimp only
                                                refine ⟨?_, ?_, ?_, ?_, ?_, ?_, ?_, ?_⟩ <;> (first | with_reducible rfl | with_reducible assumption | omega | (exfalso; omega) | (exact Or.inr rfl) | (exact Or.inl (by omega)))
                                              · skip
                                                have c556' := c556
                                                rw [Int32.le_iff_toInt_le] at c556'
                                                refine y_bi (y_X9_bad) (fun s_53 h_s_53 => ?_)
                                                obtain ⟨h0_s_53, h1_s_53⟩ := h_s_53
                                                refine y_some ?_
                                                try dsimp only
                                                have e558 : (1 : Int32).toInt = 1 := rfl
                                                refine y_some ?_
                                                try dsimp only
                                                refine ⟨?_, ?_, ?_, ?_, ?_, ?_, ?_, ?_⟩ <;> (first | with_reducible rfl | with_reducible assumption | omega | (exfalso; omega) | (exact Or.inr rfl) | (exact Or.inl (by omega)))
                                      · skip
                                        have c549' := c549
                                        rw [← Int32.toInt_inj] at c549'
                                        refine y_bi (y_X9_bad) (fun s_45 h_s_45 => ?_)
                                        obtain ⟨h0_s_45, h1_s_45⟩ := h_s_45
                                        refine y_some ?_
                                        try dsimp only
                                        have e559 : (1 : Int32).toInt = 1 := rfl
                                        refine y_some ?_
                                        try dsimp only
                                        refine ⟨?_, ?_, ?_, ?_, ?_, ?_, ?_, ?_⟩ <;> (first | with_reducible rfl | with_reducible assumption | omega | (exfalso; omega) | (exact Or.inr rfl) | (exact Or.inl (by omega)))
                                    · skip
                                      have c548' := c548
                                      rw [← Int32.toInt_inj] at c548'
                                      refine y_if (fun c560 => ?_) (fun c560 => ?_)
                                      · skip
                                        have c560' := c560
                                        rw [Int32.lt_iff_toInt_lt] at c560'
                                        refine y_bi (y_X9_bad) (fun s_36 h_s_36 => ?_)
                                        obtain ⟨h0_s_36, h1_s_36⟩ := h_s_36
                                        refine y_some ?_
                                        try dsimp only
                                        have e561 : (1 : Int32).toInt = 1 := rfl
                                        refine y_some ?_
                                        try dsimp only
                                        refine ⟨?_, ?_, ?_, ?_, ?_, ?_, ?_, ?_⟩ <;> (first | with_reducible rfl | with_reducible assumption | omega | (exfalso; omega) | (exact Or.inr rfl) | (exact Or.inl (by omega)))
                                      · skip
                                        have c560' := c560
                                        rw [Int32.lt_iff_toInt_lt] at c560'
                                        refine y_if (fun c562 => ?_) (fun c562 => ?_)
                                        · skip
                                          have c562' := c562
                                          rw [Int32.lt_iff_toInt_lt] at c562'
                                          refine y_bi (y_X9_bad) (fun s_38 h_s_38 => ?_)
                                          obtain ⟨h0_s_38, h1_s_38⟩ := h_s_38
                                          refine y_some ?_
                                          try dsimp only
                                          have e563 : (1 : Int32).toInt = 1 := rfl
                                          refine y_some ?_
                                          try dsimp only
                                          refine ⟨?_, ?_, ?_, ?_, ?_, ?_, ?_, ?_⟩ <;> (first | with_reducible rfl | with_reducible assumption | omega | (exfalso; omega) | (exact Or.inr rfl) | (exact Or.inl (by omega)))
                                        · skip
                                          have c562' := c562
                                          rw [Int32.lt_iff_toInt_lt] at c562'
                                          refine y_if (fun c564 => ?_) (fun c564 => ?_)
                                          · skip
                                            have c564' := c564
                                            rw [Int32.lt_iff_toInt_lt] at c564'
                                            refine y_bi (y_X9_bad) (fun s_40 h_s_40 => ?_)
                                            obtain ⟨h0_s_40, h1_s_40⟩ := h_s_40
                                            refine y_some ?_
                                            try dsimp only
                                            have e565 : (1 : Int32).toInt = 1 := rfl
                                            refine y_some ?_
                                            try dsimp only
                                            refine ⟨?_, ?_, ?_, ?_, ?_, ?_, ?_, ?_⟩ <;> (first | with_reducible rfl | with_reducible assumption | omega | (exfalso; omega) | (exact Or.inr rfl) | (exact Or.inl (by omega)))
                                          · skip
                                            have c564' := c564
                                            rw [Int32.lt_iff_toInt_lt] at c564'
                                            refine y_if (fun c566 => ?_) (fun c566 => ?_)
                                            · skip
                                              have c566' := c566
                                              rw [Int32.le_iff_toInt_le] at c566'
                                              refine y_some ?_
                                              try dsimp only
                                              have e567 : (1 : Int32).toInt = 1 := rfl
                                              refine y_some ?_
                                              try dsimp only
                                              refine ⟨?_, ?_, ?_, ?_, ?_, ?_, ?_, ?_⟩ <;> (first | with_reducible rfl | with_reducible assumption | omega | (exfalso; omega) | (exact Or.inr rfl) | (exact Or.inl (by omega)))
                                            · skip
                                              have c566' := c566
                                              rw [Int32.le_iff_toInt_le] at c566'
                                              refine y_bi (y_X9_bad) (fun s_42 h_s_42 => ?_)
                                              obtain ⟨h0_s_42, h1_s_42⟩ := h_s_42
                                              refine y_some ?_
                                              try dsimp only
                                              have e568 : (1 : Int32).toInt = 1 := rfl
                                              refine y_some ?_
                                              try dsimp only
                                              refine ⟨?_, ?_, ?_, ?_, ?_, ?_, ?_, ?_⟩ <;> (first | with_reducible rfl | with_reducible assumption | omega | (exfalso; omega) | (exact Or.inr rfl) | (exact Or.inl (by omega)))
              · skip
                try have e569 := @y_cl p1 (by omega)
                have c295' := c295
                rw [← Int32.toInt_inj] at c295'
                refine y_some ?_
                try dsimp only
                refine y_bt ?_
                refine y_bi (y_X9_isClass) (fun s_1 h_s_1 => ?_)
                have h0_s_1 : (s_1.toInt = 0 ∧ ¬ (0 ≤ p1.toInt ∧ p1.toInt < v7_2.toInt)) ∨ (s_1.toInt = 1 ∧ (0 ≤ p1.toInt ∧ p1.toInt < v7_2.toInt)) := h_s_1
                refine y_if (fun c570 => ?_) (fun c570 => ?_)
                · skip
                  have c570' := c570
                  rw [← Int32.toInt_inj] at c570'
                  have e571 := y_or0 h0_s_1 c570'
                  clear h0_s_1
                  refine y_bi (y_X9_bad) (fun s_3 h_s_3 => ?_)
                  obtain ⟨h0_s_3, h1_s_3⟩ := h_s_3
                  refine y_some ?_
                  try dsimp only
                  have e572 : (1 : Int32).toInt = 1 := rfl
                  refine y_some ?_
                  try dsimp only
                  refine ⟨?_, ?_, ?_, ?_, ?_, ?_, ?_, ?_⟩ <;> (first | with_reducible rfl | with_reducible assumption | omega | (exfalso; omega) | (exact Or.inr rfl) | (exact Or.inl (by omega)))
                · skip
                  have c570' := c570
                  rw [← Int32.toInt_inj] at c570'
                  have e573 := y_or1 h0_s_1 c570'
                  clear h0_s_1
                  refine y_if (fun c574 => ?_) (fun c574 => ?_)
                  · skip
                    have c574' := c574
                    rw [Int32.lt_iff_toInt_lt] at c574'
                    refine y_bi (y_X9_bad) (fun s_5 h_s_5 => ?_)
                    obtain ⟨h0_s_5, h1_s_5⟩ := h_s_5
                    refine y_some ?_
                    try dsimp only
                    have e575 : (1 : Int32).toInt = 1 := rfl
                    refine y_some ?_
                    try dsimp only
                    refine ⟨?_, ?_, ?_, ?_, ?_, ?_, ?_, ?_⟩ <;> (first | with_reducible rfl | with_reducible assumption | omega | (exfalso; omega) | (exact Or.inr rfl) | (exact Or.inl (by omega)))
                  · skip
                    have c574' := c574
                    rw [Int32.lt_iff_toInt_lt] at c574'
                    refine y_if (fun c576 => ?_) (fun c576 => ?_)
                    · skip
                      have c576' := c576
                      rw [Int32.lt_iff_toInt_lt] at c576'
                      refine y_bi (y_X9_bad) (fun s_7 h_s_7 => ?_)
                      obtain ⟨h0_s_7, h1_s_7⟩ := h_s_7
                      refine y_some ?_
                      try dsimp only
                      have e577 : (1 : Int32).toInt = 1 := rfl
                      refine y_some ?_
                      try dsimp only
                      refine ⟨?_, ?_, ?_, ?_, ?_, ?_, ?_, ?_⟩ <;> (first | with_reducible rfl | with_reducible assumption | omega | (exfalso; omega) | (exact Or.inr rfl) | (exact Or.inl (by omega)))
                    · skip
                      have c576' := c576
                      rw [Int32.lt_iff_toInt_lt] at c576'
                      refine y_if (fun c578 => ?_) (fun c578 => ?_)
                      · skip
                        have c578' : p3.toInt = -1 := (y_eqN rfl).mp c578
                        refine y_if (fun c579 => ?_) (fun c579 => ?_)
                        · skip
                          have c579' := c579
                          rw [← Int32.toInt_inj] at c579'
                          refine y_gd (y_gdI (by omega) (by omega)) ?_
                          refine y_if (fun c580 => ?_) (fun c580 => ?_)
                          · skip
                            have c580' := c580
                            rw [← Int32.toInt_inj] at c580'
                            refine y_if (fun c581 => ?_) (fun c581 => ?_)
                            · skip
                              have c581' := c581
                              rw [Int32.lt_iff_toInt_lt] at c581'
                              refine y_bi (y_X9_bad) (fun s_22 h_s_22 => ?_)
                              obtain ⟨h0_s_22, h1_s_22⟩ := h_s_22
                              refine y_some ?_
                              try dsimp only
                              have e582 : (1 : Int32).toInt = 1 := rfl
                              refine y_some ?_
                              try dsimp only
                              refine ⟨?_, ?_, ?_, ?_, ?_, ?_, ?_, ?_⟩ <;> (first | with_reducible rfl | with_reducible assumption | omega | (exfalso; omega) | (exact Or.inr rfl) | (exact Or.inl (by omega)))
                            · skip
                              have c581' := c581
                              rw [Int32.lt_iff_toInt_lt] at c581'
                              refine y_if (fun c583 => ?_) (fun c583 => ?_)
                              · skip
                                have e584 : (200 : Int32).toInt = 200 := rfl
                                have c583' := c583
                                rw [Int32.lt_iff_toInt_lt] at c583'
                                refine y_bi (y_X9_bad) (fun s_24 h_s_24 => ?_)
                                obtain ⟨h0_s_24, h1_s_24⟩ := h_s_24
                                refine y_some ?_
                                try dsimp only
                                have e585 : (1 : Int32).toInt = 1 := rfl
                                refine y_some ?_
                                try dsimp only
                                refine ⟨?_, ?_, ?_, ?_, ?_, ?_, ?_, ?_⟩ <;> (first | with_reducible rfl | with_reducible assumption | omega | (exfalso; omega) | (exact Or.inr rfl) | (exact Or.inl (by omega)))
                              · skip
                                have e586 : (200 : Int32).toInt = 200 := rfl
                                have c583' := c583
                                rw [Int32.lt_iff_toInt_lt] at c583'
                                refine y_if (fun c587 => ?_) (fun c587 => ?_)
                                · skip
                                  have c587' := c587
                                  rw [Int32.lt_iff_toInt_lt] at c587'
                                  refine y_bi (y_X9_bad) (fun s_26 h_s_26 => ?_)
                                  obtain ⟨h0_s_26, h1_s_26⟩ := h_s_26
                                  refine y_some ?_
                                  try dsimp only
                                  have e588 : (1 : Int32).toInt = 1 := rfl
                                  refine y_some ?_
                                  try dsimp only
                                  refine ⟨?_, ?_, ?_, ?_, ?_, ?_, ?_, ?_⟩ <;> (first | with_reducible rfl | with_reducible assumption | omega | (exfalso; omega) | (exact Or.inr rfl) | (exact Or.inl (by omega)))
                                · skip
                                  have c587' := c587
                                  rw [Int32.lt_iff_toInt_lt] at c587'
                                  refine y_if (fun c589 => ?_) (fun c589 => ?_)
                                  · skip
                                    have c589' := c589
                                    rw [Int32.le_iff_toInt_le] at c589'
                                    refine y_some ?_
                                    try dsimp only
                                    have e590 : (1 : Int32).toInt = 1 := rfl
                                    refine y_some ?_
                                    try dsimp only
                                    refine ⟨?_, ?_, ?_, ?_, ?_, ?_, ?_, ?_⟩ <;> (first | with_reducible rfl | with_reducible assumption | omega | (exfalso; omega) | (exact Or.inr rfl) | (exact Or.inl (by omega)))
                                  · skip
                                    have c589' := c589
                                    rw [Int32.le_iff_toInt_le] at c589'
                                    refine y_bi (y_X9_bad) (fun s_28 h_s_28 => ?_)
                                    obtain ⟨h0_s_28, h1_s_28⟩ := h_s_28
                                    refine y_some ?_
                                    try dsimp only
                                    have e591 : (1 : Int32).toInt = 1 := rfl
                                    refine y_some ?_
                                    try dsimp only
                                    refine ⟨?_, ?_, ?_, ?_, ?_, ?_, ?_, ?_⟩ <;> (first | with_reducible rfl | with_reducible assumption | omega | (exfalso; omega) | (exact Or.inr rfl) | (exact Or.inl (by omega)))
                          · skip
                            have c580' := c580
                            rw [← Int32.toInt_inj] at c580'
                            refine y_bi (y_X9_bad) (fun s_20 h_s_20 => ?_)
                            obtain ⟨h0_s_20, h1_s_20⟩ := h_s_20
                            refine y_some ?_
                            try dsimp only
                            have e592 : (1 : Int32).toInt = 1 := rfl
                            refine y_some ?_
                            try dsimp only
                            refine ⟨?_, ?_, ?_, ?_, ?_, ?_, ?_, ?_⟩ <;> (first | with_reducible rfl | with_reducible assumption | omega | (exfalso; omega) | (exact Or.inr rfl) | (exact Or.inl (by omega)))
                        · skip
                          have c579' := c579
                          rw [← Int32.toInt_inj] at c579'
                          refine y_if (fun c593 => ?_) (fun c593 => ?_)
                          · skip
                            have c593' := c593
                            rw [Int32.lt_iff_toInt_lt] at c593'
                            refine y_bi (y_X9_bad) (fun s_11 h_s_11 => ?_)
                            obtain ⟨h0_s_11, h1_s_11⟩ := h_s_11
                            refine y_some ?_
                            try dsimp only
                            have e594 : (1 : Int32).toInt = 1 := rfl
                            refine y_some ?_
                            try dsimp only
                            refine ⟨?_, ?_, ?_, ?_, ?_, ?_, ?_, ?_⟩ <;> (first | with_reducible rfl | with_reducible assumption | omega | (exfalso; omega) | (exact Or.inr rfl) | (exact Or.inl (by omega)))
                          · skip
                            have c593' := c593
                            rw [Int32.lt_iff_toInt_lt] at c593'
                            refine y_if (fun c595 => ?_) (fun c595 => ?_)
                            · skip
                              have e596 : (200 : Int32).toInt = 200 := rfl
                              have c595' := c595
                              rw [Int32.lt_iff_toInt_lt] at c595'
                              refine y_bi (y_X9_bad) (fun s_13 h_s_13 => ?_)
                              obtain ⟨h0_s_13, h1_s_13⟩ := h_s_13
                              refine y_some ?_
                              try dsimp only
                              have e597 : (1 : Int32).toInt = 1 := rfl
                              refine y_some ?_
                              try dsimp only
                              refine ⟨?_, ?_, ?_, ?_, ?_, ?_, ?_, ?_⟩ <;> (first | with_reducible rfl | with_reducible assumption | omega | (exfalso; omega) | (exact Or.inr rfl) | (exact Or.inl (by omega)))
                            · skip
                              have e598 : (200 : Int32).toInt = 200 := rfl
                              have c595' := c595
                              rw [Int32.lt_iff_toInt_lt] at c595'
                              refine y_if (fun c599 => ?_) (fun c599 => ?_)
                              · skip
                                have c599' := c599
                                rw [Int32.lt_iff_toInt_lt] at c599'
                                refine y_bi (y_X9_bad) (fun s_15 h_s_15 => ?_)
                                obtain ⟨h0_s_15, h1_s_15⟩ := h_s_15
                                refine y_some ?_
                                try dsimp only
                                have e600 : (1 : Int32).toInt = 1 := rfl
                                refine y_some ?_
                                try dsimp only
                                refine ⟨?_, ?_, ?_, ?_, ?_, ?_, ?_, ?_⟩ <;> (first | with_reducible rfl | with_reducible assumption | omega | (exfalso; omega) | (exact Or.inr rfl) | (exact Or.inl (by omega)))
                              · skip
                                have c599' := c599
                                rw [Int32.lt_iff_toInt_lt] at c599'
                                refine y_if (fun c601 => ?_) (fun c601 => ?_)
                                · skip
                                  have c601' := c601
                                  rw [Int32.le_iff_toInt_le] at c601'
                                  refine y_some ?_
                                  try dsimp only
                                  have e602 : (1 : Int32).toInt = 1 := rfl
                                  refine y_some ?_
                                  try dsimp only
                                  refine ⟨?_, ?_, ?_, ?_, ?_, ?_, ?_, ?_⟩ <;> (first | with_reducible rfl | with_reducible assumption | omega | (exfalso; omega) | (exact Or.inr rfl) | (exact Or.inl (by omega)))
                                · skip
                                  have c601' := c601
                                  rw [Int32.le_iff_toInt_le] at c601'
                                  refine y_bi (y_X9_bad) (fun s_17 h_s_17 => ?_)
                                  obtain ⟨h0_s_17, h1_s_17⟩ := h_s_17
                                  refine y_some ?_
                                  try dsimp only
                                  have e603 : (1 : Int32).toInt = 1 := rfl
                                  refine y_some ?_
                                  try dsimp only
                                  refine ⟨?_, ?_, ?_, ?_, ?_, ?_, ?_, ?_⟩ <;> (first | with_reducible rfl | with_reducible assumption | omega | (exfalso; omega) | (exact Or.inr rfl) | (exact Or.inl (by omega)))
                      · skip
                        have c578' : ¬ p3.toInt = -1 := fun hz => c578 ((y_eqN rfl).mpr hz)
                        refine y_bi (y_X9_isType (by omega) (by omega)) (fun s_29 h_s_29 => ?_)
                        have h0_s_29 : (s_29.toInt = 0 ∧ ¬ (0 ≤ p3.toInt ∧ p3.toInt < 16777216 ∧ (p3.toInt % 65536 < v7_2.toInt ∨ 65528 ≤ p3.toInt % 65536))) ∨ (s_29.toInt = 1 ∧ (0 ≤ p3.toInt ∧ p3.toInt < 16777216 ∧ (p3.toInt % 65536 < v7_2.toInt ∨ 65528 ≤ p3.toInt % 65536))) := h_s_29
                        refine y_if (fun c604 => ?_) (fun c604 => ?_)
                        · skip
                          have c604' := c604
                          rw [← Int32.toInt_inj] at c604'
                          have e605 := y_or0 h0_s_29 c604'
                          clear h0_s_29
                          refine y_bi (y_X9_bad) (fun s_31 h_s_31 => ?_)
                          obtain ⟨h0_s_31, h1_s_31⟩ := h_s_31
                          refine y_some ?_
                          try dsimp only
                          have e606 : (1 : Int32).toInt = 1 := rfl
                          refine y_some ?_
                          try dsimp only
                          refine ⟨?_, ?_, ?_, ?_, ?_, ?_, ?_, ?_⟩ <;> (first | with_reducible rfl | with_reducible assumption | omega | (exfalso; omega) | (exact Or.inr rfl) | (exact Or.inl (by omega)))
                        · skip
                          have c604' := c604
                          rw [← Int32.toInt_inj] at c604'
                          have e607 := y_or1 h0_s_29 c604'
                          clear h0_s_29
                          refine y_if (fun c608 => ?_) (fun c608 => ?_)
                          · skip
                            have c608' := c608
                            rw [← Int32.toInt_inj] at c608'
                            refine y_bi (y_X9_bad) (fun s_33 h_s_33 => ?_)
                            obtain ⟨h0_s_33, h1_s_33⟩ := h_s_33
                            refine y_some ?_
                            try dsimp only
                            have e609 : (1 : Int32).toInt = 1 := rfl
                            refine y_some ?_
                            try dsimp only
                            refine ⟨?_, ?_, ?_, ?_, ?_, ?_, ?_, ?_⟩ <;> (first | with_reducible rfl | with_reducible assumption | omega | (exfalso; omega) | (exact Or.inr rfl) | (exact Or.inl (by omega)))
                          · skip
                            have c608' := c608
                            rw [← Int32.toInt_inj] at c608'
                            refine y_if (fun c610 => ?_) (fun c610 => ?_)
                            · skip
                              have c610' := c610
                              rw [← Int32.toInt_inj] at c610'
                              refine y_gd (y_gdI (by omega) (by omega)) ?_
                              refine y_if (fun c611 => ?_) (fun c611 => ?_)
                              · skip
                                have c611' := c611
                                rw [← Int32.toInt_inj] at c611'
                                refine y_if (fun c612 => ?_) (fun c612 => ?_)
                                · skip
                                  have c612' := c612
                                  rw [Int32.lt_iff_toInt_lt] at c612'
                                  refine y_bi (y_X9_bad) (fun s_47 h_s_47 => ?_)
                                  obtain ⟨h0_s_47, h1_s_47⟩ := h_s_47
                                  refine y_some ?_
                                  try dsimp only
                                  have e613 : (1 : Int32).toInt = 1 := rfl
                                  refine y_some ?_
                                  try dsimp only
                                  refine ⟨?_, ?_, ?_, ?_, ?_, ?_, ?_, ?_⟩ <;> (first | with_reducible rfl | with_reducible assumption | omega | (exfalso; omega) | (exact Or.inr rfl) | (exact Or.inl (by omega)))
                                · skip
                                  have c612' := c612
                                  rw [Int32.lt_iff_toInt_lt] at c612'
                                  refine y_if (fun c614 => ?_) (fun c614 => ?_)
                                  · skip
                                    have e615 : (200 : Int32).toInt = 200 := rfl
                                    have c614' := c614
                                    rw [Int32.lt_iff_toInt_lt] at c614'
                                    refine y_bi (y_X9_bad) (fun s_49 h_s_49 => ?_)
                                    obtain ⟨h0_s_49, h1_s_49⟩ := h_s_49
                                    refine y_some ?_
                                    try dsimp only
                                    have e616 : (1 : Int32).toInt = 1 := rfl
                                    refine y_some ?_
                                    try dsimp only
                                    refine ⟨?_, ?_, ?_, ?_, ?_, ?_, ?_, ?_⟩ <;> (first | with_reducible rfl | with_reducible assumption | omega | (exfalso; omega) | (exact Or.inr rfl) | (exact Or.inl (by omega)))
                                  · skip
                                    have e617 : (200 : Int32).toInt = 200 := rfl
                                    have c614' := c614
                                    rw [Int32.lt_iff_toInt_lt] at c614'
                                    refine y_if (fun c618 => ?_) (fun c618 => ?_)
                                    · skip
                                      have c618' := c618
                                      rw [Int32.lt_iff_toInt_lt] at c618'
                                      refine y_bi (y_X9_bad) (fun s_51 h_s_51 => ?_)
                                      obtain ⟨h0_s_51, h1_s_51⟩ := h_s_51
                                      refine y_some ?_
                                      try dsimp only
                                      have e619 : (1 : Int32).toInt = 1 := rfl
                                      refine y_some ?_
                                      try dsimp only
                                      refine ⟨?_, ?_, ?_, ?_, ?_, ?_, ?_, ?_⟩ <;> (first | with_reducible rfl | with_reducible assumption | omega | (exfalso; omega) | (exact Or.inr rfl) | (exact Or.inl (by omega)))
                                    · skip
                                      have c618' := c618
                                      rw [Int32.lt_iff_toInt_lt] at c618'
                                      refine y_if (fun c620 => ?_) (fun c620 => ?_)
                                      · skip
                                        have c620' := c620
                                        rw [Int32.le_iff_toInt_le] at c620'
                                        refine y_some ?_
                                        try dsimp only
                                        have e621 : (1 : Int32).toInt = 1 := rfl
                                        refine y_some ?_
                                        try dsimp only
                                        refine ⟨?_, ?_, ?_, ?_, ?_, ?_, ?_, ?_⟩ <;> (first | with_reducible rfl | with_reducible assumption | omega | (exfalso; omega) | (exact Or.inr rfl) | (exact Or.inl (by omega)))
                                      · skip
                                        have c620' := c620
                                        rw [Int32.le_iff_toInt_le] at c620'
                                        refine y_bi (y_X9_bad) (fun s_53 h_s_53 => ?_)
                                        obtain ⟨h0_s_53, h1_s_53⟩ := h_s_53
                                        refine y_some ?_
                                        try dsimp only
                                        have e622 : (1 : Int32).toInt = 1 := rfl
                                        refine y_some ?_
                                        try dsimp only
                                        refine ⟨?_, ?_, ?_, ?_, ?_, ?_, ?_, ?_⟩ <;> (first | with_reducible rfl | with_reducible assumption | omega | (exfalso; omega) | (exact Or.inr rfl) | (exact Or.inl (by omega)))
                              · skip
                                have c611' := c611
                                rw [← Int32.toInt_inj] at c611'
                                refine y_bi (y_X9_bad) (fun s_45 h_s_45 => ?_)
                                obtain ⟨h0_s_45, h1_s_45⟩ := h_s_45
                                refine y_some ?_
                                try dsimp only
                                have e623 : (1 : Int32).toInt = 1 := rfl
                                refine y_some ?_
                                try dsimp only
                                refine ⟨?_, ?_, ?_, ?_, ?_, ?_, ?_, ?_⟩ <;> (first | with_reducible rfl | with_reducible assumption | omega | (exfalso; omega) | (exact Or.inr rfl) | (exact Or.inl (by omega)))
                            · skip
                              have c610' := c610
                              rw [← Int32.toInt_inj] at c610'
                              refine y_if (fun c624 => ?_) (fun c624 => ?_)
                              · skip
                                have c624' := c624
                                rw [Int32.lt_iff_toInt_lt] at c624'
                                refine y_bi (y_X9_bad) (fun s_36 h_s_36 => ?_)
                                obtain ⟨h0_s_36, h1_s_36⟩ := h_s_36
                                refine y_some ?_
                                try dsimp only
                                have e625 : (1 : Int32).toInt = 1 := rfl
                                refine y_some ?_
                                try dsimp only
                                refine ⟨?_, ?_, ?_, ?_, ?_, ?_, ?_, ?_⟩ <;> (first | with_reducible rfl | with_reducible assumption | omega | (exfalso; omega) | (exact Or.inr rfl) | (exact Or.inl (by omega)))
                              · skip
                                have c624' := c624
                                rw [Int32.lt_iff_toInt_lt] at c624'
                                refine y_if (fun c626 => ?_) (fun c626 => ?_)
                                · skip
                                  have e627 : (200 : Int32).toInt = 200 := rfl
                                  have c626' := c626
                                  rw [Int32.lt_iff_toInt_lt] at c626'
                                  refine y_bi (y_X9_bad) (fun s_38 h_s_38 => ?_)
                                  obtain ⟨h0_s_38, h1_s_38⟩ := h_s_38
                                  refine y_some ?_
                                  try dsimp only
                                  have e628 : (1 : Int32).toInt = 1 := rfl
                                  refine y_some ?_
                                  try dsimp only
                                  refine ⟨?_, ?_, ?_, ?_, ?_, ?_, ?_, ?_⟩ <;> (first | with_reducible rfl | with_reducible assumption | omega | (exfalso; omega) | (exact Or.inr rfl) | (exact Or.inl (by omega)))
                                · skip
                                  have e629 : (200 : Int32).toInt = 200 := rfl
                                  have c626' := c626
                                  rw [Int32.lt_iff_toInt_lt] at c626'
                                  refine y_if (fun c630 => ?_) (fun c630 => ?_)
                                  · skip
                                    have c630' := c630
                                    rw [Int32.lt_iff_toInt_lt] at c630'
                                    refine y_bi (y_X9_bad) (fun s_40 h_s_40 => ?_)
                                    obtain ⟨h0_s_40, h1_s_40⟩ := h_s_40
                                    refine y_some ?_
                                    try dsimp only
                                    have e631 : (1 : Int32).toInt = 1 := rfl
                                    refine y_some ?_
                                    try dsimp only
                                    refine ⟨?_, ?_, ?_, ?_, ?_, ?_, ?_, ?_⟩ <;> (first | with_reducible rfl | with_reducible assumption | omega | (exfalso; omega) | (exact Or.inr rfl) | (exact Or.inl (by omega)))
                                  · skip
                                    have c630' := c630
                                    rw [Int32.lt_iff_toInt_lt] at c630'
                                    refine y_if (fun c632 => ?_) (fun c632 => ?_)
                                    · skip
                                      have c632' := c632
                                      rw [Int32.le_iff_toInt_le] at c632'
                                      refine y_some ?_
                                      try dsimp only
                                      have e633 : (1 : Int32).toInt = 1 := rfl
                                      refine y_some ?_
                                      try dsimp only
                                      refine ⟨?_, ?_, ?_, ?_, ?_, ?_, ?_, ?_⟩ <;> (first | with_reducible rfl | with_reducible assumption | omega | (exfalso; omega) | (exact Or.inr rfl) | (exact Or.inl (by omega)))
                                    · skip
                                      have c632' := c632
                                      rw [Int32.le_iff_toInt_le] at c632'
                                      refine y_bi (y_X9_bad) (fun s_42 h_s_42 => ?_)
                                      obtain ⟨h0_s_42, h1_s_42⟩ := h_s_42
                                      refine y_some ?_
                                      try dsimp only
                                      have e634 : (1 : Int32).toInt = 1 := rfl
                                      refine y_some ?_
                                      try dsimp only
                                      refine ⟨?_, ?_, ?_, ?_, ?_, ?_, ?_, ?_⟩ <;> (first | with_reducible rfl | with_reducible assumption | omega | (exfalso; omega) | (exact Or.inr rfl) | (exact Or.inl (by omega)))
            · skip
              have c294' : ¬ p3.toInt = -1 := fun hz => c294 ((y_eqN rfl).mpr hz)
              refine y_some ?_
              try dsimp only
              refine y_bt ?_
              refine y_bi (y_X9_isClass) (fun s_1 h_s_1 => ?_)
              have h0_s_1 : (s_1.toInt = 0 ∧ ¬ (0 ≤ p1.toInt ∧ p1.toInt < v7_2.toInt)) ∨ (s_1.toInt = 1 ∧ (0 ≤ p1.toInt ∧ p1.toInt < v7_2.toInt)) := h_s_1
              refine y_if (fun c635 => ?_) (fun c635 => ?_)
              · skip
                have c635' := c635
                rw [← Int32.toInt_inj] at c635'
                have e636 := y_or0 h0_s_1 c635'
                clear h0_s_1
                refine y_bi (y_X9_bad) (fun s_3 h_s_3 => ?_)
                obtain ⟨h0_s_3, h1_s_3⟩ := h_s_3
                refine y_some ?_
                try dsimp only
                have e637 : (1 : Int32).toInt = 1 := rfl
                refine y_some ?_
                try dsimp only
                refine ⟨?_, ?_, ?_, ?_, ?_, ?_, ?_, ?_⟩ <;> (first | with_reducible rfl | with_reducible assumption | omega | (exfalso; omega) | (exact Or.inr rfl) | (exact Or.inl (by omega)))
              · skip
                have c635' := c635
                rw [← Int32.toInt_inj] at c635'
                have e638 := y_or1 h0_s_1 c635'
                clear h0_s_1
                refine y_if (fun c639 => ?_) (fun c639 => ?_)
                · skip
                  have c639' := c639
                  rw [Int32.lt_iff_toInt_lt] at c639'
                  refine y_bi (y_X9_bad) (fun s_5 h_s_5 => ?_)
                  obtain ⟨h0_s_5, h1_s_5⟩ := h_s_5
                  refine y_some ?_
                  try dsimp only
                  have e640 : (1 : Int32).toInt = 1 := rfl
                  refine y_some ?_
                  try dsimp only
                  refine ⟨?_, ?_, ?_, ?_, ?_, ?_, ?_, ?_⟩ <;> (first | with_reducible rfl | with_reducible assumption | omega | (exfalso; omega) | (exact Or.inr rfl) | (exact Or.inl (by omega)))
                · skip
                  have c639' := c639
                  rw [Int32.lt_iff_toInt_lt] at c639'
                  refine y_if (fun c641 => ?_) (fun c641 => ?_)
                  · skip
                    have c641' := c641
                    rw [Int32.lt_iff_toInt_lt] at c641'
                    refine y_bi (y_X9_bad) (fun s_7 h_s_7 => ?_)
                    obtain ⟨h0_s_7, h1_s_7⟩ := h_s_7
                    refine y_some ?_
                    try dsimp only
                    have e642 : (1 : Int32).toInt = 1 := rfl
                    refine y_some ?_
                    try dsimp only
                    refine ⟨?_, ?_, ?_, ?_, ?_, ?_, ?_, ?_⟩ <;> (first | with_reducible rfl | with_reducible assumption | omega | (exfalso; omega) | (exact Or.inr rfl) | (exact Or.inl (by omega)))
                  · skip
                    have c641' := c641
                    rw [Int32.lt_iff_toInt_lt] at c641'
                    refine y_if (fun c643 => ?_) (fun c643 => ?_)
                    · skip
                      have c643' : p3.toInt = -1 := (y_eqN rfl).mp c643
                      refine y_if (fun c644 => ?_) (fun c644 => ?_)
                      · skip
                        have c644' := c644
                        rw [← Int32.toInt_inj] at c644'
                        refine y_gd (y_gdI (by omega) (by omega)) ?_
                        refine y_if (fun c645 => ?_) (fun c645 => ?_)
                        · skip
                          try have e646 := @y_cl p1 (by omega)
                          have c645' := c645
                          rw [← Int32.toInt_inj] at c645'
                          refine y_if (fun c647 => ?_) (fun c647 => ?_)
                          · skip
                            have c647' := c647
                            rw [Int32.lt_iff_toInt_lt] at c647'
                            refine y_bi (y_X9_bad) (fun s_22 h_s_22 => ?_)
                            obtain ⟨h0_s_22, h1_s_22⟩ := h_s_22
                            refine y_some ?_
                            try dsimp only
                            have e648 : (1 : Int32).toInt = 1 := rfl
                            refine y_some ?_
                            try dsimp only
                            refine ⟨?_, ?_, ?_, ?_, ?_, ?_, ?_, ?_⟩ <;> (first | with_reducible rfl | with_reducible assumption | omega | (exfalso; omega) | (exact Or.inr rfl) | (exact Or.inl (by omega)))
                          · skip
                            have c647' := c647
                            rw [Int32.lt_iff_toInt_lt] at c647'
                            refine y_if (fun c649 => ?_) (fun c649 => ?_)
                            · skip
                              have e650 : (200 : Int32).toInt = 200 := rfl
                              have c649' := c649
                              rw [Int32.lt_iff_toInt_lt] at c649'
                              refine y_bi (y_X9_bad) (fun s_24 h_s_24 => ?_)
                              obtain ⟨h0_s_24, h1_s_24⟩ := h_s_24
                              refine y_some ?_
                              try dsimp only
                              have e651 : (1 : Int32).toInt = 1 := rfl
                              refine y_some ?_
                              try dsimp only
                              refine ⟨?_, ?_, ?_, ?_, ?_, ?_, ?_, ?_⟩ <;> (first | with_reducible rfl | with_reducible assumption | omega | (exfalso; omega) | (exact Or.inr rfl) | (exact Or.inl (by omega)))
                            · skip
                              have e652 : (200 : Int32).toInt = 200 := rfl
                              have c649' := c649
                              rw [Int32.lt_iff_toInt_lt] at c649'
                              refine y_if (fun c653 => ?_) (fun c653 => ?_)
                              · skip
                                have c653' := c653
                                rw [Int32.lt_iff_toInt_lt] at c653'
                                refine y_bi (y_X9_bad) (fun s_26 h_s_26 => ?_)
                                obtain ⟨h0_s_26, h1_s_26⟩ := h_s_26
                                refine y_some ?_
                                try dsimp only
                                have e654 : (1 : Int32).toInt = 1 := rfl
                                refine y_some ?_
                                try dsimp only
                                refine ⟨?_, ?_, ?_, ?_, ?_, ?_, ?_, ?_⟩ <;> (first | with_reducible rfl | with_reducible assumption | omega | (exfalso; omega) | (exact Or.inr rfl) | (exact Or.inl (by omega)))
                              · skip
                                have c653' := c653
                                rw [Int32.lt_iff_toInt_lt] at c653'
                                refine y_if (fun c655 => ?_) (fun c655 => ?_)
                                · skip
                                  have c655' := c655
                                  rw [Int32.le_iff_toInt_le] at c655'
                                  refine y_some ?_
                                  try dsimp only
                                  have e656 : (1 : Int32).toInt = 1 := rfl
                                  refine y_some ?_
                                  try dsimp only
                                  refine ⟨?_, ?_, ?_, ?_, ?_, ?_, ?_, ?_⟩ <;> (first | with_reducible rfl | with_reducible assumption | omega | (exfalso; omega) | (exact Or.inr rfl) | (exact Or.inl (by omega)))
                                · skip
                                  have c655' := c655
                                  rw [Int32.le_iff_toInt_le] at c655'
                                  refine y_bi (y_X9_bad) (fun s_28 h_s_28 => ?_)
                                  obtain ⟨h0_s_28, h1_s_28⟩ := h_s_28
                                  refine y_some ?_
                                  try dsimp only
                                  have e657 : (1 : Int32).toInt = 1 := rfl
                                  refine y_some ?_
                                  try dsimp only
                                  refine ⟨?_, ?_, ?_, ?_, ?_, ?_, ?_, ?_⟩ <;> (first | with_reducible rfl | with_reducible assumption | omega | (exfalso; omega) | (exact Or.inr rfl) | (exact Or.inl (by omega)))
                        · skip
                          try have e658 := @y_cl p1 (by omega)
                          have c645' := c645
                          rw [← Int32.toInt_inj] at c645'
                          refine y_bi (y_X9_bad) (fun s_20 h_s_20 => ?_)
                          obtain ⟨h0_s_20, h1_s_20⟩ := h_s_20
                          refine y_some ?_
                          try dsimp only
                          have e659 : (1 : Int32).toInt = 1 := rfl
                          refine y_some ?_
                          try dsimp only
                          refine ⟨?_, ?_, ?_, ?_, ?_, ?_, ?_, ?_⟩ <;> (first | with_reducible rfl | with_reducible assumption | omega | (exfalso; omega) | (exact Or.inr rfl) | (exact Or.inl (by omega)))
                      · skip
                        have c644' := c644
                        rw [← Int32.toInt_inj] at c644'
                        refine y_if (fun c660 => ?_) (fun c660 => ?_)
                        · skip
                          have c660' := c660
                          rw [Int32.lt_iff_toInt_lt] at c660'
                          refine y_bi (y_X9_bad) (fun s_11 h_s_11 => ?_)
                          obtain ⟨h0_s_11, h1_s_11⟩ := h_s_11
                          refine y_some ?_
                          try dsimp only
                          have e661 : (1 : Int32).toInt = 1 := rfl
                          refine y_some ?_
                          try dsimp only
                          refine ⟨?_, ?_, ?_, ?_, ?_, ?_, ?_, ?_⟩ <;> (first | with_reducible rfl | with_reducible assumption | omega | (exfalso; omega) | (exact Or.inr rfl) | (exact Or.inl (by omega)))
                        · skip
                          have c660' := c660
                          rw [Int32.lt_iff_toInt_lt] at c660'
                          refine y_if (fun c662 => ?_) (fun c662 => ?_)
                          · skip
                            have e663 : (200 : Int32).toInt = 200 := rfl
                            have c662' := c662
                            rw [Int32.lt_iff_toInt_lt] at c662'
                            refine y_bi (y_X9_bad) (fun s_13 h_s_13 => ?_)
                            obtain ⟨h0_s_13, h1_s_13⟩ := h_s_13
                            refine y_some ?_
                            try dsimp only
                            have e664 : (1 : Int32).toInt = 1 := rfl
                            refine y_some ?_
                            try dsimp only
                            refine ⟨?_, ?_, ?_, ?_, ?_, ?_, ?_, ?_⟩ <;> (first | with_reducible rfl | with_reducible assumption | omega | (exfalso; omega) | (exact Or.inr rfl) | (exact Or.inl (by omega)))
                          · skip
                            have e665 : (200 : Int32).toInt = 200 := rfl
                            have c662' := c662
                            rw [Int32.lt_iff_toInt_lt] at c662'
                            refine y_if (fun c666 => ?_) (fun c666 => ?_)
                            · skip
                              have c666' := c666
                              rw [Int32.lt_iff_toInt_lt] at c666'
                              refine y_bi (y_X9_bad) (fun s_15 h_s_15 => ?_)
                              obtain ⟨h0_s_15, h1_s_15⟩ := h_s_15
                              refine y_some ?_
                              try dsimp only
                              have e667 : (1 : Int32).toInt = 1 := rfl
                              refine y_some ?_
                              try dsimp only
                              refine ⟨?_, ?_, ?_, ?_, ?_, ?_, ?_, ?_⟩ <;> (first | with_reducible rfl | with_reducible assumption | omega | (exfalso; omega) | (exact Or.inr rfl) | (exact Or.inl (by omega)))
                            · skip
                              have c666' := c666
                              rw [Int32.lt_iff_toInt_lt] at c666'
                              refine y_if (fun c668 => ?_) (fun c668 => ?_)
                              · skip
                                have c668' := c668
                                rw [Int32.le_iff_toInt_le] at c668'
                                refine y_some ?_
                                try dsimp only
                                have e669 : (1 : Int32).toInt = 1 := rfl
                                refine y_some ?_
                                try dsimp only
                                refine ⟨?_, ?_, ?_, ?_, ?_, ?_, ?_, ?_⟩ <;> (first | with_reducible rfl | with_reducible assumption | omega | (exfalso; omega) | (exact Or.inr rfl) | (exact Or.inl (by omega)))
                              · skip
                                have c668' := c668
                                rw [Int32.le_iff_toInt_le] at c668'
                                refine y_bi (y_X9_bad) (fun s_17 h_s_17 => ?_)
                                obtain ⟨h0_s_17, h1_s_17⟩ := h_s_17
                                refine y_some ?_
                                try dsimp only
                                have e670 : (1 : Int32).toInt = 1 := rfl
                                refine y_some ?_
                                try dsimp only
                                refine ⟨?_, ?_, ?_, ?_, ?_, ?_, ?_, ?_⟩ <;> (first | with_reducible rfl | with_reducible assumption | omega | (exfalso; omega) | (exact Or.inr rfl) | (exact Or.inl (by omega)))
                    · skip
                      have c643' : ¬ p3.toInt = -1 := fun hz => c643 ((y_eqN rfl).mpr hz)
                      refine y_bi (y_X9_isType (by omega) (by omega)) (fun s_29 h_s_29 => ?_)
                      have h0_s_29 : (s_29.toInt = 0 ∧ ¬ (0 ≤ p3.toInt ∧ p3.toInt < 16777216 ∧ (p3.toInt % 65536 < v7_2.toInt ∨ 65528 ≤ p3.toInt % 65536))) ∨ (s_29.toInt = 1 ∧ (0 ≤ p3.toInt ∧ p3.toInt < 16777216 ∧ (p3.toInt % 65536 < v7_2.toInt ∨ 65528 ≤ p3.toInt % 65536))) := h_s_29
                      refine y_if (fun c671 => ?_) (fun c671 => ?_)
                      · skip
                        have c671' := c671
                        rw [← Int32.toInt_inj] at c671'
                        have e672 := y_or0 h0_s_29 c671'
                        clear h0_s_29
                        refine y_bi (y_X9_bad) (fun s_31 h_s_31 => ?_)
                        obtain ⟨h0_s_31, h1_s_31⟩ := h_s_31
                        refine y_some ?_
                        try dsimp only
                        have e673 : (1 : Int32).toInt = 1 := rfl
                        refine y_some ?_
                        try dsimp only
                        refine ⟨?_, ?_, ?_, ?_, ?_, ?_, ?_, ?_⟩ <;> (first | with_reducible rfl | with_reducible assumption | omega | (exfalso; omega) | (exact Or.inr rfl) | (exact Or.inl (by omega)))
                      · skip
                        have c671' := c671
                        rw [← Int32.toInt_inj] at c671'
                        have e674 := y_or1 h0_s_29 c671'
                        clear h0_s_29
                        refine y_if (fun c675 => ?_) (fun c675 => ?_)
                        · skip
                          have c675' := c675
                          rw [← Int32.toInt_inj] at c675'
                          refine y_bi (y_X9_bad) (fun s_33 h_s_33 => ?_)
                          obtain ⟨h0_s_33, h1_s_33⟩ := h_s_33
                          refine y_some ?_
                          try dsimp only
                          have e676 : (1 : Int32).toInt = 1 := rfl
                          refine y_some ?_
                          try dsimp only
                          refine ⟨?_, ?_, ?_, ?_, ?_, ?_, ?_, ?_⟩ <;> (first | with_reducible rfl | with_reducible assumption | omega | (exfalso; omega) | (exact Or.inr rfl) | (exact Or.inl (by omega)))
                        · skip
                          have c675' := c675
                          rw [← Int32.toInt_inj] at c675'
                          refine y_if (fun c677 => ?_) (fun c677 => ?_)
                          · skip
                            have c677' := c677
                            rw [← Int32.toInt_inj] at c677'
                            refine y_gd (y_gdI (by omega) (by omega)) ?_
                            refine y_if (fun c678 => ?_) (fun c678 => ?_)
                            · skip
                              try have e679 := @y_cl p1 (by omega)
                              have c678' := c678
                              rw [← Int32.toInt_inj] at c678'
                              refine y_if (fun c680 => ?_) (fun c680 => ?_)
                              · skip
                                have c680' := c680
                                rw [Int32.lt_iff_toInt_lt] at c680'
                                refine y_bi (y_X9_bad) (fun s_47 h_s_47 => ?_)
                                obtain ⟨h0_s_47, h1_s_47⟩ := h_s_47
                                refine y_some ?_
                                try dsimp only
                                have e681 : (1 : Int32).toInt = 1 := rfl
                                refine y_some ?_
                                try dsimp only
                                refine ⟨?_, ?_, ?_, ?_, ?_, ?_, ?_, ?_⟩ <;> (first | with_reducible rfl | with_reducible assumption | omega | (exfalso; omega) | (exact Or.inr rfl) | (exact Or.inl (by omega)))
                              · skip
                                have c680' := c680
                                rw [Int32.lt_iff_toInt_lt] at c680'
                                refine y_if (fun c682 => ?_) (fun c682 => ?_)
                                · skip
                                  have e683 : (200 : Int32).toInt = 200 := rfl
                                  have c682' := c682
                                  rw [Int32.lt_iff_toInt_lt] at c682'
                                  refine y_bi (y_X9_bad) (fun s_49 h_s_49 => ?_)
                                  obtain ⟨h0_s_49, h1_s_49⟩ := h_s_49
                                  refine y_some ?_
                                  try dsimp only
                                  have e684 : (1 : Int32).toInt = 1 := rfl
                                  refine y_some ?_
                                  try dsimp only
                                  refine ⟨?_, ?_, ?_, ?_, ?_, ?_, ?_, ?_⟩ <;> (first | with_reducible rfl | with_reducible assumption | omega | (exfalso; omega) | (exact Or.inr rfl) | (exact Or.inl (by omega)))
                                · skip
                                  have e685 : (200 : Int32).toInt = 200 := rfl
                                  have c682' := c682
                                  rw [Int32.lt_iff_toInt_lt] at c682'
                                  refine y_if (fun c686 => ?_) (fun c686 => ?_)
                                  · skip
                                    have c686' := c686
                                    rw [Int32.lt_iff_toInt_lt] at c686'
                                    refine y_bi (y_X9_bad) (fun s_51 h_s_51 => ?_)
                                    obtain ⟨h0_s_51, h1_s_51⟩ := h_s_51
                                    refine y_some ?_
                                    try dsimp only
                                    have e687 : (1 : Int32).toInt = 1 := rfl
                                    refine y_some ?_
                                    try dsimp only
                                    refine ⟨?_, ?_, ?_, ?_, ?_, ?_, ?_, ?_⟩ <;> (first | with_reducible rfl | with_reducible assumption | omega | (exfalso; omega) | (exact Or.inr rfl) | (exact Or.inl (by omega)))
                                  · skip
                                    have c686' := c686
                                    rw [Int32.lt_iff_toInt_lt] at c686'
                                    refine y_if (fun c688 => ?_) (fun c688 => ?_)
                                    · skip
                                      have c688' := c688
                                      rw [Int32.le_iff_toInt_le] at c688'
                                      refine y_some ?_
                                      try dsimp only
                                      have e689 : (1 : Int32).toInt = 1 := rfl
                                      refine y_some ?_
                                      try dsimp only
                                      refine ⟨?_, ?_, ?_, ?_, ?_, ?_, ?_, ?_⟩ <;> (first | with_reducible rfl | with_reducible assumption | omega | (exfalso; omega) | (exact Or.inr rfl) | (exact Or.inl (by omega)))
                                    · skip
                                      have c688' := c688
                                      rw [Int32.le_iff_toInt_le] at c688'
                                      refine y_bi (y_X9_bad) (fun s_53 h_s_53 => ?_)
                                      obtain ⟨h0_s_53, h1_s_53⟩ := h_s_53
                                      refine y_some ?_
                                      try dsimp only
                                      have e690 : (1 : Int32).toInt = 1 := rfl
                                      refine y_some ?_
                                      try dsimp only
                                      refine ⟨?_, ?_, ?_, ?_, ?_, ?_, ?_, ?_⟩ <;> (first | with_reducible rfl | with_reducible assumption | omega | (exfalso; omega) | (exact Or.inr rfl) | (exact Or.inl (by omega)))
                            · skip
                              try have e691 := @y_cl p1 (by omega)
                              have c678' := c678
                              rw [← Int32.toInt_inj] at c678'
                              refine y_bi (y_X9_bad) (fun s_45 h_s_45 => ?_)
                              obtain ⟨h0_s_45, h1_s_45⟩ := h_s_45
                              refine y_some ?_
                              try dsimp only
                              have e692 : (1 : Int32).toInt = 1 := rfl
                              refine y_some ?_
                              try dsimp only
                              refine ⟨?_, ?_, ?_, ?_, ?_, ?_, ?_, ?_⟩ <;> (first | with_reducible rfl | with_reducible assumption | omega | (exfalso; omega) | (exact Or.inr rfl) | (exact Or.inl (by omega)))
                          · skip
                            have c677' := c677
                            rw [← Int32.toInt_inj] at c677'
                            refine y_if (fun c693 => ?_) (fun c693 => ?_)
                            · skip
                              have c693' := c693
                              rw [Int32.lt_iff_toInt_lt] at c693'
                              refine y_bi (y_X9_bad) (fun s_36 h_s_36 => ?_)
                              obtain ⟨h0_s_36, h1_s_36⟩ := h_s_36
                              refine y_some ?_
                              try dsimp only
                              have e694 : (1 : Int32).toInt = 1 := rfl
                              refine y_some ?_
                              try dsimp only
                              refine ⟨?_, ?_, ?_, ?_, ?_, ?_, ?_, ?_⟩ <;> (first | with_reducible rfl | with_reducible assumption | omega | (exfalso; omega) | (exact Or.inr rfl) | (exact Or.inl (by omega)))
                            · skip
                              have c693' := c693
                              rw [Int32.lt_iff_toInt_lt] at c693'
                              refine y_if (fun c695 => ?_) (fun c695 => ?_)
                              · skip
                                have e696 : (200 : Int32).toInt = 200 := rfl
                                have c695' := c695
                                rw [Int32.lt_iff_toInt_lt] at c695'
                                refine y_bi (y_X9_bad) (fun s_38 h_s_38 => ?_)
                                obtain ⟨h0_s_38, h1_s_38⟩ := h_s_38
                                refine y_some ?_
                                try dsimp only
                                have e697 : (1 : Int32).toInt = 1 := rfl
                                refine y_some ?_
                                try dsimp only
                                refine ⟨?_, ?_, ?_, ?_, ?_, ?_, ?_, ?_⟩ <;> (first | with_reducible rfl | with_reducible assumption | omega | (exfalso; omega) | (exact Or.inr rfl) | (exact Or.inl (by omega)))
                              · skip
                                have e698 : (200 : Int32).toInt = 200 := rfl
                                have c695' := c695
                                rw [Int32.lt_iff_toInt_lt] at c695'
                                refine y_if (fun c699 => ?_) (fun c699 => ?_)
                                · skip
                                  have c699' := c699
                                  rw [Int32.lt_iff_toInt_lt] at c699'
                                  refine y_bi (y_X9_bad) (fun s_40 h_s_40 => ?_)
                                  obtain ⟨h0_s_40, h1_s_40⟩ := h_s_40
                                  refine y_some ?_
                                  try dsimp only
                                  have e700 : (1 : Int32).toInt = 1 := rfl
                                  refine y_some ?_
                                  try dsimp only
                                  refine ⟨?_, ?_, ?_, ?_, ?_, ?_, ?_, ?_⟩ <;> (first | with_reducible rfl | with_reducible assumption | omega | (exfalso; omega) | (exact Or.inr rfl) | (exact Or.inl (by omega)))
                                · skip
                                  have c699' := c699
                                  rw [Int32.lt_iff_toInt_lt] at c699'
                                  refine y_if (fun c701 => ?_) (fun c701 => ?_)
                                  · skip
                                    have c701' := c701
                                    rw [Int32.le_iff_toInt_le] at c701'
                                    refine y_some ?_
                                    try dsimp only
                                    have e702 : (1 : Int32).toInt = 1 := rfl
                                    refine y_some ?_
                                    try dsimp only
                                    refine ⟨?_, ?_, ?_, ?_, ?_, ?_, ?_, ?_⟩ <;> (first | with_reducible rfl | with_reducible assumption | omega | (exfalso; omega) | (exact Or.inr rfl) | (exact Or.inl (by omega)))
                                  · skip
                                    have c701' := c701
                                    rw [Int32.le_iff_toInt_le] at c701'
                                    refine y_bi (y_X9_bad) (fun s_42 h_s_42 => ?_)
                                    obtain ⟨h0_s_42, h1_s_42⟩ := h_s_42
                                    refine y_some ?_
                                    try dsimp only
                                    have e703 : (1 : Int32).toInt = 1 := rfl
                                    refine y_some ?_
                                    try dsimp only
                                    refine ⟨?_, ?_, ?_, ?_, ?_, ?_, ?_, ?_⟩ <;> (first | with_reducible rfl | with_reducible assumption | omega | (exfalso; omega) | (exact Or.inr rfl) | (exact Or.inl (by omega)))
          · skip
            have c293' := c293
            rw [← Int32.toInt_inj] at c293'
            refine y_if (fun c704 => ?_) (fun c704 => ?_)
            · skip
              have c704' := c704
              rw [Int32.lt_iff_toInt_lt] at c704'
              refine y_some ?_
              try dsimp only
              refine y_bt ?_
              refine y_bi (y_X9_isClass) (fun s_1 h_s_1 => ?_)
              have h0_s_1 : (s_1.toInt = 0 ∧ ¬ (0 ≤ p1.toInt ∧ p1.toInt < v7_2.toInt)) ∨ (s_1.toInt = 1 ∧ (0 ≤ p1.toInt ∧ p1.toInt < v7_2.toInt)) := h_s_1
              refine y_if (fun c705 => ?_) (fun c705 => ?_)
              · skip
                have c705' := c705
                rw [← Int32.toInt_inj] at c705'
                have e706 := y_or0 h0_s_1 c705'
                clear h0_s_1
                refine y_bi (y_X9_bad) (fun s_3 h_s_3 => ?_)
                obtain ⟨h0_s_3, h1_s_3⟩ := h_s_3
                refine y_some ?_
                try dsimp only
                have e707 : (1 : Int32).toInt = 1 := rfl
                refine y_some ?_
                try dsimp only
                refine ⟨?_, ?_, ?_, ?_, ?_, ?_, ?_, ?_⟩ <;> (first | with_reducible rfl | with_reducible assumption | omega | (exfalso; omega) | (exact Or.inr rfl) | (exact Or.inl (by omega)))
              · skip
                have c705' := c705
                rw [← Int32.toInt_inj] at c705'
                have e708 := y_or1 h0_s_1 c705'
                clear h0_s_1
                refine y_if (fun c709 => ?_) (fun c709 => ?_)
                · skip
                  have c709' := c709
                  rw [Int32.lt_iff_toInt_lt] at c709'
                  refine y_bi (y_X9_bad) (fun s_5 h_s_5 => ?_)
                  obtain ⟨h0_s_5, h1_s_5⟩ := h_s_5
                  refine y_some ?_
                  try dsimp only
                  have e710 : (1 : Int32).toInt = 1 := rfl
                  refine y_some ?_
                  try dsimp only
                  refine ⟨?_, ?_, ?_, ?_, ?_, ?_, ?_, ?_⟩ <;> (first | with_reducible rfl | with_reducible assumption | omega | (exfalso; omega) | (exact Or.inr rfl) | (exact Or.inl (by omega)))
                · skip
                  have c709' := c709
                  rw [Int32.lt_iff_toInt_lt] at c709'
                  refine y_if (fun c711 => ?_) (fun c711 => ?_)
                  · skip
                    have c711' := c711
                    rw [Int32.lt_iff_toInt_lt] at c711'
                    refine y_bi (y_X9_bad) (fun s_7 h_s_7 => ?_)
                    obtain ⟨h0_s_7, h1_s_7⟩ := h_s_7
                    refine y_some ?_
                    try dsimp only
                    have e712 : (1 : Int32).toInt = 1 := rfl
                    refine y_some ?_
                    try dsimp only
                    refine ⟨?_, ?_, ?_, ?_, ?_, ?_, ?_, ?_⟩ <;> (first | with_reducible rfl | with_reducible assumption | omega | (exfalso; omega) | (exact Or.inr rfl) | (exact Or.inl (by omega)))
                  · skip
                    have c711' := c711
                    rw [Int32.lt_iff_toInt_lt] at c711'
                    refine y_if (fun c713 => ?_) (fun c713 => ?_)
                    · skip
                      have c713' : p3.toInt = -1 := (y_eqN rfl).mp c713
                      refine y_if (fun c714 => ?_) (fun c714 => ?_)
                      · skip
                        have c714' := c714
                        rw [← Int32.toInt_inj] at c714'
                        refine y_gd (y_gdI (by omega) (by omega)) ?_
                        refine y_if (fun c715 => ?_) (fun c715 => ?_)
                        · skip
                          try have e716 := @y_cl p1 (by omega)
                          have c715' := c715
                          rw [← Int32.toInt_inj] at c715'
                          refine y_if (fun c717 => ?_) (fun c717 => ?_)
                          · skip
                            have c717' := c717
                            rw [Int32.lt_iff_toInt_lt] at c717'
                            refine y_bi (y_X9_bad) (fun s_22 h_s_22 => ?_)
                            obtain ⟨h0_s_22, h1_s_22⟩ := h_s_22
                            refine y_some ?_
                            try dsimp only
                            have e718 : (1 : Int32).toInt = 1 := rfl
                            refine y_some ?_
                            try dsimp only
                            refine ⟨?_, ?_, ?_, ?_, ?_, ?_, ?_, ?_⟩ <;> (first | with_reducible rfl | with_reducible assumption | omega | (exfalso; omega) | (exact Or.inr rfl) | (exact Or.inl (by omega)))
                          · skip
                            have c717' := c717
                            rw [Int32.lt_iff_toInt_lt] at c717'
                            refine y_if (fun c719 => ?_) (fun c719 => ?_)
                            · skip
                              have e720 : (200 : Int32).toInt = 200 := rfl
                              have c719' := c719
                              rw [Int32.lt_iff_toInt_lt] at c719'
                              refine y_bi (y_X9_bad) (fun s_24 h_s_24 => ?_)
                              obtain ⟨h0_s_24, h1_s_24⟩ := h_s_24
                              refine y_some ?_
                              try dsimp only
                              have e721 : (1 : Int32).toInt = 1 := rfl
                              refine y_some ?_
                              try dsimp only
                              refine ⟨?_, ?_, ?_, ?_, ?_, ?_, ?_, ?_⟩ <;> (first | with_reducible rfl | with_reducible assumption | omega | (exfalso; omega) | (exact Or.inr rfl) | (exact Or.inl (by omega)))
                            · skip
                              have e722 : (200 : Int32).toInt = 200 := rfl
                              have c719' := c719
                              rw [Int32.lt_iff_toInt_lt] at c719'
                              refine y_if (fun c723 => ?_) (fun c723 => ?_)
                              · skip
                                have c723' := c723
                                rw [Int32.lt_iff_toInt_lt] at c723'
                                refine y_bi (y_X9_bad) (fun s_26 h_s_26 => ?_)
                                obtain ⟨h0_s_26, h1_s_26⟩ := h_s_26
                                refine y_some ?_
                                try dsimp only
                                have e724 : (1 : Int32).toInt = 1 := rfl
                                refine y_some ?_
                                try dsimp only
                                refine ⟨?_, ?_, ?_, ?_, ?_, ?_, ?_, ?_⟩ <;> (first | with_reducible rfl | with_reducible assumption | omega | (exfalso; omega) | (exact Or.inr rfl) | (exact Or.inl (by omega)))
                              · skip
                                have c723' := c723
                                rw [Int32.lt_iff_toInt_lt] at c723'
                                refine y_if (fun c725 => ?_) (fun c725 => ?_)
                                · skip
                                  have c725' := c725
                                  rw [Int32.le_iff_toInt_le] at c725'
                                  refine y_some ?_
                                  try dsimp only
                                  have e726 : (1 : Int32).toInt = 1 := rfl
                                  refine y_some ?_
                                  try dsimp only
                                  refine ⟨?_, ?_, ?_, ?_, ?_, ?_, ?_, ?_⟩ <;> (first | with_reducible rfl | with_reducible assumption | omega | (exfalso; omega) | (exact Or.inr rfl) | (exact Or.inl (by omega)))
                                · skip
                                  have c725' := c725
                                  rw [Int32.le_iff_toInt_le] at c725'
                                  refine y_bi (y_X9_bad) (fun s_28 h_s_28 => ?_)
                                  obtain ⟨h0_s_28, h1_s_28⟩ := h_s_28
                                  refine y_some ?_
                                  try dsimp only
                                  have e727 : (1 : Int32).toInt = 1 := rfl
                                  refine y_some ?_
                                  try dsimp only
                                  refine ⟨?_, ?_, ?_, ?_, ?_, ?_, ?_, ?_⟩ <;> (first | with_reducible rfl | with_reducible assumption | omega | (exfalso; omega) | (exact Or.inr rfl) | (exact Or.inl (by omega)))
                        · skip
                          try have e728 := @y_cl p1 (by omega)
                          have c715' := c715
                          rw [← Int32.toInt_inj] at c715'
                          refine y_bi (y_X9_bad) (fun s_20 h_s_20 => ?_)
                          obtain ⟨h0_s_20, h1_s_20⟩ := h_s_20
                          refine y_some ?_
                          try dsimp only
                          have e729 : (1 : Int32).toInt = 1 := rfl
                          refine y_some ?_
                          try dsimp only
                          refine ⟨?_, ?_, ?_, ?_, ?_, ?_, ?_, ?_⟩ <;> (first | with_reducible rfl | with_reducible assumption | omega | (exfalso; omega) | (exact Or.inr rfl) | (exact Or.inl (by omega)))
                      · skip
                        have c714' := c714
                        rw [← Int32.toInt_inj] at c714'
                        refine y_if (fun c730 => ?_) (fun c730 => ?_)
                        · skip
                          have c730' := c730
                          rw [Int32.lt_iff_toInt_lt] at c730'
                          refine y_bi (y_X9_bad) (fun s_11 h_s_11 => ?_)
                          obtain ⟨h0_s_11, h1_s_11⟩ := h_s_11
                          refine y_some ?_
                          try dsimp only
                          have e731 : (1 : Int32).toInt = 1 := rfl
                          refine y_some ?_
                          try dsimp only
                          refine ⟨?_, ?_, ?_, ?_, ?_, ?_, ?_, ?_⟩ <;> (first | with_reducible rfl | with_reducible assumption | omega | (exfalso; omega) | (exact Or.inr rfl) | (exact Or.inl (by omega)))
                        · skip
                          have c730' := c730
                          rw [Int32.lt_iff_toInt_lt] at c730'
                          refine y_if (fun c732 => ?_) (fun c732 => ?_)
                          · skip
                            have e733 : (200 : Int32).toInt = 200 := rfl
                            have c732' := c732
                            rw [Int32.lt_iff_toInt_lt] at c732'
                            refine y_bi (y_X9_bad) (fun s_13 h_s_13 => ?_)
                            obtain ⟨h0_s_13, h1_s_13⟩ := h_s_13
                            refine y_some ?_
                            try dsimp only
                            have e734 : (1 : Int32).toInt = 1 := rfl
                            refine y_some ?_
                            try dsimp only
                            refine ⟨?_, ?_, ?_, ?_, ?_, ?_, ?_, ?_⟩ <;> (first | with_reducible rfl | with_reducible assumption | omega | (exfalso; omega) | (exact Or.inr rfl) | (exact Or.inl (by omega)))
                          · skip
                            have e735 : (200 : Int32).toInt = 200 := rfl
                            have c732' := c732
                            rw [Int32.lt_iff_toInt_lt] at c732'
                            refine y_if (fun c736 => ?_) (fun c736 => ?_)
                            · skip
                              have c736' := c736
                              rw [Int32.lt_iff_toInt_lt] at c736'
                              refine y_bi (y_X9_bad) (fun s_15 h_s_15 => ?_)
                              obtain ⟨h0_s_15, h1_s_15⟩ := h_s_15
                              refine y_some ?_
                              try dsimp only
                              have e737 : (1 : Int32).toInt = 1 := rfl
                              refine y_some ?_
                              try dsimp only
                              refine ⟨?_, ?_, ?_, ?_, ?_, ?_, ?_, ?_⟩ <;> (first | with_reducible rfl | with_reducible assumption | omega | (exfalso; omega) | (exact Or.inr rfl) | (exact Or.inl (by omega)))
                            · skip
                              have c736' := c736
                              rw [Int32.lt_iff_toInt_lt] at c736'
                              refine y_if (fun c738 => ?_) (fun c738 => ?_)
                              · skip
                                have c738' := c738
                                rw [Int32.le_iff_toInt_le] at c738'
                                refine y_some ?_
                                try dsimp only
                                have e739 : (1 : Int32).toInt = 1 := rfl
                                refine y_some ?_
                                try dsimp only
                                refine ⟨?_, ?_, ?_, ?_, ?_, ?_, ?_, ?_⟩ <;> (first | with_reducible rfl | with_reducible assumption | omega | (exfalso; omega) | (exact Or.inr rfl) | (exact Or.inl (by omega)))
                              · skip
                                have c738' := c738
                                rw [Int32.le_iff_toInt_le] at c738'
                                refine y_bi (y_X9_bad) (fun s_17 h_s_17 => ?_)
                                obtain ⟨h0_s_17, h1_s_17⟩ := h_s_17
                                refine y_some ?_
                                try dsimp only
                                have e740 : (1 : Int32).toInt = 1 := rfl
                                refine y_some ?_
                                try dsimp only
                                refine ⟨?_, ?_, ?_, ?_, ?_, ?_, ?_, ?_⟩ <;> (first | with_reducible rfl | with_reducible assumption | omega | (exfalso; omega) | (exact Or.inr rfl) | (exact Or.inl (by omega)))
                    · skip
                      have c713' : ¬ p3.toInt = -1 := fun hz => c713 ((y_eqN rfl).mpr hz)
                      refine y_bi (y_X9_isType (by omega) (by omega)) (fun s_29 h_s_29 => ?_)
                      have h0_s_29 : (s_29.toInt = 0 ∧ ¬ (0 ≤ p3.toInt ∧ p3.toInt < 16777216 ∧ (p3.toInt % 65536 < v7_2.toInt ∨ 65528 ≤ p3.toInt % 65536))) ∨ (s_29.toInt = 1 ∧ (0 ≤ p3.toInt ∧ p3.toInt < 16777216 ∧ (p3.toInt % 65536 < v7_2.toInt ∨ 65528 ≤ p3.toInt % 65536))) := h_s_29
                      refine y_if (fun c741 => ?_) (fun c741 => ?_)
                      · skip
                        have c741' := c741
                        rw [← Int32.toInt_inj] at c741'
                        have e742 := y_or0 h0_s_29 c741'
                        clear h0_s_29
                        refine y_bi (y_X9_bad) (fun s_31 h_s_31 => ?_)
                        obtain ⟨h0_s_31, h1_s_31⟩ := h_s_31
                        refine y_some ?_
                        try dsimp only
                        have e743 : (1 : Int32).toInt = 1 := rfl
                        refine y_some ?_
                        try dsimp only
                        refine ⟨?_, ?_, ?_, ?_, ?_, ?_, ?_, ?_⟩ <;> (first | with_reducible rfl | with_reducible assumption | omega | (exfalso; omega) | (exact Or.inr rfl) | (exact Or.inl (by omega)))
                      · skip
                        have c741' := c741
                        rw [← Int32.toInt_inj] at c741'
                        have e744 := y_or1 h0_s_29 c741'
                        clear h0_s_29
                        refine y_if (fun c745 => ?_) (fun c745 => ?_)
                        · skip
                          have c745' := c745
                          rw [← Int32.toInt_inj] at c745'
                          refine y_bi (y_X9_bad) (fun s_33 h_s_33 => ?_)
                          obtain ⟨h0_s_33, h1_s_33⟩ := h_s_33
                          refine y_some ?_
                          try dsimp only
                          have e746 : (1 : Int32).toInt = 1 := rfl
                          refine y_some ?_
                          try dsimp only
                          refine ⟨?_, ?_, ?_, ?_, ?_, ?_, ?_, ?_⟩ <;> (first | with_reducible rfl | with_reducible assumption | omega | (exfalso; omega) | (exact Or.inr rfl) | (exact Or.inl (by omega)))
                        · skip
                          have c745' := c745
                          rw [← Int32.toInt_inj] at c745'
                          refine y_if (fun c747 => ?_) (fun c747 => ?_)
                          · skip
                            have c747' := c747
                            rw [← Int32.toInt_inj] at c747'
                            refine y_gd (y_gdI (by omega) (by omega)) ?_
                            refine y_if (fun c748 => ?_) (fun c748 => ?_)
                            · skip
                              try have e749 := @y_cl p1 (by omega)
                              have c748' := c748
                              rw [← Int32.toInt_inj] at c748'
                              refine y_if (fun c750 => ?_) (fun c750 => ?_)
                              · skip
                                have c750' := c750
                                rw [Int32.lt_iff_toInt_lt] at c750'
                                refine y_bi (y_X9_bad) (fun s_47 h_s_47 => ?_)
                                obtain ⟨h0_s_47, h1_s_47⟩ := h_s_47
                                refine y_some ?_
                                try dsimp only
                                have e751 : (1 : Int32).toInt = 1 := rfl
                                refine y_some ?_
                                try dsimp only
                                refine ⟨?_, ?_, ?_, ?_, ?_, ?_, ?_, ?_⟩ <;> (first | with_reducible rfl | with_reducible assumption | omega | (exfalso; omega) | (exact Or.inr rfl) | (exact Or.inl (by omega)))
                              · skip
                                have c750' := c750
                                rw [Int32.lt_iff_toInt_lt] at c750'
                                refine y_if (fun c752 => ?_) (fun c752 => ?_)
                                · skip
                                  have e753 : (200 : Int32).toInt = 200 := rfl
                                  have c752' := c752
                                  rw [Int32.lt_iff_toInt_lt] at c752'
                                  refine y_bi (y_X9_bad) (fun s_49 h_s_49 => ?_)
                                  obtain ⟨h0_s_49, h1_s_49⟩ := h_s_49
                                  refine y_some ?_
                                  try dsimp only
                                  have e754 : (1 : Int32).toInt = 1 := rfl
                                  refine y_some ?_
                                  try dsimp only
                                  refine ⟨?_, ?_, ?_, ?_, ?_, ?_, ?_, ?_⟩ <;> (first | with_reducible rfl | with_reducible assumption | omega | (exfalso; omega) | (exact Or.inr rfl) | (exact Or.inl (by omega)))
                                · skip
                                  have e755 : (200 : Int32).toInt = 200 := rfl
                                  have c752' := c752
                                  rw [Int32.lt_iff_toInt_lt] at c752'
                                  refine y_if (fun c756 => ?_) (fun c756 => ?_)
                                  · skip
                                    have c756' := c756
                                    rw [Int32.lt_iff_toInt_lt] at c756'
                                    refine y_bi (y_X9_bad) (fun s_51 h_s_51 => ?_)
                                    obtain ⟨h0_s_51, h1_s_51⟩ := h_s_51
                                    refine y_some ?_
                                    try dsimp only
                                    have e757 : (1 : Int32).toInt = 1 := rfl
                                    refine y_some ?_
                                    try dsimp only
                                    refine ⟨?_, ?_, ?_, ?_, ?_, ?_, ?_, ?_⟩ <;> (first | with_reducible rfl | with_reducible assumption | omega | (exfalso; omega) | (exact Or.inr rfl) | (exact Or.inl (by omega)))
                                  · skip
                                    have c756' := c756
                                    rw [Int32.lt_iff_toInt_lt] at c756'
                                    refine y_if (fun c758 => ?_) (fun c758 => ?_)
                                    · skip
                                      have c758' := c758
                                      rw [Int32.le_iff_toInt_le] at c758'
                                      refine y_some ?_
                                      try dsimp only
                                      have e759 : (1 : Int32).toInt = 1 := rfl
                                      refine y_some ?_
                                      try dsimp only
                                      refine ⟨?_, ?_, ?_, ?_, ?_, ?_, ?_, ?_⟩ <;> (first | with_reducible rfl | with_reducible assumption | omega | (exfalso; omega) | (exact Or.inr rfl) | (exact Or.inl (by omega)))
                                    · skip
                                      have c758' := c758
                                      rw [Int32.le_iff_toInt_le] at c758'
                                      refine y_bi (y_X9_bad) (fun s_53 h_s_53 => ?_)
                                      obtain ⟨h0_s_53, h1_s_53⟩ := h_s_53
                                      refine y_some ?_
                                      try dsimp only
                                      have e760 : (1 : Int32).toInt = 1 := rfl
                                      refine y_some ?_
                                      try dsimp only
                                      refine ⟨?_, ?_, ?_, ?_, ?_, ?_, ?_, ?_⟩ <;> (first | with_reducible rfl | with_reducible assumption | omega | (exfalso; omega) | (exact Or.inr rfl) | (exact Or.inl (by omega)))
                            · skip
                              try have e761 := @y_cl p1 (by omega)
                              have c748' := c748
                              rw [← Int32.toInt_inj] at c748'
                              refine y_bi (y_X9_bad) (fun s_45 h_s_45 => ?_)
                              obtain ⟨h0_s_45, h1_s_45⟩ := h_s_45
                              refine y_some ?_
                              try dsimp only
                              have e762 : (1 : Int32).toInt = 1 := rfl
                              refine y_some ?_
                              try dsimp only
                              refine ⟨?_, ?_, ?_, ?_, ?_, ?_, ?_, ?_⟩ <;> (first | with_reducible rfl | with_reducible assumption | omega | (exfalso; omega) | (exact Or.inr rfl) | (exact Or.inl (by omega)))
                          · skip
                            have c747' := c747
                            rw [← Int32.toInt_inj] at c747'
                            refine y_if (fun c763 => ?_) (fun c763 => ?_)
                            · skip
                              have c763' := c763
                              rw [Int32.lt_iff_toInt_lt] at c763'
                              refine y_bi (y_X9_bad) (fun s_36 h_s_36 => ?_)
                              obtain ⟨h0_s_36, h1_s_36⟩ := h_s_36
                              refine y_some ?_
                              try dsimp only
                              have e764 : (1 : Int32).toInt = 1 := rfl
                              refine y_some ?_
                              try dsimp only
                              refine ⟨?_, ?_, ?_, ?_, ?_, ?_, ?_, ?_⟩ <;> (first | with_reducible rfl | with_reducible assumption | omega | (exfalso; omega) | (exact Or.inr rfl) | (exact Or.inl (by omega)))
                            · skip
                              have c763' := c763
                              rw [Int32.lt_iff_toInt_lt] at c763'
                              refine y_if (fun c765 => ?_) (fun c765 => ?_)
                              · skip
                                have e766 : (200 : Int32).toInt = 200 := rfl
                                have c765' := c765
                                rw [Int32.lt_iff_toInt_lt] at c765'
                                refine y_bi (y_X9_bad) (fun s_38 h_s_38 => ?_)
                                obtain ⟨h0_s_38, h1_s_38⟩ := h_s_38
                                refine y_some ?_
                                try dsimp only
                                have e767 : (1 : Int32).toInt = 1 := rfl
                                refine y_some ?_
                                try dsimp only
                                refine ⟨?_, ?_, ?_, ?_, ?_, ?_, ?_, ?_⟩ <;> (first | with_reducible rfl | with_reducible assumption | omega | (exfalso; omega) | (exact Or.inr rfl) | (exact Or.inl (by omega)))
                              · skip
                                have e768 : (200 : Int32).toInt = 200 := rfl
                                have c765' := c765
                                rw [Int32.lt_iff_toInt_lt] at c765'
                                refine y_if (fun c769 => ?_) (fun c769 => ?_)
                                · skip
                                  have c769' := c769
                                  rw [Int32.lt_iff_toInt_lt] at c769'
                                  refine y_bi (y_X9_bad) (fun s_40 h_s_40 => ?_)
                                  obtain ⟨h0_s_40, h1_s_40⟩ := h_s_40
                                  refine y_some ?_
                                  try dsimp only
                                  have e770 : (1 : Int32).toInt = 1 := rfl
                                  refine y_some ?_
                                  try dsimp only
                                  refine ⟨?_, ?_, ?_, ?_, ?_, ?_, ?_, ?_⟩ <;> (first | with_reducible rfl | with_reducible assumption | omega | (exfalso; omega) | (exact Or.inr rfl) | (exact Or.inl (by omega)))
                                · skip
                                  have c769' := c769
                                  rw [Int32.lt_iff_toInt_lt] at c769'
                                  refine y_if (fun c771 => ?_) (fun c771 => ?_)
                                  · skip
                                    have c771' := c771
                                    rw [Int32.le_iff_toInt_le] at c771'
                                    refine y_some ?_
                                    try dsimp only
                                    have e772 : (1 : Int32).toInt = 1 := rfl
                                    refine y_some ?_
                                    try dsimp only
                                    refine ⟨?_, ?_, ?_, ?_, ?_, ?_, ?_, ?_⟩ <;> (first | with_reducible rfl | with_reducible assumption | omega | (exfalso; omega) | (exact Or.inr rfl) | (exact Or.inl (by omega)))
                                  · skip
                                    have c771' := c771
                                    rw [Int32.le_iff_toInt_le] at c771'
                                    refine y_bi (y_X9_bad) (fun s_42 h_s_42 => ?_)
                                    obtain ⟨h0_s_42, h1_s_42⟩ := h_s_42
                                    refine y_some ?_
                                    try dsimp only
                                    have e773 : (1 : Int32).toInt = 1 := rfl
                                    refine y_some ?_
                                    try dsimp only
                                    refine ⟨?_, ?_, ?_, ?_, ?_, ?_, ?_, ?_⟩ <;> (first | with_reducible rfl | with_reducible assumption | omega | (exfalso; omega) | (exact Or.inr rfl) | (exact Or.inl (by omega)))
            · skip
              have c704' := c704
              rw [Int32.lt_iff_toInt_lt] at c704'
              refine y_if (fun c774 => ?_) (fun c774 => ?_)
              · skip
                have e775 : (200 : Int32).toInt = 200 := rfl
                have c774' := c774
                rw [Int32.lt_iff_toInt_lt] at c774'
                refine y_some ?_
                try dsimp only
                refine y_bt ?_
                refine y_bi (y_X9_isClass) (fun s_1 h_s_1 => ?_)
                have h0_s_1 : (s_1.toInt = 0 ∧ ¬ (0 ≤ p1.toInt ∧ p1.toInt < v7_2.toInt)) ∨ (s_1.toInt = 1 ∧ (0 ≤ p1.toInt ∧ p1.toInt < v7_2.toInt)) := h_s_1
                refine y_if (fun c776 => ?_) (fun c776 => ?_)
                · skip
                  have c776' := c776
                  rw [← Int32.toInt_inj] at c776'
                  have e777 := y_or0 h0_s_1 c776'
                  clear h0_s_1
                  refine y_bi (y_X9_bad) (fun s_3 h_s_3 => ?_)
                  obtain ⟨h0_s_3, h1_s_3⟩ := h_s_3
                  refine y_some ?_
                  try dsimp only
                  have e778 : (1 : Int32).toInt = 1 := rfl
                  refine y_some ?_
                  try dsimp only
                  refine ⟨?_, ?_, ?_, ?_, ?_, ?_, ?_, ?_⟩ <;> (first | with_reducible rfl | with_reducible assumption | omega | (exfalso; omega) | (exact Or.inr rfl) | (exact Or.inl (by omega)))
                · skip
                  have c776' := c776
                  rw [← Int32.toInt_inj] at c776'
                  have e779 := y_or1 h0_s_1 c776'
                  clear h0_s_1
                  refine y_if (fun c780 => ?_) (fun c780 => ?_)
                  · skip
                    have c780' := c780
                    rw [Int32.lt_iff_toInt_lt] at c780'
                    refine y_bi (y_X9_bad) (fun s_5 h_s_5 => ?_)
                    obtain ⟨h0_s_5, h1_s_5⟩ := h_s_5
                    refine y_some ?_
                    try dsimp only
                    have e781 : (1 : Int32).toInt = 1 := rfl
                    refine y_some ?_
                    try dsimp only
                    refine ⟨?_, ?_, ?_, ?_, ?_, ?_, ?_, ?_⟩ <;> (first | with_reducible rfl | with_reducible assumption | omega | (exfalso; omega) | (exact Or.inr rfl) | (exact Or.inl (by omega)))
                  · skip
                    have c780' := c780
                    rw [Int32.lt_iff_toInt_lt] at c780'
                    refine y_if (fun c782 => ?_) (fun c782 => ?_)
                    · skip
                      have c782' := c782
                      rw [Int32.lt_iff_toInt_lt] at c782'
                      refine y_bi (y_X9_bad) (fun s_7 h_s_7 => ?_)
                      obtain ⟨h0_s_7, h1_s_7⟩ := h_s_7
                      refine y_some ?_
                      try dsimp only
                      have e783 : (1 : Int32).toInt = 1 := rfl
                      refine y_some ?_
                      try dsimp only
                      refine ⟨?_, ?_, ?_, ?_, ?_, ?_, ?_, ?_⟩ <;> (first | with_reducible rfl | with_reducible assumption | omega | (exfalso; omega) | (exact Or.inr rfl) | (exact Or.inl (by omega)))
                    · skip
                      have c782' := c782
                      rw [Int32.lt_iff_toInt_lt] at c782'
                      refine y_if (fun c784 => ?_) (fun c784 => ?_)
                      · skip
                        have c784' : p3.toInt = -1 := (y_eqN rfl).mp c784
                        refine y_if (fun c785 => ?_) (fun c785 => ?_)
                        · skip
                          have c785' := c785
                          rw [← Int32.toInt_inj] at c785'
                          refine y_gd (y_gdI (by omega) (by omega)) ?_
                          refine y_if (fun c786 => ?_) (fun c786 => ?_)
                          · skip
                            try have e787 := @y_cl p1 (by omega)
                            have c786' := c786
                            rw [← Int32.toInt_inj] at c786'
                            refine y_if (fun c788 => ?_) (fun c788 => ?_)
                            · skip
                              have c788' := c788
                              rw [Int32.lt_iff_toInt_lt] at c788'
                              refine y_bi (y_X9_bad) (fun s_22 h_s_22 => ?_)
                              obtain ⟨h0_s_22, h1_s_22⟩ := h_s_22
                              refine y_some ?_
                              try dsimp only
                              have e789 : (1 : Int32).toInt = 1 := rfl
                              refine y_some ?_
                              try dsimp only
                              refine ⟨?_, ?_, ?_, ?_, ?_, ?_, ?_, ?_⟩ <;> (first | with_reducible rfl | with_reducible assumption | omega | (exfalso; omega) | (exact Or.inr rfl) | (exact Or.inl (by omega)))
                            · skip
                              have c788' := c788
                              rw [Int32.lt_iff_toInt_lt] at c788'
                              refine y_if (fun c790 => ?_) (fun c790 => ?_)
                              · skip
                                have c790' := c790
                                rw [Int32.lt_iff_toInt_lt] at c790'
                                refine y_bi (y_X9_bad) (fun s_24 h_s_24 => ?_)
                                obtain ⟨h0_s_24, h1_s_24⟩ := h_s_24
                                refine y_some ?_
                                try dsimp only
                                have e791 : (1 : Int32).toInt = 1 := rfl
                                refine y_some ?_
                                try dsimp only
                                refine ⟨?_, ?_, ?_, ?_, ?_, ?_, ?_, ?_⟩ <;> (first | with_reducible rfl | with_reducible assumption | omega | (exfalso; omega) | (exact Or.inr rfl) | (exact Or.inl (by omega)))
                              · skip
                                have c790' := c790
                                rw [Int32.lt_iff_toInt_lt] at c790'
                                refine y_if (fun c792 => ?_) (fun c792 => ?_)
                                · skip
                                  have c792' := c792
                                  rw [Int32.lt_iff_toInt_lt] at c792'
                                  refine y_bi (y_X9_bad) (fun s_26 h_s_26 => ?_)
                                  obtain ⟨h0_s_26, h1_s_26⟩ := h_s_26
                                  refine y_some ?_
                                  try dsimp only
                                  have e793 : (1 : Int32).toInt = 1 := rfl
                                  refine y_some ?_
                                  try dsimp only
                                  refine ⟨?_, ?_, ?_, ?_, ?_, ?_, ?_, ?_⟩ <;> (first | with_reducible rfl | with_reducible assumption | omega | (exfalso; omega) | (exact Or.inr rfl) | (exact Or.inl (by omega)))
                                · skip
                                  have c792' := c792
                                  rw [Int32.lt_iff_toInt_lt] at c792'
                                  refine y_if (fun c794 => ?_) (fun c794 => ?_)
                                  · skip
                                    have c794' := c794
                                    rw [Int32.le_iff_toInt_le] at c794'
                                    refine y_some ?_
                                    try dsimp only
                                    have e795 : (1 : Int32).toInt = 1 := rfl
                                    refine y_some ?_
                                    try dsimp only
                                    refine ⟨?_, ?_, ?_, ?_, ?_, ?_, ?_, ?_⟩ <;> (first | with_reducible rfl | with_reducible assumption | omega | (exfalso; omega) | (exact Or.inr rfl) | (exact Or.inl (by omega)))
                                  · skip
                                    have c794' := c794
                                    rw [Int32.le_iff_toInt_le] at c794'
                                    refine y_bi (y_X9_bad) (fun s_28 h_s_28 => ?_)
                                    obtain ⟨h0_s_28, h1_s_28⟩ := h_s_28
                                    refine y_some ?_
                                    try dsimp only
                                    have e796 : (1 : Int32).toInt = 1 := rfl
                                    refine y_some ?_
                                    try dsimp only
                                    refine ⟨?_, ?_, ?_, ?_, ?_, ?_, ?_, ?_⟩ <;> (first | with_reducible rfl | with_reducible assumption | omega | (exfalso; omega) | (exact Or.inr rfl) | (exact Or.inl (by omega)))
                          · skip
                            try have e797 := @y_cl p1 (by omega)
                            have c786' := c786
                            rw [← Int32.toInt_inj] at c786'
                            refine y_bi (y_X9_bad) (fun s_20 h_s_20 => ?_)
                            obtain ⟨h0_s_20, h1_s_20⟩ := h_s_20
                            refine y_some ?_
                            try dsimp only
                            have e798 : (1 : Int32).toInt = 1 := rfl
                            refine y_some ?_
                            try dsimp only
                            refine ⟨?_, ?_, ?_, ?_, ?_, ?_, ?_, ?_⟩ <;> (first | with_reducible rfl | with_reducible assumption | omega | (exfalso; omega) | (exact Or.inr rfl) | (exact Or.inl (by omega)))
                        · skip
                          have c785' := c785
                          rw [← Int32.toInt_inj] at c785'
                          refine y_if (fun c799 => ?_) (fun c799 => ?_)
                          · skip
                            have c799' := c799
                            rw [Int32.lt_iff_toInt_lt] at c799'
                            refine y_bi (y_X9_bad) (fun s_11 h_s_11 => ?_)
                            obtain ⟨h0_s_11, h1_s_11⟩ := h_s_11
                            refine y_some ?_
                            try dsimp only
                            have e800 : (1 : Int32).toInt = 1 := rfl
                            refine y_some ?_
                            try dsimp only
                            refine ⟨?_, ?_, ?_, ?_, ?_, ?_, ?_, ?_⟩ <;> (first | with_reducible rfl | with_reducible assumption | omega | (exfalso; omega) | (exact Or.inr rfl) | (exact Or.inl (by omega)))
                          · skip
                            have c799' := c799
                            rw [Int32.lt_iff_toInt_lt] at c799'
                            refine y_if (fun c801 => ?_) (fun c801 => ?_)
                            · skip
                              have c801' := c801
                              rw [Int32.lt_iff_toInt_lt] at c801'
                              refine y_bi (y_X9_bad) (fun s_13 h_s_13 => ?_)
                              obtain ⟨h0_s_13, h1_s_13⟩ := h_s_13
                              refine y_some ?_
                              try dsimp only
                              have e802 : (1 : Int32).toInt = 1 := rfl
                              refine y_some ?_
                              try dsimp only
                              refine ⟨?_, ?_, ?_, ?_, ?_, ?_, ?_, ?_⟩ <;> (first | with_reducible rfl | with_reducible assumption | omega | (exfalso; omega) | (exact Or.inr rfl) | (exact Or.inl (by omega)))
                            · skip
                              have c801' := c801
                              rw [Int32.lt_iff_toInt_lt] at c801'
                              refine y_if (fun c803 => ?_) (fun c803 => ?_)
                              · skip
                                have c803' := c803
                                rw [Int32.lt_iff_toInt_lt] at c803'
                                refine y_bi (y_X9_bad) (fun s_15 h_s_15 => ?_)
                                obtain ⟨h0_s_15, h1_s_15⟩ := h_s_15
                                refine y_some ?_
                                try dsimp only
                                have e804 : (1 : Int32).toInt = 1 := rfl
                                refine y_some ?_
                                try dsimp only
                                refine ⟨?_, ?_, ?_, ?_, ?_, ?_, ?_, ?_⟩ <;> (first | with_reducible rfl | with_reducible assumption | omega | (exfalso; omega) | (exact Or.inr rfl) | (exact Or.inl (by omega)))
                              · skip
                                have c803' := c803
                                rw [Int32.lt_iff_toInt_lt] at c803'
                                refine y_if (fun c805 => ?_) (fun c805 => ?_)
                                · skip
                                  have c805' := c805
                                  rw [Int32.le_iff_toInt_le] at c805'
                                  refine y_some ?_
                                  try dsimp only
                                  have e806 : (1 : Int32).toInt = 1 := rfl
                                  refine y_some ?_
                                  try dsimp only
                                  refine ⟨?_, ?_, ?_, ?_, ?_, ?_, ?_, ?_⟩ <;> (first | with_reducible rfl | with_reducible assumption | omega | (exfalso; omega) | (exact Or.inr rfl) | (exact Or.inl (by omega)))
                                · skip
                                  have c805' := c805
                                  rw [Int32.le_iff_toInt_le] at c805'
                                  refine y_bi (y_X9_bad) (fun s_17 h_s_17 => ?_)
                                  obtain ⟨h0_s_17, h1_s_17⟩ := h_s_17
                                  refine y_some ?_
                                  try dsimp only
                                  have e807 : (1 : Int32).toInt = 1 := rfl
                                  refine y_some ?_
                                  try dsimp only
                                  refine ⟨?_, ?_, ?_, ?_, ?_, ?_, ?_, ?_⟩ <;> (first | with_reducible rfl | with_reducible assumption | omega | (exfalso; omega) | (exact Or.inr rfl) | (exact Or.inl (by omega)))
                      · skip
                        have c784' : ¬ p3.toInt = -1 := fun hz => c784 ((y_eqN rfl).mpr hz)
                        refine y_bi (y_X9_isType (by omega) (by omega)) (fun s_29 h_s_29 => ?_)
                        have h0_s_29 : (s_29.toInt = 0 ∧ ¬ (0 ≤ p3.toInt ∧ p3.toInt < 16777216 ∧ (p3.toInt % 65536 < v7_2.toInt ∨ 65528 ≤ p3.toInt % 65536))) ∨ (s_29.toInt = 1 ∧ (0 ≤ p3.toInt ∧ p3.toInt < 16777216 ∧ (p3.toInt % 65536 < v7_2.toInt ∨ 65528 ≤ p3.toInt % 65536))) := h_s_29
                        refine y_if (fun c808 => ?_) (fun c808 => ?_)
                        · skip
                          have c808' := c808
                          rw [← Int32.toInt_inj] at c808'
                          have e809 := y_or0 h0_s_29 c808'
                          clear h0_s_29
                          refine y_bi (y_X9_bad) (fun s_31 h_s_31 => ?_)
                          obtain ⟨h0_s_31, h1_s_31⟩ := h_s_31
                          refine y_some ?_
                          try dsimp only
                          have e810 : (1 : Int32).toInt = 1 := rfl
                          refine y_some ?_
                          try dsimp only
                          refine ⟨?_, ?_, ?_, ?_, ?_, ?_, ?_, ?_⟩ <;> (first | with_reducible rfl | with_reducible assumption | omega | (exfalso; omega) | (exact Or.inr rfl) | (exact Or.inl (by omega)))
                        · skip
                          have c808' := c808
                          rw [← Int32.toInt_inj] at c808'
                          have e811 := y_or1 h0_s_29 c808'
                          clear h0_s_29
                          refine y_if (fun c812 => ?_) (fun c812 => ?_)
                          · skip
                            have c812' := c812
                            rw [← Int32.toInt_inj] at c812'
                            refine y_bi (y_X9_bad) (fun s_33 h_s_33 => ?_)
                            obtain ⟨h0_s_33, h1_s_33⟩ := h_s_33
                            refine y_some ?_
                            try dsimp only
                            have e813 : (1 : Int32).toInt = 1 := rfl
                            refine y_some ?_
                            try dsimp only
                            refine ⟨?_, ?_, ?_, ?_, ?_, ?_, ?_, ?_⟩ <;> (first | with_reducible rfl | with_reducible assumption | omega | (exfalso; omega) | (exact Or.inr rfl) | (exact Or.inl (by omega)))
                          · skip
                            have c812' := c812
                            rw [← Int32.toInt_inj] at c812'
                            refine y_if (fun c814 => ?_) (fun c814 => ?_)
                            · skip
                              have c814' := c814
                              rw [← Int32.toInt_inj] at c814'
                              refine y_gd (y_gdI (by omega) (by omega)) ?_
                              refine y_if (fun c815 => ?_) (fun c815 => ?_)
                              · skip
                                try have e816 := @y_cl p1 (by omega)
                                have c815' := c815
                                rw [← Int32.toInt_inj] at c815'
                                refine y_if (fun c817 => ?_) (fun c817 => ?_)
                                · skip
                                  have c817' := c817
                                  rw [Int32.lt_iff_toInt_lt] at c817'
                                  refine y_bi (y_X9_bad) (fun s_47 h_s_47 => ?_)
                                  obtain ⟨h0_s_47, h1_s_47⟩ := h_s_47
                                  refine y_some ?_
                                  try dsimp only
                                  have e818 : (1 : Int32).toInt = 1 := rfl
                                  refine y_some ?_
                                  try dsimp only
                                  refine ⟨?_, ?_, ?_, ?_, ?_, ?_, ?_, ?_⟩ <;> (first | with_reducible rfl | with_reducible assumption | omega | (exfalso; omega) | (exact Or.inr rfl) | (exact Or.inl (by omega)))
                                · skip
                                  have c817' := c817
                                  rw [Int32.lt_iff_toInt_lt] at c817'
                                  refine y_if (fun c819 => ?_) (fun c819 => ?_)
                                  · skip
                                    have c819' := c819
                                    rw [Int32.lt_iff_toInt_lt] at c819'
                                    refine y_bi (y_X9_bad) (fun s_49 h_s_49 => ?_)
                                    obtain ⟨h0_s_49, h1_s_49⟩ := h_s_49
                                    refine y_some ?_
                                    try dsimp only
                                    have e820 : (1 : Int32).toInt = 1 := rfl
                                    refine y_some ?_
                                    try dsimp only
                                    refine ⟨?_, ?_, ?_, ?_, ?_, ?_, ?_, ?_⟩ <;> (first | with_reducible rfl | with_reducible assumption | omega | (exfalso; omega) | (exact Or.inr rfl) | (exact Or.inl (by omega)))
                                  · skip
                                    have c819' := c819
                                    rw [Int32.lt_iff_toInt_lt] at c819'
                                    refine y_if (fun c821 => ?_) (fun c821 => ?_)
                                    · skip
                                      have c821' := c821
                                      rw [Int32.lt_iff_toInt_lt] at c821'
                                      refine y_bi (y_X9_bad) (fun s_51 h_s_51 => ?_)
                                      obtain ⟨h0_s_51, h1_s_51⟩ := h_s_51
                                      refine y_some ?_
                                      try dsimp only
                                      have e822 : (1 : Int32).toInt = 1 := rfl
                                      refine y_some ?_
                                      try dsimp only
                                      refine ⟨?_, ?_, ?_, ?_, ?_, ?_, ?_, ?_⟩ <;> (first | with_reducible rfl | with_reducible assumption | omega | (exfalso; omega) | (exact Or.inr rfl) | (exact Or.inl (by omega)))
                                    · skip
                                      have c821' := c821
                                      rw [Int32.lt_iff_toInt_lt] at c821'
                                      refine y_if (fun c823 => ?_) (fun c823 => ?_)
                                      · skip
                                        have c823' := c823
                                        rw [Int32.le_iff_toInt_le] at c823'
                                        refine y_some ?_
                                        try dsimp only
                                        have e824 : (1 : Int32).toInt = 1 := rfl
                                        refine y_some ?_
                                        try dsimp only
                                        refine ⟨?_, ?_, ?_, ?_, ?_, ?_, ?_, ?_⟩ <;> (first | with_reducible rfl | with_reducible assumption | omega | (exfalso; omega) | (exact Or.inr rfl) | (exact Or.inl (by omega)))
                                      · skip
                                        have c823' := c823
                                        rw [Int32.le_iff_toInt_le] at c823'
                                        refine y_bi (y_X9_bad) (fun s_53 h_s_53 => ?_)
                                        obtain ⟨h0_s_53, h1_s_53⟩ := h_s_53
                                        refine y_some ?_
                                        try dsimp only
                                        have e825 : (1 : Int32).toInt = 1 := rfl
                                        refine y_some ?_
                                        try dsimp only
                                        refine ⟨?_, ?_, ?_, ?_, ?_, ?_, ?_, ?_⟩ <;> (first | with_reducible rfl | with_reducible assumption | omega | (exfalso; omega) | (exact Or.inr rfl) | (exact Or.inl (by omega)))
                              · skip
                                try have e826 := @y_cl p1 (by omega)
                                have c815' := c815
                                rw [← Int32.toInt_inj] at c815'
                                refine y_bi (y_X9_bad) (fun s_45 h_s_45 => ?_)
                                obtain ⟨h0_s_45, h1_s_45⟩ := h_s_45
                                refine y_some ?_
                                try dsimp only
                                have e827 : (1 : Int32).toInt = 1 := rfl
                                refine y_some ?_
                                try dsimp only
                                refine ⟨?_, ?_, ?_, ?_, ?_, ?_, ?_, ?_⟩ <;> (first | with_reducible rfl | with_reducible assumption | omega | (exfalso; omega) | (exact Or.inr rfl) | (exact Or.inl (by omega)))
                            · skip
                              have c814' := c814
                              rw [← Int32.toInt_inj] at c814'
                              refine y_if (fun c828 => ?_) (fun c828 => ?_)
                              · skip
                                have c828' := c828
                                rw [Int32.lt_iff_toInt_lt] at c828'
                                refine y_bi (y_X9_bad) (fun s_36 h_s_36 => ?_)
                                obtain ⟨h0_s_36, h1_s_36⟩ := h_s_36
                                refine y_some ?_
                                try dsimp only
                                have e829 : (1 : Int32).toInt = 1 := rfl
                                refine y_some ?_
                                try dsimp only
                                refine ⟨?_, ?_, ?_, ?_, ?_, ?_, ?_, ?_⟩ <;> (first | with_reducible rfl | with_reducible assumption | omega | (exfalso; omega) | (exact Or.inr rfl) | (exact Or.inl (by omega)))
                              · skip
                                have c828' := c828
                                rw [Int32.lt_iff_toInt_lt] at c828'
                                refine y_if (fun c830 => ?_) (fun c830 => ?_)
                                · skip
                                  have c830' := c830
                                  rw [Int32.lt_iff_toInt_lt] at c830'
                                  refine y_bi (y_X9_bad) (fun s_38 h_s_38 => ?_)
                                  obtain ⟨h0_s_38, h1_s_38⟩ := h_s_38
                                  refine y_some ?_
                                  try dsimp only
                                  have e831 : (1 : Int32).toInt = 1 := rfl
                                  refine y_some ?_
                                  try dsimp only
                                  refine ⟨?_, ?_, ?_, ?_, ?_, ?_, ?_, ?_⟩ <;> (first | with_reducible rfl | with_reducible assumption | omega | (exfalso; omega) | (exact Or.inr rfl) | (exact Or.inl (by omega)))
                                · skip
                                  have c830' := c830
                                  rw [Int32.lt_iff_toInt_lt] at c830'
                                  refine y_if (fun c832 => ?_) (fun c832 => ?_)
                                  · skip
                                    have c832' := c832
                                    rw [Int32.lt_iff_toInt_lt] at c832'
                                    refine y_bi (y_X9_bad) (fun s_40 h_s_40 => ?_)
                                    obtain ⟨h0_s_40, h1_s_40⟩ := h_s_40
                                    refine y_some ?_
                                    try dsimp only
                                    have e833 : (1 : Int32).toInt = 1 := rfl
                                    refine y_some ?_
                                    try dsimp only
                                    refine ⟨?_, ?_, ?_, ?_, ?_, ?_, ?_, ?_⟩ <;> (first | with_reducible rfl | with_reducible assumption | omega | (exfalso; omega) | (exact Or.inr rfl) | (exact Or.inl (by omega)))
                                  · skip
                                    have c832' := c832
                                    rw [Int32.lt_iff_toInt_lt] at c832'
                                    refine y_if (fun c834 => ?_) (fun c834 => ?_)
                                    · skip
                                      have c834' := c834
                                      rw [Int32.le_iff_toInt_le] at c834'
                                      refine y_some ?_
                                      try dsimp only
                                      have e835 : (1 : Int32).toInt = 1 := rfl
                                      refine y_some ?_
                                      try dsimp only
                                      refine ⟨?_, ?_, ?_, ?_, ?_, ?_, ?_, ?_⟩ <;> (first | with_reducible rfl | with_reducible assumption | omega | (exfalso; omega) | (exact Or.inr rfl) | (exact Or.inl (by omega)))
                                    · skip
                                      have c834' := c834
                                      rw [Int32.le_iff_toInt_le] at c834'
                                      refine y_bi (y_X9_bad) (fun s_42 h_s_42 => ?_)
                                      obtain ⟨h0_s_42, h1_s_42⟩ := h_s_42
                                      refine y_some ?_
                                      try dsimp only
                                      have e836 : (1 : Int32).toInt = 1 := rfl
                                      refine y_some ?_
                                      try dsimp only
                                      refine ⟨?_, ?_, ?_, ?_, ?_, ?_, ?_, ?_⟩ <;> (first | with_reducible rfl | with_reducible assumption | omega | (exfalso; omega) | (exact Or.inr rfl) | (exact Or.inl (by omega)))
              · skip
                have e837 : (200 : Int32).toInt = 200 := rfl
                have c774' := c774
                rw [Int32.lt_iff_toInt_lt] at c774'
                refine y_if (fun c838 => ?_) (fun c838 => ?_)
                · skip
                  have c838' := c838
                  rw [Int32.lt_iff_toInt_lt] at c838'
                  refine y_some ?_
                  try dsimp only
                  refine y_bt ?_
                  refine y_bi (y_X9_isClass) (fun s_1 h_s_1 => ?_)
                  have h0_s_1 : (s_1.toInt = 0 ∧ ¬ (0 ≤ p1.toInt ∧ p1.toInt < v7_2.toInt)) ∨ (s_1.toInt = 1 ∧ (0 ≤ p1.toInt ∧ p1.toInt < v7_2.toInt)) := h_s_1
                  refine y_if (fun c839 => ?_) (fun c839 => ?_)
                  · skip
                    have c839' := c839
                    rw [← Int32.toInt_inj] at c839'
                    have e840 := y_or0 h0_s_1 c839'
                    clear h0_s_1
                    refine y_bi (y_X9_bad) (fun s_3 h_s_3 => ?_)
                    obtain ⟨h0_s_3, h1_s_3⟩ := h_s_3
                    refine y_some ?_
                    try dsimp only
                    have e841 : (1 : Int32).toInt = 1 := rfl
                    refine y_some ?_
                    try dsimp only
                    refine ⟨?_, ?_, ?_, ?_, ?_, ?_, ?_, ?_⟩ <;> (first | with_reducible rfl | with_reducible assumption | omega | (exfalso; omega) | (exact Or.inr rfl) | (exact Or.inl (by omega)))
                  · skip
                    have c839' := c839
                    rw [← Int32.toInt_inj] at c839'
                    have e842 := y_or1 h0_s_1 c839'
                    clear h0_s_1
                    refine y_if (fun c843 => ?_) (fun c843 => ?_)
                    · skip
                      have c843' := c843
                      rw [Int32.lt_iff_toInt_lt] at c843'
                      refine y_bi (y_X9_bad) (fun s_5 h_s_5 => ?_)
                      obtain ⟨h0_s_5, h1_s_5⟩ := h_s_5
                      refine y_some ?_
                      try dsimp only
                      have e844 : (1 : Int32).toInt = 1 := rfl
                      refine y_some ?_
                      try dsimp only
                      refine ⟨?_, ?_, ?_, ?_, ?_, ?_, ?_, ?_⟩ <;> (first | with_reducible rfl | with_reducible assumption | omega | (exfalso; omega) | (exact Or.inr rfl) | (exact Or.inl (by omega)))
                    · skip
                      have c843' := c843
                      rw [Int32.lt_iff_toInt_lt] at c843'
                      refine y_if (fun c845 => ?_) (fun c845 => ?_)
                      · skip
                        have c845' := c845
                        rw [Int32.lt_iff_toInt_lt] at c845'
                        refine y_bi (y_X9_bad) (fun s_7 h_s_7 => ?_)
                        obtain ⟨h0_s_7, h1_s_7⟩ := h_s_7
                        refine y_some ?_
                        try dsimp only
                        have e846 : (1 : Int32).toInt = 1 := rfl
                        refine y_some ?_
                        try dsimp only
                        refine ⟨?_, ?_, ?_, ?_, ?_, ?_, ?_, ?_⟩ <;> (first | with_reducible rfl | with_reducible assumption | omega | (exfalso; omega) | (exact Or.inr rfl) | (exact Or.inl (by omega)))
                      · skip
                        have c845' := c845
                        rw [Int32.lt_iff_toInt_lt] at c845'
                        refine y_if (fun c847 => ?_) (fun c847 => ?_)
                        · skip
                          have c847' : p3.toInt = -1 := (y_eqN rfl).mp c847
                          refine y_if (fun c848 => ?_) (fun c848 => ?_)
                          · skip
                            have c848' := c848
                            rw [← Int32.toInt_inj] at c848'
                            refine y_gd (y_gdI (by omega) (by omega)) ?_
                            refine y_if (fun c849 => ?_) (fun c849 => ?_)
                            · skip
                              try have e850 := @y_cl p1 (by omega)
                              have c849' := c849
                              rw [← Int32.toInt_inj] at c849'
                              refine y_if (fun c851 => ?_) (fun c851 => ?_)
                              · skip
                                have c851' := c851
                                rw [Int32.lt_iff_toInt_lt] at c851'
                                refine y_bi (y_X9_bad) (fun s_22 h_s_22 => ?_)
                                obtain ⟨h0_s_22, h1_s_22⟩ := h_s_22
                                refine y_some ?_
                                try dsimp only
                                have e852 : (1 : Int32).toInt = 1 := rfl
                                refine y_some ?_
                                try dsimp only
                                refine ⟨?_, ?_, ?_, ?_, ?_, ?_, ?_, ?_⟩ <;> (first | with_reducible rfl | with_reducible assumption | omega | (exfalso; omega) | (exact Or.inr rfl) | (exact Or.inl (by omega)))
                              · skip
                                have c851' := c851
                                rw [Int32.lt_iff_toInt_lt] at c851'
                                refine y_if (fun c853 => ?_) (fun c853 => ?_)
                                · skip
                                  have c853' := c853
                                  rw [Int32.lt_iff_toInt_lt] at c853'
                                  refine y_bi (y_X9_bad) (fun s_24 h_s_24 => ?_)
                                  obtain ⟨h0_s_24, h1_s_24⟩ := h_s_24
                                  refine y_some ?_
                                  try dsimp only
                                  have e854 : (1 : Int32).toInt = 1 := rfl
                                  refine y_some ?_
                                  try dsimp only
                                  refine ⟨?_, ?_, ?_, ?_, ?_, ?_, ?_, ?_⟩ <;> (first | with_reducible rfl | with_reducible assumption | omega | (exfalso; omega) | (exact Or.inr rfl) | (exact Or.inl (by omega)))
                                · skip
                                  have c853' := c853
                                  rw [Int32.lt_iff_toInt_lt] at c853'
                                  refine y_if (fun c855 => ?_) (fun c855 => ?_)
                                  · skip
                                    have c855' := c855
                                    rw [Int32.lt_iff_toInt_lt] at c855'
                                    refine y_bi (y_X9_bad) (fun s_26 h_s_26 => ?_)
                                    obtain ⟨h0_s_26, h1_s_26⟩ := h_s_26
                                    refine y_some ?_
                                    try dsimp only
                                    have e856 : (1 : Int32).toInt = 1 := rfl
                                    refine y_some ?_
                                    try dsimp only
                                    refine ⟨?_, ?_, ?_, ?_, ?_, ?_, ?_, ?_⟩ <;> (first | with_reducible rfl | with_reducible assumption | omega | (exfalso; omega) | (exact Or.inr rfl) | (exact Or.inl (by omega)))
                                  · skip
                                    have c855' := c855
                                    rw [Int32.lt_iff_toInt_lt] at c855'
                                    refine y_if (fun c857 => ?_) (fun c857 => ?_)
                                    · skip
                                      have c857' := c857
                                      rw [Int32.le_iff_toInt_le] at c857'
                                      refine y_some ?_
                                      try dsimp only
                                      have e858 : (1 : Int32).toInt = 1 := rfl
                                      refine y_some ?_
                                      try dsimp only
                                      refine ⟨?_, ?_, ?_, ?_, ?_, ?_, ?_, ?_⟩ <;> (first | with_reducible rfl | with_reducible assumption | omega | (exfalso; omega) | (exact Or.inr rfl) | (exact Or.inl (by omega)))
                                    · skip
                                      have c857' := c857
                                      rw [Int32.le_iff_toInt_le] at c857'
                                      refine y_bi (y_X9_bad) (fun s_28 h_s_28 => ?_)
                                      obtain ⟨h0_s_28, h1_s_28⟩ := h_s_28
                                      refine y_some ?_
                                      try dsimp only
                                      have e859 : (1 : Int32).toInt = 1 := rfl
                                      refine y_some ?_
                                      try dsimp only
                                      refine ⟨?_, ?_, ?_, ?_, ?_, ?_, ?_, ?_⟩ <;> (first | with_reducible rfl | with_reducible assumption | omega | (exfalso; omega) | (exact Or.inr rfl) | (exact Or.inl (by omega)))
                            · skip
                              try have e860 := @y_cl p1 (by omega)
                              have c849' := c849
                              rw [← Int32.toInt_inj] at c849'
                              refine y_bi (y_X9_bad) (fun s_20 h_s_20 => ?_)
                              obtain ⟨h0_s_20, h1_s_20⟩ := h_s_20
                              refine y_some ?_
                              try dsimp only
                              have e861 : (1 : Int32).toInt = 1 := rfl
                              refine y_some ?_
                              try dsimp only
                              refine ⟨?_, ?_, ?_, ?_, ?_, ?_, ?_, ?_⟩ <;> (first | with_reducible rfl | with_reducible assumption | omega | (exfalso; omega) | (exact Or.inr rfl) | (exact Or.inl (by omega)))
                          · skip
                            have c848' := c848
                            rw [← Int32.toInt_inj] at c848'
                            refine y_if (fun c862 => ?_) (fun c862 => ?_)
                            · skip
                              have c862' := c862
                              rw [Int32.lt_iff_toInt_lt] at c862'
                              refine y_bi (y_X9_bad) (fun s_11 h_s_11 => ?_)
                              obtain ⟨h0_s_11, h1_s_11⟩ := h_s_11
                              refine y_some ?_
                              try dsimp only
                              have e863 : (1 : Int32).toInt = 1 := rfl
                              refine y_some ?_
                              try dsimp only
                              refine ⟨?_, ?_, ?_, ?_, ?_, ?_, ?_, ?_⟩ <;> (first | with_reducible rfl | with_reducible assumption | omega | (exfalso; omega) | (exact Or.inr rfl) | (exact Or.inl (by omega)))
                            · skip
                              have c862' := c862
                              rw [Int32.lt_iff_toInt_lt] at c862'
                              refine y_if (fun c864 => ?_) (fun c864 => ?_)
                              · skip
                                have c864' := c864
                                rw [Int32.lt_iff_toInt_lt] at c864'
                                refine y_bi (y_X9_bad) (fun s_13 h_s_13 => ?_)
                                obtain ⟨h0_s_13, h1_s_13⟩ := h_s_13
                                refine y_some ?_
                                try dsimp only
                                have e865 : (1 : Int32).toInt = 1 := rfl
                                refine y_some ?_
                                try dsimp only
                                refine ⟨?_, ?_, ?_, ?_, ?_, ?_, ?_, ?_⟩ <;> (first | with_reducible rfl | with_reducible assumption | omega | (exfalso; omega) | (exact Or.inr rfl) | (exact Or.inl (by omega)))
                              · skip
                                have c864' := c864
                                rw [Int32.lt_iff_toInt_lt] at c864'
                                refine y_if (fun c866 => ?_) (fun c866 => ?_)
                                · skip
                                  have c866' := c866
                                  rw [Int32.lt_iff_toInt_lt] at c866'
                                  refine y_bi (y_X9_bad) (fun s_15 h_s_15 => ?_)
                                  obtain ⟨h0_s_15, h1_s_15⟩ := h_s_15
                                  refine y_some ?_
                                  try dsimp only
                                  have e867 : (1 : Int32).toInt = 1 := rfl
                                  refine y_some ?_
                                  try dsimp only
                                  refine ⟨?_, ?_, ?_, ?_, ?_, ?_, ?_, ?_⟩ <;> (first | with_reducible rfl | with_reducible assumption | omega | (exfalso; omega) | (exact Or.inr rfl) | (exact Or.inl (by omega)))
                                · skip
                                  have c866' := c866
                                  rw [Int32.lt_iff_toInt_lt] at c866'
                                  refine y_if (fun c868 => ?_) (fun c868 => ?_)
                                  · skip
                                    have c868' := c868
                                    rw [Int32.le_iff_toInt_le] at c868'
                                    refine y_some ?_
                                    try dsimp only
                                    have e869 : (1 : Int32).toInt = 1 := rfl
                                    refine y_some ?_
                                    try dsimp only
                                    refine ⟨?_, ?_, ?_, ?_, ?_, ?_, ?_, ?_⟩ <;> (first | with_reducible rfl | with_reducible assumption | omega | (exfalso; omega) | (exact Or.inr rfl) | (exact Or.inl (by omega)))
                                  · skip
                                    have c868' := c868
                                    rw [Int32.le_iff_toInt_le] at c868'
                                    refine y_bi (y_X9_bad) (fun s_17 h_s_17 => ?_)
                                    obtain ⟨h0_s_17, h1_s_17⟩ := h_s_17
                                    refine y_some ?_
                                    try dsimp only
                                    have e870 : (1 : Int32).toInt = 1 := rfl
                                    refine y_some ?_
                                    try dsimp only
                                    refine ⟨?_, ?_, ?_, ?_, ?_, ?_, ?_, ?_⟩ <;> (first | with_reducible rfl | with_reducible assumption | omega | (exfalso; omega) | (exact Or.inr rfl) | (exact Or.inl (by omega)))
                        · skip
                          have c847' : ¬ p3.toInt = -1 := fun hz => c847 ((y_eqN rfl).mpr hz)
                          refine y_bi (y_X9_isType (by omega) (by omega)) (fun s_29 h_s_29 => ?_)
                          have h0_s_29 : (s_29.toInt = 0 ∧ ¬ (0 ≤ p3.toInt ∧ p3.toInt < 16777216 ∧ (p3.toInt % 65536 < v7_2.toInt ∨ 65528 ≤ p3.toInt % 65536))) ∨ (s_29.toInt = 1 ∧ (0 ≤ p3.toInt ∧ p3.toInt < 16777216 ∧ (p3.toInt % 65536 < v7_2.toInt ∨ 65528 ≤ p3.toInt % 65536))) := h_s_29
                          refine y_if (fun c871 => ?_) (fun c871 => ?_)
                          · skip
                            have c871' := c871
                            rw [← Int32.toInt_inj] at c871'
                            have e872 := y_or0 h0_s_29 c871'
                            clear h0_s_29
                            refine y_bi (y_X9_bad) (fun s_31 h_s_31 => ?_)
                            obtain ⟨h0_s_31, h1_s_31⟩ := h_s_31
                            refine y_some ?_
                            try dsimp only
                            have e873 : (1 : Int32).toInt = 1 := rfl
                            refine y_some ?_
                            try dsimp only
                            refine ⟨?_, ?_, ?_, ?_, ?_, ?_, ?_, ?_⟩ <;> (first | with_reducible rfl | with_reducible assumption | omega | (exfalso; omega) | (exact Or.inr rfl) | (exact Or.inl (by omega)))
                          · skip
                            have c871' := c871
                            rw [← Int32.toInt_inj] at c871'
                            have e874 := y_or1 h0_s_29 c871'
                            clear h0_s_29
                            refine y_if (fun c875 => ?_) (fun c875 => ?_)
                            · skip
                              have c875' := c875
                              rw [← Int32.toInt_inj] at c875'
                              refine y_bi (y_X9_bad) (fun s_33 h_s_33 => ?_)
                              obtain ⟨h0_s_33, h1_s_33⟩ := h_s_33
                              refine y_some ?_
                              try dsimp only
                              have e876 : (1 : Int32).toInt = 1 := rfl
                              refine y_some ?_
                              try dsimp only
                              refine ⟨?_, ?_, ?_, ?_, ?_, ?_, ?_, ?_⟩ <;> (first | with_reducible rfl | with_reducible assumption | omega | (exfalso; omega) | (exact Or.inr rfl) | (exact Or.inl (by omega)))
                            · skip
                              have c875' := c875
                              rw [← Int32.toInt_inj] at c875'
                              refine y_if (fun c877 => ?_) (fun c877 => ?_)
                              · skip
                                have c877' := c877
                                rw [← Int32.toInt_inj] at c877'
                                refine y_gd (y_gdI (by omega) (by omega)) ?_
                                refine y_if (fun c878 => ?_) (fun c878 => ?_)
                                · skip
                                  try have e879 := @y_cl p1 (by omega)
                                  have c878' := c878
                                  rw [← Int32.toInt_inj] at c878'
                                  refine y_if (fun c880 => ?_) (fun c880 => ?_)
                                  · skip
                                    have c880' := c880
                                    rw [Int32.lt_iff_toInt_lt] at c880'
                                    refine y_bi (y_X9_bad) (fun s_47 h_s_47 => ?_)
                                    obtain ⟨h0_s_47, h1_s_47⟩ := h_s_47
                                    refine y_some ?_
                                    try dsimp only
                                    have e881 : (1 : Int32).toInt = 1 := rfl
                                    refine y_some ?_
                                    try dsimp only
                                    refine ⟨?_, ?_, ?_, ?_, ?_, ?_, ?_, ?_⟩ <;> (first | with_reducible rfl | with_reducible assumption | omega | (exfalso; omega) | (exact Or.inr rfl) | (exact Or.inl (by omega)))
                                  · skip
                                    have c880' := c880
                                    rw [Int32.lt_iff_toInt_lt] at c880'
                                    refine y_if (fun c882 => ?_) (fun c882 => ?_)
                                    · skip
                                      have c882' := c882
                                      rw [Int32.lt_iff_toInt_lt] at c882'
                                      refine y_bi (y_X9_bad) (fun s_49 h_s_49 => ?_)
                                      obtain ⟨h0_s_49, h1_s_49⟩ := h_s_49
                                      refine y_some ?_
                                      try dsimp only
                                      have e883 : (1 : Int32).toInt = 1 := rfl
                                      refine y_some ?_
                                      try dsimp only
                                      refine ⟨?_, ?_, ?_, ?_, ?_, ?_, ?_, ?_⟩ <;> (first | with_reducible rfl | with_reducible assumption | omega | (exfalso; omega) | (exact Or.inr rfl) | (exact Or.inl (by omega)))
                                    · skip
                                      have c882' := c882
                                      rw [Int32.lt_iff_toInt_lt] at c882'
                                      refine y_if (fun c884 => ?_) (fun c884 => ?_)
                                      · skip
                                        have c884' := c884
                                        rw [Int32.lt_iff_toInt_lt] at c884'
                                        refine y_bi (y_X9_bad) (fun s_51 h_s_51 => ?_)
                                        obtain ⟨h0_s_51, h1_s_51⟩ := h_s_51
                                        refine y_some ?_
                                        try dsimp only
                                        have e885 : (1 : Int32).toInt = 1 := rfl
                                        refine y_some ?_
                                        try dsimp only
                                        refine ⟨?_, ?_, ?_, ?_, ?_, ?_, ?_, ?_⟩ <;> (first | with_reducible rfl | with_reducible assumption | omega | (exfalso; omega) | (exact Or.inr rfl) | (exact Or.inl (by omega)))
                                      · skip
                                        have c884' := c884
                                        rw [Int32.lt_iff_toInt_lt] at c884'
                                        refine y_if (fun c886 => ?_) (fun c886 => ?_)
                                        · skip
                                          have c886' := c886
                                          rw [Int32.le_iff_toInt_le] at c886'
                                          refine y_some ?_
                                          try dsimp only
                                          have e887 : (1 : Int32).toInt = 1 := rfl
                                          refine y_some ?_
                                          try dsimp only
                                          refine ⟨?_, ?_, ?_, ?_, ?_, ?_, ?_, ?_⟩ <;> (first | with_reducible rfl | with_reducible assumption | omega | (exfalso; omega) | (exact Or.inr rfl) | (exact Or.inl (by omega)))
                                        · skip
                                          have c886' := c886
                                          rw [Int32.le_iff_toInt_le] at c886'
                                          refine y_bi (y_X9_bad) (fun s_53 h_s_53 => ?_)
                                          obtain ⟨h0_s_53, h1_s_53⟩ := h_s_53
                                          refine y_some ?_
                                          try dsimp only
                                          have e888 : (1 : Int32).toInt = 1 := rfl
                                          refine y_some ?_
                                          try dsimp only
                                          refine ⟨?_, ?_, ?_, ?_, ?_, ?_, ?_, ?_⟩ <;> (first | with_reducible rfl | with_reducible assumption | omega | (exfalso; omega) | (exact Or.inr rfl) | (exact Or.inl (by omega)))
                                · skip
                                  try have e889 := @y_cl p1 (by omega)
                                  have c878' := c878
                                  rw [← Int32.toInt_inj] at c878'
                                  refine y_bi (y_X9_bad) (fun s_45 h_s_45 => ?_)
                                  obtain ⟨h0_s_45, h1_s_45⟩ := h_s_45
                                  refine y_some ?_
                                  try dsimp only
                                  have e890 : (1 : Int32).toInt = 1 := rfl
                                  refine y_some ?_
                                  try dsimp only
                                  refine ⟨?_, ?_, ?_, ?_, ?_, ?_, ?_, ?_⟩ <;> (first | with_reducible rfl | with_reducible assumption | omega | (exfalso; omega) | (exact Or.inr rfl) | (exact Or.inl (by omega)))
                              · skip
                                have c877' := c877
                                rw [← Int32.toInt_inj] at c877'
                                refine y_if (fun c891 => ?_) (fun c891 => ?_)
                                · skip
                                  have c891' := c891
                                  rw [Int32.lt_iff_toInt_lt] at c891'
                                  refine y_bi (y_X9_bad) (fun s_36 h_s_36 => ?_)
                                  obtain ⟨h0_s_36, h1_s_36⟩ := h_s_36
                                  refine y_some ?_
                                  try dsimp only
                                  have e892 : (1 : Int32).toInt = 1 := rfl
                                  refine y_some ?_
                                  try dsimp only
                                  refine ⟨?_, ?_, ?_, ?_, ?_, ?_, ?_, ?_⟩ <;> (first | with_reducible rfl | with_reducible assumption | omega | (exfalso; omega) | (exact Or.inr rfl) | (exact Or.inl (by omega)))
                                · skip
                                  have c891' := c891
                                  rw [Int32.lt_iff_toInt_lt] at c891'
                                  refine y_if (fun c893 => ?_) (fun c893 => ?_)
                                  · skip
                                    have c893' := c893
                                    rw [Int32.lt_iff_toInt_lt] at c893'
                                    refine y_bi (y_X9_bad) (fun s_38 h_s_38 => ?_)
                                    obtain ⟨h0_s_38, h1_s_38⟩ := h_s_38
                                    refine y_some ?_
                                    try dsimp only
                                    have e894 : (1 : Int32).toInt = 1 := rfl
                                    refine y_some ?_
                                    try dsimp only
                                    refine ⟨?_, ?_, ?_, ?_, ?_, ?_, ?_, ?_⟩ <;> (first | with_reducible rfl | with_reducible assumption | omega | (exfalso; omega) | (exact Or.inr rfl) | (exact Or.inl (by omega)))
                                  · skip
                                    have c893' := c893
                                    rw [Int32.lt_iff_toInt_lt] at c893'
                                    refine y_if (fun c895 => ?_) (fun c895 => ?_)
                                    · skip
                                      have c895' := c895
                                      rw [Int32.lt_iff_toInt_lt] at c895'
                                      refine y_bi (y_X9_bad) (fun s_40 h_s_40 => ?_)
                                      obtain ⟨h0_s_40, h1_s_40⟩ := h_s_40
                                      refine y_some ?_
                                      try dsimp only
                                      have e896 : (1 : Int32).toInt = 1 := rfl
                                      refine y_some ?_
                                      try dsimp only
                                      refine ⟨?_, ?_, ?_, ?_, ?_, ?_, ?_, ?_⟩ <;> (first | with_reducible rfl | with_reducible assumption | omega | (exfalso; omega) | (exact Or.inr rfl) | (exact Or.inl (by omega)))
                                    · skip
                                      have c895' := c895
                                      rw [Int32.lt_iff_toInt_lt] at c895'
                                      refine y_if (fun c897 => ?_) (fun c897 => ?_)
                                      · skip
                                        have c897' := c897
                                        rw [Int32.le_iff_toInt_le] at c897'
                                        refine y_some ?_
                                        try dsimp only
                                        have e898 : (1 : Int32).toInt = 1 := rfl
                                        refine y_some ?_
                                        try dsimp only
                                        refine ⟨?_, ?_, ?_, ?_, ?_, ?_, ?_, ?_⟩ <;> (first | with_reducible rfl | with_reducible assumption | omega | (exfalso; omega) | (exact Or.inr rfl) | (exact Or.inl (by omega)))
                                      · skip
                                        have c897' := c897
                                        rw [Int32.le_iff_toInt_le] at c897'
                                        refine y_bi (y_X9_bad) (fun s_42 h_s_42 => ?_)
                                        obtain ⟨h0_s_42, h1_s_42⟩ := h_s_42
                                        refine y_some ?_
                                        try dsimp only
                                        have e899 : (1 : Int32).toInt = 1 := rfl
                                        refine y_some ?_
                                        try dsimp only
                                        refine ⟨?_, ?_, ?_, ?_, ?_, ?_, ?_, ?_⟩ <;> (first | with_reducible rfl | with_reducible assumption | omega | (exfalso; omega) | (exact Or.inr rfl) | (exact Or.inl (by omega)))
                · skip
                  have c838' := c838
                  rw [Int32.lt_iff_toInt_lt] at c838'
                  refine y_if (fun c900 => ?_) (fun c900 => ?_)
                  · skip
                    have c900' := c900
                    rw [Int32.le_iff_toInt_le] at c900'
                    refine y_bi (ye_X0_begin) (fun r_12 h_r_12 => ?_)
                    obtain ⟨h0_r_12, h1_r_12, h2_r_12⟩ := h_r_12
                    refine y_some ?_
                    try dsimp only
                    refine y_bt ?_
                    refine y_bi (y_X9_isClass) (fun s_1 h_s_1 => ?_)
                    have h0_s_1 : (s_1.toInt = 0 ∧ ¬ (0 ≤ p1.toInt ∧ p1.toInt < v7_2.toInt)) ∨ (s_1.toInt = 1 ∧ (0 ≤ p1.toInt ∧ p1.toInt < v7_2.toInt)) := h_s_1
                    refine y_if (fun c901 => ?_) (fun c901 => ?_)
                    · skip
                      have c901' := c901
                      rw [← Int32.toInt_inj] at c901'
                      have e902 := y_or0 h0_s_1 c901'
                      clear h0_s_1
                      refine y_bi (y_X9_bad) (fun s_3 h_s_3 => ?_)
                      obtain ⟨h0_s_3, h1_s_3⟩ := h_s_3
                      refine y_some ?_
                      try dsimp only
                      refine y_some ?_
                      try dsimp only
                      refine ⟨?_, ?_, ?_, ?_, ?_, ?_, ?_, ?_⟩ <;> (first | with_reducible rfl | with_reducible assumption | omega | (exfalso; omega) | (exact Or.inr rfl) | (exact Or.inl (by omega)))
                    · skip
                      have c901' := c901
                      rw [← Int32.toInt_inj] at c901'
                      have e903 := y_or1 h0_s_1 c901'
                      clear h0_s_1
                      refine y_if (fun c904 => ?_) (fun c904 => ?_)
                      · skip
                        have c904' := c904
                        rw [Int32.lt_iff_toInt_lt] at c904'
                        refine y_bi (y_X9_bad) (fun s_5 h_s_5 => ?_)
                        obtain ⟨h0_s_5, h1_s_5⟩ := h_s_5
                        refine y_some ?_
                        try dsimp only
                        refine y_some ?_
                        try dsimp only
                        refine ⟨?_, ?_, ?_, ?_, ?_, ?_, ?_, ?_⟩ <;> (first | with_reducible rfl | with_reducible assumption | omega | (exfalso; omega) | (exact Or.inr rfl) | (exact Or.inl (by omega)))
                      · skip
                        have c904' := c904
                        rw [Int32.lt_iff_toInt_lt] at c904'
                        refine y_if (fun c905 => ?_) (fun c905 => ?_)
                        · skip
                          have c905' := c905
                          rw [Int32.lt_iff_toInt_lt] at c905'
                          refine y_bi (y_X9_bad) (fun s_7 h_s_7 => ?_)
                          obtain ⟨h0_s_7, h1_s_7⟩ := h_s_7
                          refine y_some ?_
                          try dsimp only
                          refine y_some ?_
                          try dsimp only
                          refine ⟨?_, ?_, ?_, ?_, ?_, ?_, ?_, ?_⟩ <;> (first | with_reducible rfl | with_reducible assumption | omega | (exfalso; omega) | (exact Or.inr rfl) | (exact Or.inl (by omega)))
                        · skip
                          have c905' := c905
                          rw [Int32.lt_iff_toInt_lt] at c905'
                          refine y_if (fun c906 => ?_) (fun c906 => ?_)
                          · skip
                            have c906' : p3.toInt = -1 := (y_eqN rfl).mp c906
                            refine y_if (fun c907 => ?_) (fun c907 => ?_)
                            · skip
                              have c907' := c907
                              rw [← Int32.toInt_inj] at c907'
                              refine y_gd (y_gdI (by omega) (by omega)) ?_
                              refine y_if (fun c908 => ?_) (fun c908 => ?_)
                              · skip
                                try have e909 := @y_cl p1 (by omega)
                                have c908' := c908
                                rw [← Int32.toInt_inj] at c908'
                                refine y_if (fun c910 => ?_) (fun c910 => ?_)
                                · skip
                                  have c910' := c910
                                  rw [Int32.lt_iff_toInt_lt] at c910'
                                  refine y_bi (y_X9_bad) (fun s_22 h_s_22 => ?_)
                                  obtain ⟨h0_s_22, h1_s_22⟩ := h_s_22
                                  refine y_some ?_
                                  try dsimp only
                                  refine y_some ?_
                                  try dsimp only
                                  refine ⟨?_, ?_, ?_, ?_, ?_, ?_, ?_, ?_⟩ <;> (first | with_reducible rfl | with_reducible assumption | omega | (exfalso; omega) | (exact Or.inr rfl) | (exact Or.inl (by omega)))
                                · skip
                                  have c910' := c910
                                  rw [Int32.lt_iff_toInt_lt] at c910'
                                  refine y_if (fun c911 => ?_) (fun c911 => ?_)
                                  · skip
                                    have c911' := c911
                                    rw [Int32.lt_iff_toInt_lt] at c911'
                                    refine y_bi (y_X9_bad) (fun s_24 h_s_24 => ?_)
                                    obtain ⟨h0_s_24, h1_s_24⟩ := h_s_24
                                    refine y_some ?_
                                    try dsimp only
                                    refine y_some ?_
                                    try dsimp only
                                    refine ⟨?_, ?_, ?_, ?_, ?_, ?_, ?_, ?_⟩ <;> (first | with_reducible rfl | with_reducible assumption | omega | (exfalso; omega) | (exact Or.inr rfl) | (exact Or.inl (by omega)))
                                  · skip
                                    have c911' := c911
                                    rw [Int32.lt_iff_toInt_lt] at c911'
                                    refine y_if (fun c912 => ?_) (fun c912 => ?_)
                                    · skip
                                      have c912' := c912
                                      rw [Int32.lt_iff_toInt_lt] at c912'
                                      refine y_bi (y_X9_bad) (fun s_26 h_s_26 => ?_)
                                      obtain ⟨h0_s_26, h1_s_26⟩ := h_s_26
                                      refine y_some ?_
                                      try dsimp only
                                      refine y_some ?_
                                      try dsimp only
                                      refine ⟨?_, ?_, ?_, ?_, ?_, ?_, ?_, ?_⟩ <;> (first | with_reducible rfl | with_reducible assumption | omega | (exfalso; omega) | (exact Or.inr rfl) | (exact Or.inl (by omega)))
                                    · skip
                                      have c912' := c912
                                      rw [Int32.lt_iff_toInt_lt] at c912'
                                      refine y_if (fun c913 => ?_) (fun c913 => ?_)
                                      · skip
                                        have c913' := c913
                                        rw [Int32.le_iff_toInt_le] at c913'
                                        refine y_some ?_
                                        try dsimp only
                                        refine y_some ?_
                                        try dsimp only
                                        refine ⟨?_, ?_, ?_, ?_, ?_, ?_, ?_, ?_⟩ <;> (first | with_reducible rfl | with_reducible assumption | omega | (exfalso; omega) | (exact Or.inr rfl) | (exact Or.inl (by omega)))
                                      · skip
                                        have c913' := c913
                                        rw [Int32.le_iff_toInt_le] at c913'
                                        refine y_bi (y_X9_bad) (fun s_28 h_s_28 => ?_)
                                        obtain ⟨h0_s_28, h1_s_28⟩ := h_s_28
                                        refine y_some ?_
                                        try dsimp only
                                        refine y_some ?_
                                        try dsimp only
                                        refine ⟨?_, ?_, ?_, ?_, ?_, ?_, ?_, ?_⟩ <;> (first | with_reducible rfl | with_reducible assumption | omega | (exfalso; omega) | (exact Or.inr rfl) | (exact Or.inl (by omega)))
                              · skip
                                try have e914 := @y_cl p1 (by omega)
                                have c908' := c908
                                rw [← Int32.toInt_inj] at c908'
                                refine y_bi (y_X9_bad) (fun s_20 h_s_20 => ?_)
                                obtain ⟨h0_s_20, h1_s_20⟩ := h_s_20
                                refine y_some ?_
                                try dsimp only
                                refine y_some ?_
                                try dsimp only
                                refine ⟨?_, ?_, ?_, ?_, ?_, ?_, ?_, ?_⟩ <;> (first | with_reducible rfl | with_reducible assumption | omega | (exfalso; omega) | (exact Or.inr rfl) | (exact Or.inl (by omega)))
                            · skip
                              have c907' := c907
                              rw [← Int32.toInt_inj] at c907'
                              refine y_if (fun c915 => ?_) (fun c915 => ?_)
                              · skip
                                have c915' := c915
                                rw [Int32.lt_iff_toInt_lt] at c915'
                                refine y_bi (y_X9_bad) (fun s_11 h_s_11 => ?_)
                                obtain ⟨h0_s_11, h1_s_11⟩ := h_s_11
                                refine y_some ?_
                                try dsimp only
                                refine y_some ?_
                                try dsimp only
                                refine ⟨?_, ?_, ?_, ?_, ?_, ?_, ?_, ?_⟩ <;> (first | with_reducible rfl | with_reducible assumption | omega | (exfalso; omega) | (exact Or.inr rfl) | (exact Or.inl (by omega)))
                              · skip
                                have c915' := c915
                                rw [Int32.lt_iff_toInt_lt] at c915'
                                refine y_if (fun c916 => ?_) (fun c916 => ?_)
                                · skip
                                  have c916' := c916
                                  rw [Int32.lt_iff_toInt_lt] at c916'
                                  refine y_bi (y_X9_bad) (fun s_13 h_s_13 => ?_)
                                  obtain ⟨h0_s_13, h1_s_13⟩ := h_s_13
                                  refine y_some ?_
                                  try dsimp only
                                  refine y_some ?_
                                  try dsimp only
                                  refine ⟨?_, ?_, ?_, ?_, ?_, ?_, ?_, ?_⟩ <;> (first | with_reducible rfl | with_reducible assumption | omega | (exfalso; omega) | (exact Or.inr rfl) | (exact Or.inl (by omega)))
                                · skip
                                  have c916' := c916
                                  rw [Int32.lt_iff_toInt_lt] at c916'
                                  refine y_if (fun c917 => ?_) (fun c917 => ?_)
                                  · skip
                                    have c917' := c917
                                    rw [Int32.lt_iff_toInt_lt] at c917'
                                    refine y_bi (y_X9_bad) (fun s_15 h_s_15 => ?_)
                                    obtain ⟨h0_s_15, h1_s_15⟩ := h_s_15
                                    refine y_some ?_
                                    try dsimp only
                                    refine y_some ?_
                                    try dsimp only
                                    refine ⟨?_, ?_, ?_, ?_, ?_, ?_, ?_, ?_⟩ <;> (first | with_reducible rfl | with_reducible assumption | omega | (exfalso; omega) | (exact Or.inr rfl) | (exact Or.inl (by omega)))
                                  · skip
                                    have c917' := c917
                                    rw [Int32.lt_iff_toInt_lt] at c917'
                                    refine y_if (fun c918 => ?_) (fun c918 => ?_)
                                    · skip
                                      have c918' := c918
                                      rw [Int32.le_iff_toInt_le] at c918'
                                      refine y_some ?_
                                      try dsimp only
                                      refine y_some ?_
                                      try dsimp only
                                      refine ⟨?_, ?_, ?_, ?_, ?_, ?_, ?_, ?_⟩ <;> (first | with_reducible rfl | with_reducible assumption | omega | (exfalso; omega) | (exact Or.inr rfl) | (exact Or.inl (by omega)))
                                    · skip
                                      have c918' := c918
                                      rw [Int32.le_iff_toInt_le] at c918'
                                      refine y_bi (y_X9_bad) (fun s_17 h_s_17 => ?_)
                                      obtain ⟨h0_s_17, h1_s_17⟩ := h_s_17
                                      refine y_some ?_
                                      try dsimp only
                                      refine y_some ?_
                                      try dsimp only
                                      refine ⟨?_, ?_, ?_, ?_, ?_, ?_, ?_, ?_⟩ <;> (first | with_reducible rfl | with_reducible assumption | omega | (exfalso; omega) | (exact Or.inr rfl) | (exact Or.inl (by omega)))
                          · skip
                            have c906' : ¬ p3.toInt = -1 := fun hz => c906 ((y_eqN rfl).mpr hz)
                            refine y_bi (y_X9_isType (by omega) (by omega)) (fun s_29 h_s_29 => ?_)
                            have h0_s_29 : (s_29.toInt = 0 ∧ ¬ (0 ≤ p3.toInt ∧ p3.toInt < 16777216 ∧ (p3.toInt % 65536 < v7_2.toInt ∨ 65528 ≤ p3.toInt % 65536))) ∨ (s_29.toInt = 1 ∧ (0 ≤ p3.toInt ∧ p3.toInt < 16777216 ∧ (p3.toInt % 65536 < v7_2.toInt ∨ 65528 ≤ p3.toInt % 65536))) := h_s_29
                            refine y_if (fun c919 => ?_) (fun c919 => ?_)
                            · skip
                              have c919' := c919
                              rw [← Int32.toInt_inj] at c919'
                              have e920 := y_or0 h0_s_29 c919'
                              clear h0_s_29
                              refine y_bi (y_X9_bad) (fun s_31 h_s_31 => ?_)
                              obtain ⟨h0_s_31, h1_s_31⟩ := h_s_31
                              refine y_some ?_
                              try dsimp only
                              refine y_some ?_
                              try dsimp only
                              refine ⟨?_, ?_, ?_, ?_, ?_, ?_, ?_, ?_⟩ <;> (first | with_reducible rfl | with_reducible assumption | omega | (exfalso; omega) | (exact Or.inr rfl) | (exact Or.inl (by omega)))
                            · skip
                              have c919' := c919
                              rw [← Int32.toInt_inj] at c919'
                              have e921 := y_or1 h0_s_29 c919'
                              clear h0_s_29
                              refine y_if (fun c922 => ?_) (fun c922 => ?_)
                              · skip
                                have c922' := c922
                                rw [← Int32.toInt_inj] at c922'
                                refine y_bi (y_X9_bad) (fun s_33 h_s_33 => ?_)
                                obtain ⟨h0_s_33, h1_s_33⟩ := h_s_33
                                refine y_some ?_
                                try dsimp only
                                refine y_some ?_
                                try dsimp only
                                refine ⟨?_, ?_, ?_, ?_, ?_, ?_, ?_, ?_⟩ <;> (first | with_reducible rfl | with_reducible assumption | omega | (exfalso; omega) | (exact Or.inr rfl) | (exact Or.inl (by omega)))
                              · skip
                                have c922' := c922
                                rw [← Int32.toInt_inj] at c922'
                                refine y_if (fun c923 => ?_) (fun c923 => ?_)
                                · skip
                                  have c923' := c923
                                  rw [← Int32.toInt_inj] at c923'
                                  refine y_gd (y_gdI (by omega) (by omega)) ?_
                                  refine y_if (fun c924 => ?_) (fun c924 => ?_)
                                  · skip
                                    try have e925 := @y_cl p1 (by omega)
                                    have c924' := c924
                                    rw [← Int32.toInt_inj] at c924'
                                    refine y_if (fun c926 => ?_) (fun c926 => ?_)
                                    · skip
                                      have c926' := c926
                                      rw [Int32.lt_iff_toInt_lt] at c926'
                                      refine y_bi (y_X9_bad) (fun s_47 h_s_47 => ?_)
                                      obtain ⟨h0_s_47, h1_s_47⟩ := h_s_47
                                      refine y_some ?_
                                      try dsimp only
                                      refine y_some ?_
                                      try dsimp only
                                      refine ⟨?_, ?_, ?_, ?_, ?_, ?_, ?_, ?_⟩ <;> (first | with_reducible rfl | with_reducible assumption | omega | (exfalso; omega) | (exact Or.inr rfl) | (exact Or.inl (by omega)))
                                    · skip
                                      have c926' := c926
                                      rw [Int32.lt_iff_toInt_lt] at c926'
                                      refine y_if (fun c927 => ?_) (fun c927 => ?_)
                                      · skip
                                        have c927' := c927
                                        rw [Int32.lt_iff_toInt_lt] at c927'
                                        refine y_bi (y_X9_bad) (fun s_49 h_s_49 => ?_)
                                        obtain ⟨h0_s_49, h1_s_49⟩ := h_s_49
                                        refine y_some ?_
                                        try dsimp only
                                        refine y_some ?_
                                        try dsimp only
                                        refine ⟨?_, ?_, ?_, ?_, ?_, ?_, ?_, ?_⟩ <;> (first | with_reducible rfl | with_reducible assumption | omega | (exfalso; omega) | (exact Or.inr rfl) | (exact Or.inl (by omega)))
                                      · skip
                                        have c927' := c927
                                        rw [Int32.lt_iff_toInt_lt] at c927'
                                        refine y_if (fun c928 => ?_) (fun c928 => ?_)
                                        · skip
                                          have c928' := c928
                                          rw [Int32.lt_iff_toInt_lt] at c928'
                                          refine y_bi (y_X9_bad) (fun s_51 h_s_51 => ?_)
                                          obtain ⟨h0_s_51, h1_s_51⟩ := h_s_51
                                          refine y_some ?_
                                          try dsimp only
                                          refine y_some ?_
                                          try dsimp only
                                          refine ⟨?_, ?_, ?_, ?_, ?_, ?_, ?_, ?_⟩ <;> (first | with_reducible rfl | with_reducible assumption | omega | (exfalso; omega) | (exact Or.inr rfl) | (exact Or.inl (by omega)))
                                        · skip
                                          have c928' := c928
                                          rw [Int32.lt_iff_toInt_lt] at c928'
                                          refine y_if (fun c929 => ?_) (fun c929 => ?_)
                                          · skip
                                            have c929' := c929
                                            rw [Int32.le_iff_toInt_le] at c929'
                                            refine y_some ?_
                                            try dsimp only
                                            refine y_some ?_
                                            try dsimp only
                                            refine ⟨?_, ?_, ?_, ?_, ?_, ?_, ?_, ?_⟩ <;> (first | with_reducible rfl | with_reducible assumption | omega | (exfalso; omega) | (exact Or.inr rfl) | (exact Or.inl (by omega)))
                                          · skip
                                            have c929' := c929
                                            rw [Int32.le_iff_toInt_le] at c929'
                                            refine y_bi (y_X9_bad) (fun s_53 h_s_53 => ?_)
                                            obtain ⟨h0_s_53, h1_s_53⟩ := h_s_53
                                            refine y_some ?_
                                            try dsimp only
                                            refine y_some ?_
                                            try dsimp only
                                            refine ⟨?_, ?_, ?_, ?_, ?_, ?_, ?_, ?_⟩ <;> (first | with_reducible rfl | with_reducible assumption | omega | (exfalso; omega) | (exact Or.inr rfl) | (exact Or.inl (by omega)))
                                  · skip
                                    try have e930 := @y_cl p1 (by omega)
                                    have c924' := c924
                                    rw [← Int32.toInt_inj] at c924'
                                    refine y_bi (y_X9_bad) (fun s_45 h_s_45 => ?_)
                                    obtain ⟨h0_s_45, h1_s_45⟩ := h_s_45
                                    refine y_some ?_
                                    try dsimp only
                                    refine y_some ?_
                                    try dsimp only
                                    refine ⟨?_, ?_, ?_, ?_, ?_, ?_, ?_, ?_⟩ <;> (first | with_reducible rfl | with_reducible assumption | omega | (exfalso; omega) | (exact Or.inr rfl) | (exact Or.inl (by omega)))
                                · skip
                                  have c923' := c923
                                  rw [← Int32.toInt_inj] at c923'
                                  refine y_if (fun c931 => ?_) (fun c931 => ?_)
                                  · skip
                                    have c931' := c931
                                    rw [Int32.lt_iff_toInt_lt] at c931'
                                    refine y_bi (y_X9_bad) (fun s_36 h_s_36 => ?_)
                                    obtain ⟨h0_s_36, h1_s_36⟩ := h_s_36
                                    refine y_some ?_
                                    try dsimp only
                                    refine y_some ?_
                                    try dsimp only
                                    refine ⟨?_, ?_, ?_, ?_, ?_, ?_, ?_, ?_⟩ <;> (first | with_reducible rfl | with_reducible assumption | omega | (exfalso; omega) | (exact Or.inr rfl) | (exact Or.inl (by omega)))
                                  · skip
                                    have c931' := c931
                                    rw [Int32.lt_iff_toInt_lt] at c931'
                                    refine y_if (fun c932 => ?_) (fun c932 => ?_)
                                    · skip
                                      have c932' := c932
                                      rw [Int32.lt_iff_toInt_lt] at c932'
                                      refine y_bi (y_X9_bad) (fun s_38 h_s_38 => ?_)
                                      obtain ⟨h0_s_38, h1_s_38⟩ := h_s_38
                                      refine y_some ?_
                                      try dsimp only
                                      refine y_some ?_
                                      try dsimp only
                                      refine ⟨?_, ?_, ?_, ?_, ?_, ?_, ?_, ?_⟩ <;> (first | with_reducible rfl | with_reducible assumption | omega | (exfalso; omega) | (exact Or.inr rfl) | (exact Or.inl (by omega)))
                                    · skip
                                      have c932' := c932
                                      rw [Int32.lt_iff_toInt_lt] at c932'
                                      refine y_if (fun c933 => ?_) (fun c933 => ?_)
                                      · skip
                                        have c933' := c933
                                        rw [Int32.lt_iff_toInt_lt] at c933'
                                        refine y_bi (y_X9_bad) (fun s_40 h_s_40 => ?_)
                                        obtain ⟨h0_s_40, h1_s_40⟩ := h_s_40
                                        refine y_some ?_
                                        try dsimp only
                                        refine y_some ?_
                                        try dsimp only
                                        refine ⟨?_, ?_, ?_, ?_, ?_, ?_, ?_, ?_⟩ <;> (first | with_reducible rfl | with_reducible assumption | omega | (exfalso; omega) | (exact Or.inr rfl) | (exact Or.inl (by omega)))
                                      · skip
                                        have c933' := c933
                                        rw [Int32.lt_iff_toInt_lt] at c933'
                                        refine y_if (fun c934 => ?_) (fun c934 => ?_)
                                        · skip
                                          have c934' := c934
                                          rw [Int32.le_iff_toInt_le] at c934'
                                          refine y_some ?_
                                          try dsimp only
                                          refine y_some ?_
                                          try dsimp only
                                          refine ⟨?_, ?_, ?_, ?_, ?_, ?_, ?_, ?_⟩ <;> (first | with_reducible rfl | with_reducible assumption | omega | (exfalso; omega) | (exact Or.inr rfl) | (exact Or.inl (by omega)))
                                        · skip
                                          have c934' := c934
                                          rw [Int32.le_iff_toInt_le] at c934'
                                          refine y_bi (y_X9_bad) (fun s_42 h_s_42 => ?_)
                                          obtain ⟨h0_s_42, h1_s_42⟩ := h_s_42
                                          refine y_some ?_
                                          try dsimp only
                                          refine y_some ?_
                                          try dsimp only
                                          refine ⟨?_, ?_, ?_, ?_, ?_, ?_, ?_, ?_⟩ <;> (first | with_reducible rfl | with_reducible assumption | omega | (exfalso; omega) | (exact Or.inr rfl) | (exact Or.inl (by omega)))
                  · skip
                    have c900' := c900
                    rw [Int32.le_iff_toInt_le] at c900'
                    refine y_some ?_
                    try dsimp only
                    refine y_bt ?_
                    refine y_bi (y_X9_isClass) (fun s_1 h_s_1 => ?_)
                    have h0_s_1 : (s_1.toInt = 0 ∧ ¬ (0 ≤ p1.toInt ∧ p1.toInt < v7_2.toInt)) ∨ (s_1.toInt = 1 ∧ (0 ≤ p1.toInt ∧ p1.toInt < v7_2.toInt)) := h_s_1
                    refine y_if (fun c935 => ?_) (fun c935 => ?_)
                    · skip
                      have c935' := c935
                      rw [← Int32.toInt_inj] at c935'
                      have e936 := y_or0 h0_s_1 c935'
                      clear h0_s_1
                      refine y_bi (y_X9_bad) (fun s_3 h_s_3 => ?_)
                      obtain ⟨h0_s_3, h1_s_3⟩ := h_s_3
                      refine y_some ?_
                      try dsimp only
                      have e937 : (1 : Int32).toInt = 1 := rfl
                      refine y_some ?_
                      try dsimp only
                      refine ⟨?_, ?_, ?_, ?_, ?_, ?_, ?_, ?_⟩ <;> (first | with_reducible rfl | with_reducible assumption | omega | (exfalso; omega) | (exact Or.inr rfl) | (exact Or.inl (by omega)))
                    · skip
                      have c935' := c935
                      rw [← Int32.toInt_inj] at c935'
                      have e938 := y_or1 h0_s_1 c935'
                      clear h0_s_1
                      refine y_if (fun c939 => ?_) (fun c939 => ?_)
                      · skip
                        have c939' := c939
                        rw [Int32.lt_iff_toInt_lt] at c939'
                        refine y_bi (y_X9_bad) (fun s_5 h_s_5 => ?_)
                        obtain ⟨h0_s_5, h1_s_5⟩ := h_s_5
                        refine y_some ?_
                        try dsimp only
                        have e940 : (1 : Int32).toInt = 1 := rfl
                        refine y_some ?_
                        try dsimp only
                        refine ⟨?_, ?_, ?_, ?_, ?_, ?_, ?_, ?_⟩ <;> (first | with_reducible rfl | with_reducible assumption | omega | (exfalso; omega) | (exact Or.inr rfl) | (exact Or.inl (by omega)))
                      · skip
                        have c939' := c939
                        rw [Int32.lt_iff_toInt_lt] at c939'
                        refine y_if (fun c941 => ?_) (fun c941 => ?_)
                        · skip
                          have c941' := c941
                          rw [Int32.lt_iff_toInt_lt] at c941'
                          refine y_bi (y_X9_bad) (fun s_7 h_s_7 => ?_)
                          obtain ⟨h0_s_7, h1_s_7⟩ := h_s_7
                          refine y_some ?_
                          try dsimp only
                          have e942 : (1 : Int32).toInt = 1 := rfl
                          refine y_some ?_
                          try dsimp only
                          refine ⟨?_, ?_, ?_, ?_, ?_, ?_, ?_, ?_⟩ <;> (first | with_reducible rfl | with_reducible assumption | omega | (exfalso; omega) | (exact Or.inr rfl) | (exact Or.inl (by omega)))
                        · skip
                          have c941' := c941
                          rw [Int32.lt_iff_toInt_lt] at c941'
                          refine y_if (fun c943 => ?_) (fun c943 => ?_)
                          · skip
                            have c943' : p3.toInt = -1 := (y_eqN rfl).mp c943
                            refine y_if (fun c944 => ?_) (fun c944 => ?_)
                            · skip
                              have c944' := c944
                              rw [← Int32.toInt_inj] at c944'
                              refine y_gd (y_gdI (by omega) (by omega)) ?_
                              refine y_if (fun c945 => ?_) (fun c945 => ?_)
                              · skip
                                try have e946 := @y_cl p1 (by omega)
                                have c945' := c945
                                rw [← Int32.toInt_inj] at c945'
                                refine y_if (fun c947 => ?_) (fun c947 => ?_)
                                · skip
                                  have c947' := c947
                                  rw [Int32.lt_iff_toInt_lt] at c947'
                                  refine y_bi (y_X9_bad) (fun s_22 h_s_22 => ?_)
                                  obtain ⟨h0_s_22, h1_s_22⟩ := h_s_22
                                  refine y_some ?_
                                  try dsimp only
                                  have e948 : (1 : Int32).toInt = 1 := rfl
                                  refine y_some ?_
                                  try dsimp only
                                  refine ⟨?_, ?_, ?_, ?_, ?_, ?_, ?_, ?_⟩ <;> (first | with_reducible rfl | with_reducible assumption | omega | (exfalso; omega) | (exact Or.inr rfl) | (exact Or.inl (by omega)))
                                · skip
                                  have c947' := c947
                                  rw [Int32.lt_iff_toInt_lt] at c947'
                                  refine y_if (fun c949 => ?_) (fun c949 => ?_)
                                  · skip
                                    have c949' := c949
                                    rw [Int32.lt_iff_toInt_lt] at c949'
                                    refine y_bi (y_X9_bad) (fun s_24 h_s_24 => ?_)
                                    obtain ⟨h0_s_24, h1_s_24⟩ := h_s_24
                                    refine y_some ?_
                                    try dsimp only
                                    have e950 : (1 : Int32).toInt = 1 := rfl
                                    refine y_some ?_
                                    try dsimp only
                                    refine ⟨?_, ?_, ?_, ?_, ?_, ?_, ?_, ?_⟩ <;> (first | with_reducible rfl | with_reducible assumption | omega | (exfalso; omega) | (exact Or.inr rfl) | (exact Or.inl (by omega)))
                                  · skip
                                    have c949' := c949
                                    rw [Int32.lt_iff_toInt_lt] at c949'
                                    refine y_if (fun c951 => ?_) (fun c951 => ?_)
                                    · skip
                                      have c951' := c951
                                      rw [Int32.lt_iff_toInt_lt] at c951'
                                      refine y_bi (y_X9_bad) (fun s_26 h_s_26 => ?_)
                                      obtain ⟨h0_s_26, h1_s_26⟩ := h_s_26
                                      refine y_some ?_
                                      try dsimp only
                                      have e952 : (1 : Int32).toInt = 1 := rfl
                                      refine y_some ?_
                                      try dsimp only
                                      refine ⟨?_, ?_, ?_, ?_, ?_, ?_, ?_, ?_⟩ <;> (first | with_reducible rfl | with_reducible assumption | omega | (exfalso; omega) | (exact Or.inr rfl) | (exact Or.inl (by omega)))
                                    · skip
                                      have c951' := c951
                                      rw [Int32.lt_iff_toInt_lt] at c951'
                                      refine y_if (fun c953 => ?_) (fun c953 => ?_)
                                      · skip
                                        have c953' := c953
                                        rw [Int32.le_iff_toInt_le] at c953'
                                        refine y_some ?_
                                        try dsimp only
                                        have e954 : (1 : Int32).toInt = 1 := rfl
                                        refine y_some ?_
                                        try dsimp only
                                        refine ⟨?_, ?_, ?_, ?_, ?_, ?_, ?_, ?_⟩ <;> (first | with_reducible rfl | with_reducible assumption | omega | (exfalso; omega) | (exact Or.inr rfl) | (exact Or.inl (by omega)))
                                      · skip
                                        have c953' := c953
                                        rw [Int32.le_iff_toInt_le] at c953'
                                        refine y_bi (y_X9_bad) (fun s_28 h_s_28 => ?_)
                                        obtain ⟨h0_s_28, h1_s_28⟩ := h_s_28
                                        refine y_some ?_
                                        try dsimp only
                                        have e955 : (1 : Int32).toInt = 1 := rfl
                                        refine y_some ?_
                                        try dsimp only
                                        refine ⟨?_, ?_, ?_, ?_, ?_, ?_, ?_, ?_⟩ <;> (first | with_reducible rfl | with_reducible assumption | omega | (exfalso; omega) | (exact Or.inr rfl) | (exact Or.inl (by omega)))
                              · skip
                                try have e956 := @y_cl p1 (by omega)
                                have c945' := c945
                                rw [← Int32.toInt_inj] at c945'
                                refine y_bi (y_X9_bad) (fun s_20 h_s_20 => ?_)
                                obtain ⟨h0_s_20, h1_s_20⟩ := h_s_20
                                refine y_some ?_
                                try dsimp only
                                have e957 : (1 : Int32).toInt = 1 := rfl
                                refine y_some ?_
                                try dsimp only
                                refine ⟨?_, ?_, ?_, ?_, ?_, ?_, ?_, ?_⟩ <;> (first | with_reducible rfl | with_reducible assumption | omega | (exfalso; omega) | (exact Or.inr rfl) | (exact Or.inl (by omega)))
                            · skip
                              have c944' := c944
                              rw [← Int32.toInt_inj] at c944'
                              refine y_if (fun c958 => ?_) (fun c958 => ?_)
                              · skip
                                have c958' := c958
                                rw [Int32.lt_iff_toInt_lt] at c958'
                                refine y_bi (y_X9_bad) (fun s_11 h_s_11 => ?_)
                                obtain ⟨h0_s_11, h1_s_11⟩ := h_s_11
                                refine y_some ?_
                                try dsimp only
                                have e959 : (1 : Int32).toInt = 1 := rfl
                                refine y_some ?_
                                try dsimp only
                                refine ⟨?_, ?_, ?_, ?_, ?_, ?_, ?_, ?_⟩ <;> (first | with_reducible rfl | with_reducible assumption | omega | (exfalso; omega) | (exact Or.inr rfl) | (exact Or.inl (by omega)))
                              · skip
                                have c958' := c958
                                rw [Int32.lt_iff_toInt_lt] at c958'
                                refine y_if (fun c960 => ?_) (fun c960 => ?_)
                                · skip
                                  have c960' := c960
                                  rw [Int32.lt_iff_toInt_lt] at c960'
                                  refine y_bi (y_X9_bad) (fun s_13 h_s_13 => ?_)
                                  obtain ⟨h0_s_13, h1_s_13⟩ := h_s_13
                                  refine y_some ?_
                                  try dsimp only
                                  have e961 : (1 : Int32).toInt = 1 := rfl
                                  refine y_some ?_
                                  try dsimp only
                                  refine ⟨?_, ?_, ?_, ?_, ?_, ?_, ?_, ?_⟩ <;> (first | with_reducible rfl | with_reducible assumption | omega | (exfalso; omega) | (exact Or.inr rfl) | (exact Or.inl (by omega)))
                                · skip
                                  have c960' := c960
                                  rw [Int32.lt_iff_toInt_lt] at c960'
                                  refine y_if (fun c962 => ?_) (fun c962 => ?_)
                                  · skip
                                    have c962' := c962
                                    rw [Int32.lt_iff_toInt_lt] at c962'
                                    refine y_bi (y_X9_bad) (fun s_15 h_s_15 => ?_)
                                    obtain ⟨h0_s_15, h1_s_15⟩ := h_s_15
                                    refine y_some ?_
                                    try dsimp only
                                    have e963 : (1 : Int32).toInt = 1 := rfl
                                    refine y_some ?_
                                    try dsimp only
                                    refine ⟨?_, ?_, ?_, ?_, ?_, ?_, ?_, ?_⟩ <;> (first | with_reducible rfl | with_reducible assumption | omega | (exfalso; omega) | (exact Or.inr rfl) | (exact Or.inl (by omega)))
                                  · skip
                                    have c962' := c962
                                    rw [Int32.lt_iff_toInt_lt] at c962'
                                    refine y_if (fun c964 => ?_) (fun c964 => ?_)
                                    · skip
                                      have c964' := c964
                                      rw [Int32.le_iff_toInt_le] at c964'
                                      refine y_some ?_
                                      try dsimp only
                                      have e965 : (1 : Int32).toInt = 1 := rfl
                                      refine y_some ?_
                                      try dsimp only
                                      refine ⟨?_, ?_, ?_, ?_, ?_, ?_, ?_, ?_⟩ <;> (first | with_reducible rfl | with_reducible assumption | omega | (exfalso; omega) | (exact Or.inr rfl) | (exact Or.inl (by omega)))
                                    · skip
                                      have c964' := c964
                                      rw [Int32.le_iff_toInt_le] at c964'
                                      refine y_bi (y_X9_bad) (fun s_17 h_s_17 => ?_)
                                      obtain ⟨h0_s_17, h1_s_17⟩ := h_s_17
                                      refine y_some ?_
                                      try dsimp only
                                      have e966 : (1 : Int32).toInt = 1 := rfl
                                      refine y_some ?_
                                      try dsimp only
                                      refine ⟨?_, ?_, ?_, ?_, ?_, ?_, ?_, ?_⟩ <;> (first | with_reducible rfl | with_reducible assumption | omega | (exfalso; omega) | (exact Or.inr rfl) | (exact Or.inl (by omega)))
                          · skip
                            have c943' : ¬ p3.toInt = -1 := fun hz => c943 ((y_eqN rfl).mpr hz)
                            refine y_bi (y_X9_isType (by omega) (by omega)) (fun s_29 h_s_29 => ?_)
                            have h0_s_29 : (s_29.toInt = 0 ∧ ¬ (0 ≤ p3.toInt ∧ p3.toInt < 16777216 ∧ (p3.toInt % 65536 < v7_2.toInt ∨ 65528 ≤ p3.toInt % 65536))) ∨ (s_29.toInt = 1 ∧ (0 ≤ p3.toInt ∧ p3.toInt < 16777216 ∧ (p3.toInt % 65536 < v7_2.toInt ∨ 65528 ≤ p3.toInt % 65536))) := h_s_29
                            refine y_if (fun c967 => ?_) (fun c967 => ?_)
                            · skip
                              have c967' := c967
                              rw [← Int32.toInt_inj] at c967'
                              have e968 := y_or0 h0_s_29 c967'
                              clear h0_s_29
                              refine y_bi (y_X9_bad) (fun s_31 h_s_31 => ?_)
                              obtain ⟨h0_s_31, h1_s_31⟩ := h_s_31
                              refine y_some ?_
                              try dsimp only
                              have e969 : (1 : Int32).toInt = 1 := rfl
                              refine y_some ?_
                              try dsimp only
                              refine ⟨?_, ?_, ?_, ?_, ?_, ?_, ?_, ?_⟩ <;> (first | with_reducible rfl | with_reducible assumption | omega | (exfalso; omega) | (exact Or.inr rfl) | (exact Or.inl (by omega)))
                            · skip
                              have c967' := c967
                              rw [← Int32.toInt_inj] at c967'
                              have e970 := y_or1 h0_s_29 c967'
                              clear h0_s_29
                              refine y_if (fun c971 => ?_) (fun c971 => ?_)
                              · skip
                                have c971' := c971
                                rw [← Int32.toInt_inj] at c971'
                                refine y_bi (y_X9_bad) (fun s_33 h_s_33 => ?_)
                                obtain ⟨h0_s_33, h1_s_33⟩ := h_s_33
                                refine y_some ?_
                                try dsimp only
                                have e972 : (1 : Int32).toInt = 1 := rfl
                                refine y_some ?_
                                try dsimp only
                                refine ⟨?_, ?_, ?_, ?_, ?_, ?_, ?_, ?_⟩ <;> (first | with_reducible rfl | with_reducible assumption | omega | (exfalso; omega) | (exact Or.inr rfl) | (exact Or.inl (by omega)))
                              · skip
                                have c971' := c971
                                rw [← Int32.toInt_inj] at c971'
                                refine y_if (fun c973 => ?_) (fun c973 => ?_)
                                · skip
                                  have c973' := c973
                                  rw [← Int32.toInt_inj] at c973'
                                  refine y_gd (y_gdI (by omega) (by omega)) ?_
                                  refine y_if (fun c974 => ?_) (fun c974 => ?_)
                                  · skip
                                    try have e975 := @y_cl p1 (by omega)
                                    have c974' := c974
                                    rw [← Int32.toInt_inj] at c974'
                                    refine y_if (fun c976 => ?_) (fun c976 => ?_)
                                    · skip
                                      have c976' := c976
                                      rw [Int32.lt_iff_toInt_lt] at c976'
                                      refine y_bi (y_X9_bad) (fun s_47 h_s_47 => ?_)
                                      obtain ⟨h0_s_47, h1_s_47⟩ := h_s_47
                                      refine y_some ?_
                                      try dsimp only
                                      have e977 : (1 : Int32).toInt = 1 := rfl
                                      refine y_some ?_
                                      try dsimp only
                                      refine ⟨?_, ?_, ?_, ?_, ?_, ?_, ?_, ?_⟩ <;> (first | with_reducible rfl | with_reducible assumption | omega | (exfalso; omega) | (exact Or.inr rfl) | (exact Or.inl (by omega)))
                                    · skip
                                      have c976' := c976
                                      rw [Int32.lt_iff_toInt_lt] at c976'
                                      refine y_if (fun c978 => ?_) (fun c978 => ?_)
                                      · skip
                                        have c978' := c978
                                        rw [Int32.lt_iff_toInt_lt] at c978'
                                        refine y_bi (y_X9_bad) (fun s_49 h_s_49 => ?_)
                                        obtain ⟨h0_s_49, h1_s_49⟩ := h_s_49
                                        refine y_some ?_
                                        try dsimp only
                                        have e979 : (1 : Int32).toInt = 1 := rfl
                                        refine y_some ?_
                                        try dsimp only
                                        refine ⟨?_, ?_, ?_, ?_, ?_, ?_, ?_, ?_⟩ <;> (first | with_reducible rfl | with_reducible assumption | omega | (exfalso; omega) | (exact Or.inr rfl) | (exact Or.inl (by omega)))
                                      · skip
                                        have c978' := c978
                                        rw [Int32.lt_iff_toInt_lt] at c978'
                                        refine y_if (fun c980 => ?_) (fun c980 => ?_)
                                        · skip
                                          have c980' := c980
                                          rw [Int32.lt_iff_toInt_lt] at c980'
                                          refine y_bi (y_X9_bad) (fun s_51 h_s_51 => ?_)
                                          obtain ⟨h0_s_51, h1_s_51⟩ := h_s_51
                                          refine y_some ?_
                                          try dsimp only
                                          have e981 : (1 : Int32).toInt = 1 := rfl
                                          refine y_some ?_
                                          try dsimp only
                                          refine ⟨?_, ?_, ?_, ?_, ?_, ?_, ?_, ?_⟩ <;> (first | with_reducible rfl | with_reducible assumption | omega | (exfalso; omega) | (exact Or.inr rfl) | (exact Or.inl (by omega)))
                                        · skip
                                          have c980' := c980
                                          rw [Int32.lt_iff_toInt_lt] at c980'
                                          refine y_if (fun c982 => ?_) (fun c982 => ?_)
                                          · skip
                                            have c982' := c982
                                            rw [Int32.le_iff_toInt_le] at c982'
                                            refine y_some ?_
                                            try dsimp only
                                            have e983 : (1 : Int32).toInt = 1 := rfl
                                            refine y_some ?_
                                            try dsimp only
                                            refine ⟨?_, ?_, ?_, ?_, ?_, ?_, ?_, ?_⟩ <;> (first | with_reducible rfl | with_reducible assumption | omega | (exfalso; omega) | (exact Or.inr rfl) | (exact Or.inl (by omega)))
                                          · skip
                                            have c982' := c982
                                            rw [Int32.le_iff_toInt_le] at c982'
                                            refine y_bi (y_X9_bad) (fun s_53 h_s_53 => ?_)
                                            obtain ⟨h0_s_53, h1_s_53⟩ := h_s_53
                                            refine y_some ?_
                                            try dsimp only
                                            have e984 : (1 : Int32).toInt = 1 := rfl
                                            refine y_some ?_
                                            try dsimp only
                                            refine ⟨?_, ?_, ?_, ?_, ?_, ?_, ?_, ?_⟩ <;> (first | with_reducible rfl | with_reducible assumption | omega | (exfalso; omega) | (exact Or.inr rfl) | (exact Or.inl (by omega)))
                                  · skip
                                    try have e985 := @y_cl p1 (by omega)
                                    have c974' := c974
                                    rw [← Int32.toInt_inj] at c974'
                                    refine y_bi (y_X9_bad) (fun s_45 h_s_45 => ?_)
                                    obtain ⟨h0_s_45, h1_s_45⟩ := h_s_45
                                    refine y_some ?_
                                    try dsimp only
                                    have e986 : (1 : Int32).toInt = 1 := rfl
                                    refine y_some ?_
                                    try dsimp only
                                    refine ⟨?_, ?_, ?_, ?_, ?_, ?_, ?_, ?_⟩ <;> (first | with_reducible rfl | with_reducible assumption | omega | (exfalso; omega) | (exact Or.inr rfl) | (exact Or.inl (by omega)))
                                · skip
                                  have c973' := c973
                                  rw [← Int32.toInt_inj] at c973'
                                  refine y_if (fun c987 => ?_) (fun c987 => ?_)
                                  · skip
                                    have c987' := c987
                                    rw [Int32.lt_iff_toInt_lt] at c987'
                                    refine y_bi (y_X9_bad) (fun s_36 h_s_36 => ?_)
                                    obtain ⟨h0_s_36, h1_s_36⟩ := h_s_36
                                    refine y_some ?_
                                    try dsimp only
                                    have e988 : (1 : Int32).toInt = 1 := rfl
                                    refine y_some ?_
                                    try dsimp only
                                    refine ⟨?_, ?_, ?_, ?_, ?_, ?_, ?_, ?_⟩ <;> (first | with_reducible rfl | with_reducible assumption | omega | (exfalso; omega) | (exact Or.inr rfl) | (exact Or.inl (by omega)))
                                  · skip
                                    have c987' := c987
                                    rw [Int32.lt_iff_toInt_lt] at c987'
                                    refine y_if (fun c989 => ?_) (fun c989 => ?_)
                                    · skip
                                      have c989' := c989
                                      rw [Int32.lt_iff_toInt_lt] at c989'
                                      refine y_bi (y_X9_bad) (fun s_38 h_s_38 => ?_)
                                      obtain ⟨h0_s_38, h1_s_38⟩ := h_s_38
                                      refine y_some ?_
                                      try dsimp only
                                      have e990 : (1 : Int32).toInt = 1 := rfl
                                      refine y_some ?_
                                      try dsimp only
                                      refine ⟨?_, ?_, ?_, ?_, ?_, ?_, ?_, ?_⟩ <;> (first | with_reducible rfl | with_reducible assumption | omega | (exfalso; omega) | (exact Or.inr rfl) | (exact Or.inl (by omega)))
                                    · skip
                                      have c989' := c989
                                      rw [Int32.lt_iff_toInt_lt] at c989'
                                      refine y_if (fun c991 => ?_) (fun c991 => ?_)
                                      · skip
                                        have c991' := c991
                                        rw [Int32.lt_iff_toInt_lt] at c991'
                                        refine y_bi (y_X9_bad) (fun s_40 h_s_40 => ?_)
                                        obtain ⟨h0_s_40, h1_s_40⟩ := h_s_40
                                        refine y_some ?_
                                        try dsimp only
                                        have e992 : (1 : Int32).toInt = 1 := rfl
                                        refine y_some ?_
                                        try dsimp only
                                        refine ⟨?_, ?_, ?_, ?_, ?_, ?_, ?_, ?_⟩ <;> (first | with_reducible rfl | with_reducible assumption | omega | (exfalso; omega) | (exact Or.inr rfl) | (exact Or.inl (by omega)))
                                      · skip
                                        have c991' := c991
                                        rw [Int32.lt_iff_toInt_lt] at c991'
                                        refine y_if (fun c993 => ?_) (fun c993 => ?_)
                                        · skip
                                          have c993' := c993
                                          rw [Int32.le_iff_toInt_le] at c993'
                                          refine y_some ?_
                                          try dsimp only
                                          have e994 : (1 : Int32).toInt = 1 := rfl
                                          refine y_some ?_
                                          try dsimp only
                                          refine ⟨?_, ?_, ?_, ?_, ?_, ?_, ?_, ?_⟩ <;> (first | with_reducible rfl | with_reducible assumption | omega | (exfalso; omega) | (exact Or.inr rfl) | (exact Or.inl (by omega)))
                                        · skip
                                          have c993' := c993
                                          rw [Int32.le_iff_toInt_le] at c993'
                                          refine y_bi (y_X9_bad) (fun s_42 h_s_42 => ?_)
                                          obtain ⟨h0_s_42, h1_s_42⟩ := h_s_42
                                          refine y_some ?_
                                          try dsimp only
                                          have e995 : (1 : Int32).toInt = 1 := rfl
                                          refine y_some ?_
                                          try dsimp only
                                          refine ⟨?_, ?_, ?_, ?_, ?_, ?_, ?_, ?_⟩ <;> (first | with_reducible rfl | with_reducible assumption | omega | (exfalso; omega) | (exact Or.inr rfl) | (exact Or.inl (by omega)))
