set_option maxHeartbeats 4000000 in
theorem y_X9_comes_L_12 {v9_16 : Int32} {v9_17 : Int32} {v9_35 : Int32} {v9_36 : Int32} {v9_54 : Int32} {g9_4 : Nat → Int32} {g9_5 : Nat → Int32} {g9_33 : Nat → Int32} {g9_34 : Nat → Int32} {v9_48 : Int32} {v9_55 : Int32} {g9_43 : Nat → Int32} {g9_44 : Nat → Int32} {g9_45 : Nat → Int32} {g9_46 : Nat → Int32} {g9_47 : Nat → Int32} {g9_53 : Nat → Int32} {C : Nat} {mn B B2 X0 M0 : Int} {s0 L : Nat} {l1 : Int32} {l2 : Int32} {l3 : Int32} {l4 : Int32} {l5 : Int32} {l6 : Int32} {l7 : Int32} {l8 : Int32} {g9_57 : Nat → Int32} (k0 : 0 ≤ v9_16.toInt) (k1 : v9_16.toInt ≤ 200) (k2 : 0 ≤ v9_17.toInt) (k3 : v9_17.toInt ≤ 200) (k4 : 0 ≤ v9_35.toInt) (k5 : v9_35.toInt ≤ v9_17.toInt) (k6 : 0 ≤ v9_36.toInt) (k7 : v9_36.toInt ≤ 1) (k8 : y_Up g9_4) (k9 : y_AV 202 g9_33) (k10 : y_AV 202 g9_34) (hC : (C : Int) = v9_16.toInt + v9_17.toInt) (k12 : 0 ≤ v9_48.toInt) (k13 : 0 ≤ v9_54.toInt) (k14 : v9_54.toInt < 20010) (k15 : B ≤ B2) (k16 : mn ≤ 999) (hL : L = 60600) (hfit : y_Fit v9_48.toInt C) (hsat : y_RI v9_48.toInt 0 mn g9_43) (hctx : y_RI v9_48.toInt 0 B g9_44) (hnxt : y_DI v9_48.toInt g9_45) (hhead : y_RI (mn + 1) (-1) (v9_48.toInt - 1) g9_46) (hw0 : 0 ≤ v9_55.toInt) (hwc : v9_55.toInt ≤ y_Ct v9_48.toInt.toNat g9_47) (hque : y_Q v9_54.toInt v9_55.toInt v9_48.toInt g9_53) (hH : y_H C v9_48.toInt v9_17.toInt g9_57) (hfr : y_AV 60600 g9_57) (k28 : X0 ≤ B) (k29 : 0 ≤ l3.toInt) (k30 : l3.toInt < v9_48.toInt) (k31 : y_M L g9_57 ≤ M0) (k32 : l5.toInt = 0 ∨ y_M L g9_57 < M0) : y_Ok (f_X9_comes_L v9_16 v9_17 v9_35 v9_36 v9_54 g9_4 g9_5 g9_33 g9_34 v9_48 v9_55 g9_43 g9_44 g9_45 g9_46 g9_47 g9_53 (12, l1, l2, l3, l4, l5, l6, l7, l8, g9_57)) (fun r => (y_AV 60600 r.2.2.2.2.2.2.2.2.2) ∧ (r.1.toInt = 0 ∨ ((v9_48.toInt ≤ r.2.1.toInt) ∧ (r.2.1.toInt ≤ v9_48.toInt + 1) ∧ (y_Fit r.2.1.toInt C) ∧ (y_RI r.2.1.toInt 0 mn r.2.2.2.1) ∧ (y_RI r.2.1.toInt 0 B2 r.2.2.2.2.1) ∧ (y_DI r.2.1.toInt r.2.2.2.2.2.1) ∧ (y_RI (mn + 1) (-1) (r.2.1.toInt - 1) r.2.2.2.2.2.2.1) ∧ (0 ≤ r.2.2.1.toInt) ∧ (r.2.2.1.toInt ≤ y_Ct r.2.1.toInt.toNat r.2.2.2.2.2.2.2.1) ∧ (y_Q v9_54.toInt r.2.2.1.toInt r.2.1.toInt r.2.2.2.2.2.2.2.2.1) ∧ (y_H C r.2.1.toInt v9_17.toInt r.2.2.2.2.2.2.2.2.2) ∧ (y_Le v9_48.toInt M0 v9_55.toInt r.2.1.toInt (y_M L r.2.2.2.2.2.2.2.2.2) r.2.2.1.toInt) ∧ (r.2.1.toInt = v9_48.toInt + 1 ∨ X0 ≤ B)))) := by
  have hle := hfit.le (by omega)
  rw [f_X9_comes_L]
  refine y_in (by decide) ?_
  refine y_in (by decide) ?_
  refine y_in (by decide) ?_
  refine y_in (by decide) ?_
  refine y_in (by decide) ?_
  refine y_in (by decide) ?_
  refine y_in (by decide) ?_
  refine y_in (by decide) ?_
  refine y_in (by decide) ?_
  refine y_in (by decide) ?_
  refine y_in (by decide) ?_
  refine y_in (by decide) ?_
  refine y_ip rfl ?_
  refine y_if (fun c1 => ?_) (fun c1 => ?_)
  · skip
    have e2 : (0 : Int32).toInt = 0 := rfl
    have c1' := c1
    rw [← Int32.toInt_inj] at c1'
    have e3 : (1 : Int32).toInt = 1 := rfl
    refine y_some ?_
    try dsimp only
    refine ⟨?_, ?_⟩
    · (first | with_reducible assumption | omega | ((with_reducible refine y_Vl ?_ ?_) <;> omega) | (unfold y_Le; omega) | ((with_reducible refine y_RIm (by with_reducible assumption) ?_ ?_ ?_) <;> omega) | ((with_reducible refine y_RIu (by with_reducible assumption) ?_ ?_ ?_ ?_ ?_) <;> omega) | ((with_reducible refine y_DIu (by with_reducible assumption) ?_ ?_ ?_) <;> omega))
    · (refine Or.inr ⟨?_, ?_, ?_, ?_, ?_, ?_, ?_, ?_, ?_, ?_, ?_, ?_, ?_⟩ <;> (first | with_reducible assumption | omega | ((with_reducible refine y_Vl ?_ ?_) <;> omega) | (unfold y_Le; omega) | ((with_reducible refine y_RIm (by with_reducible assumption) ?_ ?_ ?_) <;> omega) | ((with_reducible refine y_RIu (by with_reducible assumption) ?_ ?_ ?_ ?_ ?_) <;> omega) | ((with_reducible refine y_DIu (by with_reducible assumption) ?_ ?_ ?_) <;> omega)))
  · skip
    have e4 : (0 : Int32).toInt = 0 := rfl
    have c1' := c1
    rw [← Int32.toInt_inj] at c1'
    refine y_bi (y_X9_waits (N := v9_48.toInt.toNat) (n2 := v9_48.toInt) (n3 := v9_48.toInt) (by omega) (by omega) (by omega) (by omega) (by first | with_reducible assumption | omega | ((with_reducible refine y_Vl ?_ ?_) <;> omega) | (unfold y_Le; omega) | ((with_reducible refine y_RIm (by with_reducible assumption) ?_ ?_ ?_) <;> omega) | ((with_reducible refine y_RIu (by with_reducible assumption) ?_ ?_ ?_ ?_ ?_) <;> omega) | ((with_reducible refine y_DIu (by with_reducible assumption) ?_ ?_ ?_) <;> omega)) (by omega) (by omega) (by omega) (by omega) (by omega)) (fun r_60 h_r_60 => ?_)
    obtain ⟨h0_r_60, h1_r_60, h2_r_60⟩ := h_r_60
    have e5 : (1 : Int32).toInt = 1 := rfl
    refine y_some ?_
    try dsimp only
    refine ⟨?_, ?_⟩
    · (first | with_reducible assumption | omega | ((with_reducible refine y_Vl ?_ ?_) <;> omega) | (unfold y_Le; omega) | ((with_reducible refine y_RIm (by with_reducible assumption) ?_ ?_ ?_) <;> omega) | ((with_reducible refine y_RIu (by with_reducible assumption) ?_ ?_ ?_ ?_ ?_) <;> omega) | ((with_reducible refine y_DIu (by with_reducible assumption) ?_ ?_ ?_) <;> omega))
    · (refine Or.inr ⟨?_, ?_, ?_, ?_, ?_, ?_, ?_, ?_, ?_, ?_, ?_, ?_, ?_⟩ <;> (first | with_reducible assumption | omega | ((with_reducible refine y_Vl ?_ ?_) <;> omega) | (unfold y_Le; omega) | ((with_reducible refine y_RIm (by with_reducible assumption) ?_ ?_ ?_) <;> omega) | ((with_reducible refine y_RIu (by with_reducible assumption) ?_ ?_ ?_ ?_ ?_) <;> omega) | ((with_reducible refine y_DIu (by with_reducible assumption) ?_ ?_ ?_) <;> omega)))
set_option maxHeartbeats 4000000 in
theorem y_X9_comes_L_10_i {v9_16 : Int32} {v9_17 : Int32} {v9_35 : Int32} {v9_36 : Int32} {v9_54 : Int32} {g9_4 : Nat → Int32} {g9_5 : Nat → Int32} {g9_33 : Nat → Int32} {g9_34 : Nat → Int32} {v9_48 : Int32} {v9_55 : Int32} {g9_43 : Nat → Int32} {g9_44 : Nat → Int32} {g9_45 : Nat → Int32} {g9_46 : Nat → Int32} {g9_47 : Nat → Int32} {g9_53 : Nat → Int32} {C : Nat} {mn B B2 X0 M0 : Int} {s0 L : Nat} (k0 : 0 ≤ v9_16.toInt) (k1 : v9_16.toInt ≤ 200) (k2 : 0 ≤ v9_17.toInt) (k3 : v9_17.toInt ≤ 200) (k4 : 0 ≤ v9_35.toInt) (k5 : v9_35.toInt ≤ v9_17.toInt) (k6 : 0 ≤ v9_36.toInt) (k7 : v9_36.toInt ≤ 1) (k8 : y_Up g9_4) (k9 : y_AV 202 g9_33) (k10 : y_AV 202 g9_34) (hC : (C : Int) = v9_16.toInt + v9_17.toInt) (k12 : 0 ≤ v9_48.toInt) (k13 : 0 ≤ v9_54.toInt) (k14 : v9_54.toInt < 20010) (k15 : B ≤ B2) (k16 : mn ≤ 999) (hL : L = 60600) (hfit : y_Fit v9_48.toInt C) (hsat : y_RI v9_48.toInt 0 mn g9_43) (hctx : y_RI v9_48.toInt 0 B g9_44) (hnxt : y_DI v9_48.toInt g9_45) (hhead : y_RI (mn + 1) (-1) (v9_48.toInt - 1) g9_46) (hw0 : 0 ≤ v9_55.toInt) (hwc : v9_55.toInt ≤ y_Ct v9_48.toInt.toNat g9_47) (hque : y_Q v9_54.toInt v9_55.toInt v9_48.toInt g9_53) (k28 : X0 ≤ B) : ∀ (m : Nat) {l1 : Int32} {l2 : Int32} {l3 : Int32} {l4 : Int32} {l5 : Int32} {l6 : Int32} {l7 : Int32} {l8 : Int32} {g9_57 : Nat → Int32}, (y_H C v9_48.toInt v9_17.toInt g9_57) → (y_AV 60600 g9_57) → (0 ≤ l3.toInt) → (l3.toInt < v9_48.toInt) → (y_M L g9_57 ≤ M0) → (l5.toInt = 0 ∨ y_M L g9_57 < M0) → (Int32.toNatClampNeg l4 = s0 * (C + 2)) → (0 ≤ l4.toInt) → (l4.toInt + v9_16.toInt + v9_17.toInt + 2 ≤ 60600) → (0 ≤ l6.toInt) → (l6.toInt ≤ v9_35.toInt) → v9_35.toInt - l6.toInt < m → y_Ok (f_X9_comes_L v9_16 v9_17 v9_35 v9_36 v9_54 g9_4 g9_5 g9_33 g9_34 v9_48 v9_55 g9_43 g9_44 g9_45 g9_46 g9_47 g9_53 (10, l1, l2, l3, l4, l5, l6, l7, l8, g9_57)) (fun r => (y_AV 60600 r.2.2.2.2.2.2.2.2.2) ∧ (r.1.toInt = 0 ∨ ((v9_48.toInt ≤ r.2.1.toInt) ∧ (r.2.1.toInt ≤ v9_48.toInt + 1) ∧ (y_Fit r.2.1.toInt C) ∧ (y_RI r.2.1.toInt 0 mn r.2.2.2.1) ∧ (y_RI r.2.1.toInt 0 B2 r.2.2.2.2.1) ∧ (y_DI r.2.1.toInt r.2.2.2.2.2.1) ∧ (y_RI (mn + 1) (-1) (r.2.1.toInt - 1) r.2.2.2.2.2.2.1) ∧ (0 ≤ r.2.2.1.toInt) ∧ (r.2.2.1.toInt ≤ y_Ct r.2.1.toInt.toNat r.2.2.2.2.2.2.2.1) ∧ (y_Q v9_54.toInt r.2.2.1.toInt r.2.1.toInt r.2.2.2.2.2.2.2.2.1) ∧ (y_H C r.2.1.toInt v9_17.toInt r.2.2.2.2.2.2.2.2.2) ∧ (y_Le v9_48.toInt M0 v9_55.toInt r.2.1.toInt (y_M L r.2.2.2.2.2.2.2.2.2) r.2.2.1.toInt) ∧ (r.2.1.toInt = v9_48.toInt + 1 ∨ X0 ≤ B)))) := by
  intro m
  induction m with
  | zero => intro l1 l2 l3 l4 l5 l6 l7 l8 g9_57 hH hfr k29 k30 k31 k32 hat k34 k35 k36 k37 hm; exfalso; omega
  | succ m ih =>
    intro l1 l2 l3 l4 l5 l6 l7 l8 g9_57 hH hfr k29 k30 k31 k32 hat k34 k35 k36 k37 hm
    have hle := hfit.le (by omega)
    have hcl4 := @y_cl l4 (by omega)
    rw [f_X9_comes_L]
    refine y_in (by decide) ?_
    refine y_in (by decide) ?_
    refine y_in (by decide) ?_
    refine y_in (by decide) ?_
    refine y_in (by decide) ?_
    refine y_in (by decide) ?_
    refine y_in (by decide) ?_
    refine y_in (by decide) ?_
    refine y_in (by decide) ?_
    refine y_in (by decide) ?_
    refine y_ip rfl ?_
    refine y_if (fun c1 => ?_) (fun c1 => ?_)
    · skip
      have c1' := c1
      rw [Int32.le_iff_toInt_le] at c1'
      refine y_if (fun c2 => ?_) (fun c2 => ?_)
      · skip
        have e3 : (0 : Int32).toInt = 0 := rfl
        have c2' := c2
        rw [← Int32.toInt_inj] at c2'
        try have e4 := @y_add l4 v9_16 (by omega) (by omega)
        try have e5 := @y_add (l4 + v9_16) v9_17 (by omega) (by omega)
        try have e6 := @y_addL ((l4 + v9_16) + v9_17) (1 : Int32) (1) rfl (by omega) (by omega)
        refine y_gd (y_gdI (by omega) (by omega)) ?_
        refine y_if (fun c7 => ?_) (fun c7 => ?_)
        · skip
          try have e8 := @y_cl (((l4 + v9_16) + v9_17) + (1 : Int32)) (by omega)
          try have e9 := hfr.at (Int32.toNatClampNeg (((l4 + v9_16) + v9_17) + (1 : Int32))) (by omega)
          try have e10 := e9.b
          have e11 : (1 : Int32).toInt = 1 := rfl
          have c7' := c7
          rw [← Int32.toInt_inj] at c7'
          refine y_gd (y_gdI (by omega) (by omega)) ?_
          try have e12 := @y_M_upd g9_57 (Int32.toNatClampNeg (((l4 + v9_16) + v9_17) + (1 : Int32))) (0 : Int32) L (by omega)
          try have e13 := (hfr.at (Int32.toNatClampNeg (((l4 + v9_16) + v9_17) + (1 : Int32))) (by omega)).rk
          have e14 := y_rk_0
          try have e15 : y_H C v9_48.toInt v9_17.toInt (upd g9_57 (Int32.toNatClampNeg (((l4 + v9_16) + v9_17) + (1 : Int32))) (0 : Int32)) := y_H_upd hH hat (by omega) (by omega)
          try have e16 : y_AV 60600 (upd g9_57 (Int32.toNatClampNeg (((l4 + v9_16) + v9_17) + (1 : Int32))) (0 : Int32)) := y_AV_upd hfr (by first | with_reducible assumption | omega | ((with_reducible refine y_Vl ?_ ?_) <;> omega) | (unfold y_Le; omega) | ((with_reducible refine y_RIm (by with_reducible assumption) ?_ ?_ ?_) <;> omega) | ((with_reducible refine y_RIu (by with_reducible assumption) ?_ ?_ ?_ ?_ ?_) <;> omega) | ((with_reducible refine y_DIu (by with_reducible assumption) ?_ ?_ ?_) <;> omega))
          refine y_Ok.mono (y_X9_comes_L_12 (C := C) (mn := mn) (B := B) (B2 := B2) (X0 := X0) (M0 := M0) (s0 := s0) (L := L) (l1 := 0) (l2 := 0) (l3 := l3) (l4 := 0) (l5 := 1) (l6 := 0) (l7 := 0) (l8 := 0) (g9_57 := (upd g9_57 (Int32.toNatClampNeg (((l4 + v9_16) + v9_17) + (1 : Int32))) 0)) (by omega) (by omega) (by omega) (by omega) (by omega) (by omega) (by omega) (by omega) (by first | with_reducible assumption | omega | ((with_reducible refine y_Vl ?_ ?_) <;> omega) | (unfold y_Le; omega) | ((with_reducible refine y_RIm (by with_reducible assumption) ?_ ?_ ?_) <;> omega) | ((with_reducible refine y_RIu (by with_reducible assumption) ?_ ?_ ?_ ?_ ?_) <;> omega) | ((with_reducible refine y_DIu (by with_reducible assumption) ?_ ?_ ?_) <;> omega)) (by first | with_reducible assumption | omega | ((with_reducible refine y_Vl ?_ ?_) <;> omega) | (unfold y_Le; omega) | ((with_reducible refine y_RIm (by with_reducible assumption) ?_ ?_ ?_) <;> omega) | ((with_reducible refine y_RIu (by with_reducible assumption) ?_ ?_ ?_ ?_ ?_) <;> omega) | ((with_reducible refine y_DIu (by with_reducible assumption) ?_ ?_ ?_) <;> omega)) (by first | with_reducible assumption | omega | ((with_reducible refine y_Vl ?_ ?_) <;> omega) | (unfold y_Le; omega) | ((with_reducible refine y_RIm (by with_reducible assumption) ?_ ?_ ?_) <;> omega) | ((with_reducible refine y_RIu (by with_reducible assumption) ?_ ?_ ?_ ?_ ?_) <;> omega) | ((with_reducible refine y_DIu (by with_reducible assumption) ?_ ?_ ?_) <;> omega)) (by omega) (by omega) (by omega) (by omega) (by omega) (by omega) (by first | with_reducible assumption | omega | ((with_reducible refine y_Vl ?_ ?_) <;> omega) | (unfold y_Le; omega) | ((with_reducible refine y_RIm (by with_reducible assumption) ?_ ?_ ?_) <;> omega) | ((with_reducible refine y_RIu (by with_reducible assumption) ?_ ?_ ?_ ?_ ?_) <;> omega) | ((with_reducible refine y_DIu (by with_reducible assumption) ?_ ?_ ?_) <;> omega)) (by first | with_reducible assumption | omega | ((with_reducible refine y_Vl ?_ ?_) <;> omega) | (unfold y_Le; omega) | ((with_reducible refine y_RIm (by with_reducible assumption) ?_ ?_ ?_) <;> omega) | ((with_reducible refine y_RIu (by with_reducible assumption) ?_ ?_ ?_ ?_ ?_) <;> omega) | ((with_reducible refine y_DIu (by with_reducible assumption) ?_ ?_ ?_) <;> omega)) (by first | with_reducible assumption | omega | ((with_reducible refine y_Vl ?_ ?_) <;> omega) | (unfold y_Le; omega) | ((with_reducible refine y_RIm (by with_reducible assumption) ?_ ?_ ?_) <;> omega) | ((with_reducible refine y_RIu (by with_reducible assumption) ?_ ?_ ?_ ?_ ?_) <;> omega) | ((with_reducible refine y_DIu (by with_reducible assumption) ?_ ?_ ?_) <;> omega)) (by first | with_reducible assumption | omega | ((with_reducible refine y_Vl ?_ ?_) <;> omega) | (unfold y_Le; omega) | ((with_reducible refine y_RIm (by with_reducible assumption) ?_ ?_ ?_) <;> omega) | ((with_reducible refine y_RIu (by with_reducible assumption) ?_ ?_ ?_ ?_ ?_) <;> omega) | ((with_reducible refine y_DIu (by with_reducible assumption) ?_ ?_ ?_) <;> omega)) (by first | with_reducible assumption | omega | ((with_reducible refine y_Vl ?_ ?_) <;> omega) | (unfold y_Le; omega) | ((with_reducible refine y_RIm (by with_reducible assumption) ?_ ?_ ?_) <;> omega) | ((with_reducible refine y_RIu (by with_reducible assumption) ?_ ?_ ?_ ?_ ?_) <;> omega) | ((with_reducible refine y_DIu (by with_reducible assumption) ?_ ?_ ?_) <;> omega)) (by first | with_reducible assumption | omega | ((with_reducible refine y_Vl ?_ ?_) <;> omega) | (unfold y_Le; omega) | ((with_reducible refine y_RIm (by with_reducible assumption) ?_ ?_ ?_) <;> omega) | ((with_reducible refine y_RIu (by with_reducible assumption) ?_ ?_ ?_ ?_ ?_) <;> omega) | ((with_reducible refine y_DIu (by with_reducible assumption) ?_ ?_ ?_) <;> omega)) (by omega) (by omega) (by first | with_reducible assumption | omega | ((with_reducible refine y_Vl ?_ ?_) <;> omega) | (unfold y_Le; omega) | ((with_reducible refine y_RIm (by with_reducible assumption) ?_ ?_ ?_) <;> omega) | ((with_reducible refine y_RIu (by with_reducible assumption) ?_ ?_ ?_ ?_ ?_) <;> omega) | ((with_reducible refine y_DIu (by with_reducible assumption) ?_ ?_ ?_) <;> omega)) (by first | with_reducible assumption | omega | ((with_reducible refine y_Vl ?_ ?_) <;> omega) | (unfold y_Le; omega) | ((with_reducible refine y_RIm (by with_reducible assumption) ?_ ?_ ?_) <;> omega) | ((with_reducible refine y_RIu (by with_reducible assumption) ?_ ?_ ?_ ?_ ?_) <;> omega) | ((with_reducible refine y_DIu (by with_reducible assumption) ?_ ?_ ?_) <;> omega)) (by first | with_reducible assumption | omega | ((with_reducible refine y_Vl ?_ ?_) <;> omega) | (unfold y_Le; omega) | ((with_reducible refine y_RIm (by with_reducible assumption) ?_ ?_ ?_) <;> omega) | ((with_reducible refine y_RIu (by with_reducible assumption) ?_ ?_ ?_ ?_ ?_) <;> omega) | ((with_reducible refine y_DIu (by with_reducible assumption) ?_ ?_ ?_) <;> omega)) (by omega) (by omega) (by omega) (by omega) (by omega)) (fun r_t16 h_r_t16 => ?_)
          obtain ⟨h0_r_t16, h1_r_t16⟩ := h_r_t16
          refine ⟨?_, ?_⟩
          · (first | with_reducible assumption | omega | ((with_reducible refine y_Vl ?_ ?_) <;> omega) | (unfold y_Le; omega) | ((with_reducible refine y_RIm (by with_reducible assumption) ?_ ?_ ?_) <;> omega) | ((with_reducible refine y_RIu (by with_reducible assumption) ?_ ?_ ?_ ?_ ?_) <;> omega) | ((with_reducible refine y_DIu (by with_reducible assumption) ?_ ?_ ?_) <;> omega))
          · rcases h1_r_t16 with hz | hz
            · exact Or.inl hz
            · obtain ⟨g0_r_t16, g1_r_t16, g2_r_t16, g3_r_t16, g4_r_t16, g5_r_t16, g6_r_t16, g7_r_t16, g8_r_t16, g9_r_t16, g10_r_t16, g11_r_t16, g12_r_t16⟩ := hz
              (refine Or.inr ⟨?_, ?_, ?_, ?_, ?_, ?_, ?_, ?_, ?_, ?_, ?_, ?_, ?_⟩ <;> (first | with_reducible assumption | omega | ((with_reducible refine y_Vl ?_ ?_) <;> omega) | (unfold y_Le; omega) | ((with_reducible refine y_RIm (by with_reducible assumption) ?_ ?_ ?_) <;> omega) | ((with_reducible refine y_RIu (by with_reducible assumption) ?_ ?_ ?_ ?_ ?_) <;> omega) | ((with_reducible refine y_DIu (by with_reducible assumption) ?_ ?_ ?_) <;> omega)))
        · skip
          try have e18 := @y_cl (((l4 + v9_16) + v9_17) + (1 : Int32)) (by omega)
          try have e19 := hfr.at (Int32.toNatClampNeg (((l4 + v9_16) + v9_17) + (1 : Int32))) (by omega)
          try have e20 := e19.b
          have e21 : (1 : Int32).toInt = 1 := rfl
          have c7' := c7
          rw [← Int32.toInt_inj] at c7'
          refine y_Ok.mono (y_X9_comes_L_12 (C := C) (mn := mn) (B := B) (B2 := B2) (X0 := X0) (M0 := M0) (s0 := s0) (L := L) (l1 := 0) (l2 := 0) (l3 := l3) (l4 := 0) (l5 := l5) (l6 := 0) (l7 := 0) (l8 := 0) (g9_57 := g9_57) (by omega) (by omega) (by omega) (by omega) (by omega) (by omega) (by omega) (by omega) (by first | with_reducible assumption | omega | ((with_reducible refine y_Vl ?_ ?_) <;> omega) | (unfold y_Le; omega) | ((with_reducible refine y_RIm (by with_reducible assumption) ?_ ?_ ?_) <;> omega) | ((with_reducible refine y_RIu (by with_reducible assumption) ?_ ?_ ?_ ?_ ?_) <;> omega) | ((with_reducible refine y_DIu (by with_reducible assumption) ?_ ?_ ?_) <;> omega)) (by first | with_reducible assumption | omega | ((with_reducible refine y_Vl ?_ ?_) <;> omega) | (unfold y_Le; omega) | ((with_reducible refine y_RIm (by with_reducible assumption) ?_ ?_ ?_) <;> omega) | ((with_reducible refine y_RIu (by with_reducible assumption) ?_ ?_ ?_ ?_ ?_) <;> omega) | ((with_reducible refine y_DIu (by with_reducible assumption) ?_ ?_ ?_) <;> omega)) (by first | with_reducible assumption | omega | ((with_reducible refine y_Vl ?_ ?_) <;> omega) | (unfold y_Le; omega) | ((with_reducible refine y_RIm (by with_reducible assumption) ?_ ?_ ?_) <;> omega) | ((with_reducible refine y_RIu (by with_reducible assumption) ?_ ?_ ?_ ?_ ?_) <;> omega) | ((with_reducible refine y_DIu (by with_reducible assumption) ?_ ?_ ?_) <;> omega)) (by omega) (by omega) (by omega) (by omega) (by omega) (by omega) (by first | with_reducible assumption | omega | ((with_reducible refine y_Vl ?_ ?_) <;> omega) | (unfold y_Le; omega) | ((with_reducible refine y_RIm (by with_reducible assumption) ?_ ?_ ?_) <;> omega) | ((with_reducible refine y_RIu (by with_reducible assumption) ?_ ?_ ?_ ?_ ?_) <;> omega) | ((with_reducible refine y_DIu (by with_reducible assumption) ?_ ?_ ?_) <;> omega)) (by first | with_reducible assumption | omega | ((with_reducible refine y_Vl ?_ ?_) <;> omega) | (unfold y_Le; omega) | ((with_reducible refine y_RIm (by with_reducible assumption) ?_ ?_ ?_) <;> omega) | ((with_reducible refine y_RIu (by with_reducible assumption) ?_ ?_ ?_ ?_ ?_) <;> omega) | ((with_reducible refine y_DIu (by with_reducible assumption) ?_ ?_ ?_) <;> omega)) (by first | with_reducible assumption | omega | ((with_reducible refine y_Vl ?_ ?_) <;> omega) | (unfold y_Le; omega) | ((with_reducible refine y_RIm (by with_reducible assumption) ?_ ?_ ?_) <;> omega) | ((with_reducible refine y_RIu (by with_reducible assumption) ?_ ?_ ?_ ?_ ?_) <;> omega) | ((with_reducible refine y_DIu (by with_reducible assumption) ?_ ?_ ?_) <;> omega)) (by first | with_reducible assumption | omega | ((with_reducible refine y_Vl ?_ ?_) <;> omega) | (unfold y_Le; omega) | ((with_reducible refine y_RIm (by with_reducible assumption) ?_ ?_ ?_) <;> omega) | ((with_reducible refine y_RIu (by with_reducible assumption) ?_ ?_ ?_ ?_ ?_) <;> omega) | ((with_reducible refine y_DIu (by with_reducible assumption) ?_ ?_ ?_) <;> omega)) (by first | with_reducible assumption | omega | ((with_reducible refine y_Vl ?_ ?_) <;> omega) | (unfold y_Le; omega) | ((with_reducible refine y_RIm (by with_reducible assumption) ?_ ?_ ?_) <;> omega) | ((with_reducible refine y_RIu (by with_reducible assumption) ?_ ?_ ?_ ?_ ?_) <;> omega) | ((with_reducible refine y_DIu (by with_reducible assumption) ?_ ?_ ?_) <;> omega)) (by first | with_reducible assumption | omega | ((with_reducible refine y_Vl ?_ ?_) <;> omega) | (unfold y_Le; omega) | ((with_reducible refine y_RIm (by with_reducible assumption) ?_ ?_ ?_) <;> omega) | ((with_reducible refine y_RIu (by with_reducible assumption) ?_ ?_ ?_ ?_ ?_) <;> omega) | ((with_reducible refine y_DIu (by with_reducible assumption) ?_ ?_ ?_) <;> omega)) (by omega) (by omega) (by first | with_reducible assumption | omega | ((with_reducible refine y_Vl ?_ ?_) <;> omega) | (unfold y_Le; omega) | ((with_reducible refine y_RIm (by with_reducible assumption) ?_ ?_ ?_) <;> omega) | ((with_reducible refine y_RIu (by with_reducible assumption) ?_ ?_ ?_ ?_ ?_) <;> omega) | ((with_reducible refine y_DIu (by with_reducible assumption) ?_ ?_ ?_) <;> omega)) (by first | with_reducible assumption | omega | ((with_reducible refine y_Vl ?_ ?_) <;> omega) | (unfold y_Le; omega) | ((with_reducible refine y_RIm (by with_reducible assumption) ?_ ?_ ?_) <;> omega) | ((with_reducible refine y_RIu (by with_reducible assumption) ?_ ?_ ?_ ?_ ?_) <;> omega) | ((with_reducible refine y_DIu (by with_reducible assumption) ?_ ?_ ?_) <;> omega)) (by first | with_reducible assumption | omega | ((with_reducible refine y_Vl ?_ ?_) <;> omega) | (unfold y_Le; omega) | ((with_reducible refine y_RIm (by with_reducible assumption) ?_ ?_ ?_) <;> omega) | ((with_reducible refine y_RIu (by with_reducible assumption) ?_ ?_ ?_ ?_ ?_) <;> omega) | ((with_reducible refine y_DIu (by with_reducible assumption) ?_ ?_ ?_) <;> omega)) (by omega) (by omega) (by omega) (by omega) (by omega)) (fun r_t21 h_r_t21 => ?_)
          obtain ⟨h0_r_t21, h1_r_t21⟩ := h_r_t21
          refine ⟨?_, ?_⟩
          · (first | with_reducible assumption | omega | ((with_reducible refine y_Vl ?_ ?_) <;> omega) | (unfold y_Le; omega) | ((with_reducible refine y_RIm (by with_reducible assumption) ?_ ?_ ?_) <;> omega) | ((with_reducible refine y_RIu (by with_reducible assumption) ?_ ?_ ?_ ?_ ?_) <;> omega) | ((with_reducible refine y_DIu (by with_reducible assumption) ?_ ?_ ?_) <;> omega))
          · rcases h1_r_t21 with hz | hz
            · exact Or.inl hz
            · obtain ⟨g0_r_t21, g1_r_t21, g2_r_t21, g3_r_t21, g4_r_t21, g5_r_t21, g6_r_t21, g7_r_t21, g8_r_t21, g9_r_t21, g10_r_t21, g11_r_t21, g12_r_t21⟩ := hz
              (refine Or.inr ⟨?_, ?_, ?_, ?_, ?_, ?_, ?_, ?_, ?_, ?_, ?_, ?_, ?_⟩ <;> (first | with_reducible assumption | omega | ((with_reducible refine y_Vl ?_ ?_) <;> omega) | (unfold y_Le; omega) | ((with_reducible refine y_RIm (by with_reducible assumption) ?_ ?_ ?_) <;> omega) | ((with_reducible refine y_RIu (by with_reducible assumption) ?_ ?_ ?_ ?_ ?_) <;> omega) | ((with_reducible refine y_DIu (by with_reducible assumption) ?_ ?_ ?_) <;> omega)))
      · skip
        have e23 : (0 : Int32).toInt = 0 := rfl
        have c2' := c2
        rw [← Int32.toInt_inj] at c2'
        refine y_Ok.mono (y_X9_comes_L_12 (C := C) (mn := mn) (B := B) (B2 := B2) (X0 := X0) (M0 := M0) (s0 := s0) (L := L) (l1 := 0) (l2 := 0) (l3 := l3) (l4 := 0) (l5 := l5) (l6 := 0) (l7 := 0) (l8 := 0) (g9_57 := g9_57) (by omega) (by omega) (by omega) (by omega) (by omega) (by omega) (by omega) (by omega) (by first | with_reducible assumption | omega | ((with_reducible refine y_Vl ?_ ?_) <;> omega) | (unfold y_Le; omega) | ((with_reducible refine y_RIm (by with_reducible assumption) ?_ ?_ ?_) <;> omega) | ((with_reducible refine y_RIu (by with_reducible assumption) ?_ ?_ ?_ ?_ ?_) <;> omega) | ((with_reducible refine y_DIu (by with_reducible assumption) ?_ ?_ ?_) <;> omega)) (by first | with_reducible assumption | omega | ((with_reducible refine y_Vl ?_ ?_) <;> omega) | (unfold y_Le; omega) | ((with_reducible refine y_RIm (by with_reducible assumption) ?_ ?_ ?_) <;> omega) | ((with_reducible refine y_RIu (by with_reducible assumption) ?_ ?_ ?_ ?_ ?_) <;> omega) | ((with_reducible refine y_DIu (by with_reducible assumption) ?_ ?_ ?_) <;> omega)) (by first | with_reducible assumption | omega | ((with_reducible refine y_Vl ?_ ?_) <;> omega) | (unfold y_Le; omega) | ((with_reducible refine y_RIm (by with_reducible assumption) ?_ ?_ ?_) <;> omega) | ((with_reducible refine y_RIu (by with_reducible assumption) ?_ ?_ ?_ ?_ ?_) <;> omega) | ((with_reducible refine y_DIu (by with_reducible assumption) ?_ ?_ ?_) <;> omega)) (by omega) (by omega) (by omega) (by omega) (by omega) (by omega) (by first | with_reducible assumption | omega | ((with_reducible refine y_Vl ?_ ?_) <;> omega) | (unfold y_Le; omega) | ((with_reducible refine y_RIm (by with_reducible assumption) ?_ ?_ ?_) <;> omega) | ((with_reducible refine y_RIu (by with_reducible assumption) ?_ ?_ ?_ ?_ ?_) <;> omega) | ((with_reducible refine y_DIu (by with_reducible assumption) ?_ ?_ ?_) <;> omega)) (by first | with_reducible assumption | omega | ((with_reducible refine y_Vl ?_ ?_) <;> omega) | (unfold y_Le; omega) | ((with_reducible refine y_RIm (by with_reducible assumption) ?_ ?_ ?_) <;> omega) | ((with_reducible refine y_RIu (by with_reducible assumption) ?_ ?_ ?_ ?_ ?_) <;> omega) | ((with_reducible refine y_DIu (by with_reducible assumption) ?_ ?_ ?_) <;> omega)) (by first | with_reducible assumption | omega | ((with_reducible refine y_Vl ?_ ?_) <;> omega) | (unfold y_Le; omega) | ((with_reducible refine y_RIm (by with_reducible assumption) ?_ ?_ ?_) <;> omega) | ((with_reducible refine y_RIu (by with_reducible assumption) ?_ ?_ ?_ ?_ ?_) <;> omega) | ((with_reducible refine y_DIu (by with_reducible assumption) ?_ ?_ ?_) <;> omega)) (by first | with_reducible assumption | omega | ((with_reducible refine y_Vl ?_ ?_) <;> omega) | (unfold y_Le; omega) | ((with_reducible refine y_RIm (by with_reducible assumption) ?_ ?_ ?_) <;> omega) | ((with_reducible refine y_RIu (by with_reducible assumption) ?_ ?_ ?_ ?_ ?_) <;> omega) | ((with_reducible refine y_DIu (by with_reducible assumption) ?_ ?_ ?_) <;> omega)) (by first | with_reducible assumption | omega | ((with_reducible refine y_Vl ?_ ?_) <;> omega) | (unfold y_Le; omega) | ((with_reducible refine y_RIm (by with_reducible assumption) ?_ ?_ ?_) <;> omega) | ((with_reducible refine y_RIu (by with_reducible assumption) ?_ ?_ ?_ ?_ ?_) <;> omega) | ((with_reducible refine y_DIu (by with_reducible assumption) ?_ ?_ ?_) <;> omega)) (by first | with_reducible assumption | omega | ((with_reducible refine y_Vl ?_ ?_) <;> omega) | (unfold y_Le; omega) | ((with_reducible refine y_RIm (by with_reducible assumption) ?_ ?_ ?_) <;> omega) | ((with_reducible refine y_RIu (by with_reducible assumption) ?_ ?_ ?_ ?_ ?_) <;> omega) | ((with_reducible refine y_DIu (by with_reducible assumption) ?_ ?_ ?_) <;> omega)) (by omega) (by omega) (by first | with_reducible assumption | omega | ((with_reducible refine y_Vl ?_ ?_) <;> omega) | (unfold y_Le; omega) | ((with_reducible refine y_RIm (by with_reducible assumption) ?_ ?_ ?_) <;> omega) | ((with_reducible refine y_RIu (by with_reducible assumption) ?_ ?_ ?_ ?_ ?_) <;> omega) | ((with_reducible refine y_DIu (by with_reducible assumption) ?_ ?_ ?_) <;> omega)) (by first | with_reducible assumption | omega | ((with_reducible refine y_Vl ?_ ?_) <;> omega) | (unfold y_Le; omega) | ((with_reducible refine y_RIm (by with_reducible assumption) ?_ ?_ ?_) <;> omega) | ((with_reducible refine y_RIu (by with_reducible assumption) ?_ ?_ ?_ ?_ ?_) <;> omega) | ((with_reducible refine y_DIu (by with_reducible assumption) ?_ ?_ ?_) <;> omega)) (by first | with_reducible assumption | omega | ((with_reducible refine y_Vl ?_ ?_) <;> omega) | (unfold y_Le; omega) | ((with_reducible refine y_RIm (by with_reducible assumption) ?_ ?_ ?_) <;> omega) | ((with_reducible refine y_RIu (by with_reducible assumption) ?_ ?_ ?_ ?_ ?_) <;> omega) | ((with_reducible refine y_DIu (by with_reducible assumption) ?_ ?_ ?_) <;> omega)) (by omega) (by omega) (by omega) (by omega) (by omega)) (fun r_t23 h_r_t23 => ?_)
        obtain ⟨h0_r_t23, h1_r_t23⟩ := h_r_t23
        refine ⟨?_, ?_⟩
        · (first | with_reducible assumption | omega | ((with_reducible refine y_Vl ?_ ?_) <;> omega) | (unfold y_Le; omega) | ((with_reducible refine y_RIm (by with_reducible assumption) ?_ ?_ ?_) <;> omega) | ((with_reducible refine y_RIu (by with_reducible assumption) ?_ ?_ ?_ ?_ ?_) <;> omega) | ((with_reducible refine y_DIu (by with_reducible assumption) ?_ ?_ ?_) <;> omega))
        · rcases h1_r_t23 with hz | hz
          · exact Or.inl hz
          · obtain ⟨g0_r_t23, g1_r_t23, g2_r_t23, g3_r_t23, g4_r_t23, g5_r_t23, g6_r_t23, g7_r_t23, g8_r_t23, g9_r_t23, g10_r_t23, g11_r_t23, g12_r_t23⟩ := hz
            (refine Or.inr ⟨?_, ?_, ?_, ?_, ?_, ?_, ?_, ?_, ?_, ?_, ?_, ?_, ?_⟩ <;> (first | with_reducible assumption | omega | ((with_reducible refine y_Vl ?_ ?_) <;> omega) | (unfold y_Le; omega) | ((with_reducible refine y_RIm (by with_reducible assumption) ?_ ?_ ?_) <;> omega) | ((with_reducible refine y_RIu (by with_reducible assumption) ?_ ?_ ?_ ?_ ?_) <;> omega) | ((with_reducible refine y_DIu (by with_reducible assumption) ?_ ?_ ?_) <;> omega)))
    · skip
      have c1' := c1
      rw [Int32.le_iff_toInt_le] at c1'
      try have e25 := @y_add l4 v9_16 (by omega) (by omega)
      try have e26 := @y_add (l4 + v9_16) l6 (by omega) (by omega)
      refine y_gd (y_gdI (by omega) (by omega)) ?_
      refine y_gd (y_gdI (by omega) (by omega)) ?_
      try have e27 := @y_cl ((l4 + v9_16) + l6) (by omega)
      try have e28 := hfr.at (Int32.toNatClampNeg ((l4 + v9_16) + l6)) (by omega)
      try have e29 := e28.b
      try have e30 := @y_cl l6 (by omega)
      try have e31 := k10.at (Int32.toNatClampNeg l6) (by omega)
      try have e32 := e31.b
      refine y_bi (y_X9_joined (by first | with_reducible assumption | omega | ((with_reducible refine y_Vl ?_ ?_) <;> omega) | (unfold y_Le; omega) | ((with_reducible refine y_RIm (by with_reducible assumption) ?_ ?_ ?_) <;> omega) | ((with_reducible refine y_RIu (by with_reducible assumption) ?_ ?_ ?_ ?_ ?_) <;> omega) | ((with_reducible refine y_DIu (by with_reducible assumption) ?_ ?_ ?_) <;> omega)) (by first | with_reducible assumption | omega | ((with_reducible refine y_Vl ?_ ?_) <;> omega) | (unfold y_Le; omega) | ((with_reducible refine y_RIm (by with_reducible assumption) ?_ ?_ ?_) <;> omega) | ((with_reducible refine y_RIu (by with_reducible assumption) ?_ ?_ ?_ ?_ ?_) <;> omega) | ((with_reducible refine y_DIu (by with_reducible assumption) ?_ ?_ ?_) <;> omega)) (by first | with_reducible assumption | omega | ((with_reducible refine y_Vl ?_ ?_) <;> omega) | (unfold y_Le; omega) | ((with_reducible refine y_RIm (by with_reducible assumption) ?_ ?_ ?_) <;> omega) | ((with_reducible refine y_RIu (by with_reducible assumption) ?_ ?_ ?_ ?_ ?_) <;> omega) | ((with_reducible refine y_DIu (by with_reducible assumption) ?_ ?_ ?_) <;> omega))) (fun r_54 h_r_54 => ?_)
      obtain ⟨h0_r_54, h1_r_54, h2_r_54⟩ := h_r_54
      refine y_if (fun c33 => ?_) (fun c33 => ?_)
      · skip
        have e34 : (0 : Int32).toInt = 0 := rfl
        have c33' := c33
        rw [Int32.le_iff_toInt_le] at c33'
        have e35 := h0_r_54.resolve_left (by omega)
        have e36 := h1_r_54.resolve_left (by omega)
        refine y_gd (y_gdI (by omega) (by omega)) ?_
        refine y_if (fun c37 => ?_) (fun c37 => ?_)
        · skip
          have c37' := c37
          rw [← Int32.toInt_inj] at c37'
          rw [f_X9_comes_L]
          refine y_in (by decide) ?_
          refine y_in (by decide) ?_
          refine y_in (by decide) ?_
          refine y_in (by decide) ?_
          refine y_in (by decide) ?_
          refine y_in (by decide) ?_
          refine y_in (by decide) ?_
          refine y_in (by decide) ?_
          refine y_in (by decide) ?_
          refine y_in (by decide) ?_
          refine y_in (by decide) ?_
          refine y_ip rfl ?_
          try have e38 := @y_addL l6 (1 : Int32) (1) rfl (by omega) (by omega)
          exact ih (l1 := 0) (l2 := 0) (l3 := l3) (l4 := l4) (l5 := l5) (l6 := (l6 + 1)) (l7 := 0) (l8 := 0) (g9_57 := g9_57) (by first | with_reducible assumption | omega | ((with_reducible refine y_Vl ?_ ?_) <;> omega) | (unfold y_Le; omega) | ((with_reducible refine y_RIm (by with_reducible assumption) ?_ ?_ ?_) <;> omega) | ((with_reducible refine y_RIu (by with_reducible assumption) ?_ ?_ ?_ ?_ ?_) <;> omega) | ((with_reducible refine y_DIu (by with_reducible assumption) ?_ ?_ ?_) <;> omega)) (by first | with_reducible assumption | omega | ((with_reducible refine y_Vl ?_ ?_) <;> omega) | (unfold y_Le; omega) | ((with_reducible refine y_RIm (by with_reducible assumption) ?_ ?_ ?_) <;> omega) | ((with_reducible refine y_RIu (by with_reducible assumption) ?_ ?_ ?_ ?_ ?_) <;> omega) | ((with_reducible refine y_DIu (by with_reducible assumption) ?_ ?_ ?_) <;> omega)) (by omega) (by omega) (by omega) (by omega) (by omega) (by omega) (by omega) (by omega) (by omega) (by omega)
        · skip
          have c37' := c37
          rw [← Int32.toInt_inj] at c37'
          refine y_gd (y_gdI (by omega) (by omega)) ?_
          have e39 : (1 : Int32).toInt = 1 := rfl
          try have e40 := @y_M_upd g9_57 (Int32.toNatClampNeg ((l4 + v9_16) + l6)) r_54 L (by omega)
          try have e41 := (hfr.at (Int32.toNatClampNeg ((l4 + v9_16) + l6)) (by omega)).rk
          try have e42 : y_H C v9_48.toInt v9_17.toInt (upd g9_57 (Int32.toNatClampNeg ((l4 + v9_16) + l6)) r_54) := y_H_upd hH hat (by omega) (by omega)
          try have e43 : y_AV 60600 (upd g9_57 (Int32.toNatClampNeg ((l4 + v9_16) + l6)) r_54) := y_AV_upd hfr (by first | with_reducible assumption | omega | ((with_reducible refine y_Vl ?_ ?_) <;> omega) | (unfold y_Le; omega) | ((with_reducible refine y_RIm (by with_reducible assumption) ?_ ?_ ?_) <;> omega) | ((with_reducible refine y_RIu (by with_reducible assumption) ?_ ?_ ?_ ?_ ?_) <;> omega) | ((with_reducible refine y_DIu (by with_reducible assumption) ?_ ?_ ?_) <;> omega))
          rw [f_X9_comes_L]
          refine y_in (by decide) ?_
          refine y_in (by decide) ?_
          refine y_in (by decide) ?_
          refine y_in (by decide) ?_
          refine y_in (by decide) ?_
          refine y_in (by decide) ?_
          refine y_in (by decide) ?_
          refine y_in (by decide) ?_
          refine y_in (by decide) ?_
          refine y_in (by decide) ?_
          refine y_in (by decide) ?_
          refine y_ip rfl ?_
          try have e44 := @y_addL l6 (1 : Int32) (1) rfl (by omega) (by omega)
          exact ih (l1 := 0) (l2 := 0) (l3 := l3) (l4 := l4) (l5 := 1) (l6 := (l6 + 1)) (l7 := 0) (l8 := 0) (g9_57 := ((upd g9_57 (Int32.toNatClampNeg ((l4 + v9_16) + l6)) r_54))) (by first | with_reducible assumption | omega | ((with_reducible refine y_Vl ?_ ?_) <;> omega) | (unfold y_Le; omega) | ((with_reducible refine y_RIm (by with_reducible assumption) ?_ ?_ ?_) <;> omega) | ((with_reducible refine y_RIu (by with_reducible assumption) ?_ ?_ ?_ ?_ ?_) <;> omega) | ((with_reducible refine y_DIu (by with_reducible assumption) ?_ ?_ ?_) <;> omega)) (by first | with_reducible assumption | omega | ((with_reducible refine y_Vl ?_ ?_) <;> omega) | (unfold y_Le; omega) | ((with_reducible refine y_RIm (by with_reducible assumption) ?_ ?_ ?_) <;> omega) | ((with_reducible refine y_RIu (by with_reducible assumption) ?_ ?_ ?_ ?_ ?_) <;> omega) | ((with_reducible refine y_DIu (by with_reducible assumption) ?_ ?_ ?_) <;> omega)) (by omega) (by omega) (by omega) (by omega) (by omega) (by omega) (by omega) (by omega) (by omega) (by omega)
      · skip
        have e45 : (0 : Int32).toInt = 0 := rfl
        have c33' := c33
        rw [Int32.le_iff_toInt_le] at c33'
        refine y_some ?_
        try dsimp only
        refine ⟨?_, ?_⟩
        · (first | with_reducible assumption | omega | ((with_reducible refine y_Vl ?_ ?_) <;> omega) | (unfold y_Le; omega) | ((with_reducible refine y_RIm (by with_reducible assumption) ?_ ?_ ?_) <;> omega) | ((with_reducible refine y_RIu (by with_reducible assumption) ?_ ?_ ?_ ?_ ?_) <;> omega) | ((with_reducible refine y_DIu (by with_reducible assumption) ?_ ?_ ?_) <;> omega))
        · exact Or.inl rfl
theorem y_X9_comes_L_10 {v9_16 : Int32} {v9_17 : Int32} {v9_35 : Int32} {v9_36 : Int32} {v9_54 : Int32} {g9_4 : Nat → Int32} {g9_5 : Nat → Int32} {g9_33 : Nat → Int32} {g9_34 : Nat → Int32} {v9_48 : Int32} {v9_55 : Int32} {g9_43 : Nat → Int32} {g9_44 : Nat → Int32} {g9_45 : Nat → Int32} {g9_46 : Nat → Int32} {g9_47 : Nat → Int32} {g9_53 : Nat → Int32} {C : Nat} {mn B B2 X0 M0 : Int} {s0 L : Nat} {l1 : Int32} {l2 : Int32} {l3 : Int32} {l4 : Int32} {l5 : Int32} {l6 : Int32} {l7 : Int32} {l8 : Int32} {g9_57 : Nat → Int32} (k0 : 0 ≤ v9_16.toInt) (k1 : v9_16.toInt ≤ 200) (k2 : 0 ≤ v9_17.toInt) (k3 : v9_17.toInt ≤ 200) (k4 : 0 ≤ v9_35.toInt) (k5 : v9_35.toInt ≤ v9_17.toInt) (k6 : 0 ≤ v9_36.toInt) (k7 : v9_36.toInt ≤ 1) (k8 : y_Up g9_4) (k9 : y_AV 202 g9_33) (k10 : y_AV 202 g9_34) (hC : (C : Int) = v9_16.toInt + v9_17.toInt) (k12 : 0 ≤ v9_48.toInt) (k13 : 0 ≤ v9_54.toInt) (k14 : v9_54.toInt < 20010) (k15 : B ≤ B2) (k16 : mn ≤ 999) (hL : L = 60600) (hfit : y_Fit v9_48.toInt C) (hsat : y_RI v9_48.toInt 0 mn g9_43) (hctx : y_RI v9_48.toInt 0 B g9_44) (hnxt : y_DI v9_48.toInt g9_45) (hhead : y_RI (mn + 1) (-1) (v9_48.toInt - 1) g9_46) (hw0 : 0 ≤ v9_55.toInt) (hwc : v9_55.toInt ≤ y_Ct v9_48.toInt.toNat g9_47) (hque : y_Q v9_54.toInt v9_55.toInt v9_48.toInt g9_53) (hH : y_H C v9_48.toInt v9_17.toInt g9_57) (hfr : y_AV 60600 g9_57) (k28 : X0 ≤ B) (k29 : 0 ≤ l3.toInt) (k30 : l3.toInt < v9_48.toInt) (k31 : y_M L g9_57 ≤ M0) (k32 : l5.toInt = 0 ∨ y_M L g9_57 < M0) (hat : Int32.toNatClampNeg l4 = s0 * (C + 2)) (k34 : 0 ≤ l4.toInt) (k35 : l4.toInt + v9_16.toInt + v9_17.toInt + 2 ≤ 60600) (k36 : 0 ≤ l6.toInt) (k37 : l6.toInt ≤ v9_35.toInt) : y_Ok (f_X9_comes_L v9_16 v9_17 v9_35 v9_36 v9_54 g9_4 g9_5 g9_33 g9_34 v9_48 v9_55 g9_43 g9_44 g9_45 g9_46 g9_47 g9_53 (10, l1, l2, l3, l4, l5, l6, l7, l8, g9_57)) (fun r => (y_AV 60600 r.2.2.2.2.2.2.2.2.2) ∧ (r.1.toInt = 0 ∨ ((v9_48.toInt ≤ r.2.1.toInt) ∧ (r.2.1.toInt ≤ v9_48.toInt + 1) ∧ (y_Fit r.2.1.toInt C) ∧ (y_RI r.2.1.toInt 0 mn r.2.2.2.1) ∧ (y_RI r.2.1.toInt 0 B2 r.2.2.2.2.1) ∧ (y_DI r.2.1.toInt r.2.2.2.2.2.1) ∧ (y_RI (mn + 1) (-1) (r.2.1.toInt - 1) r.2.2.2.2.2.2.1) ∧ (0 ≤ r.2.2.1.toInt) ∧ (r.2.2.1.toInt ≤ y_Ct r.2.1.toInt.toNat r.2.2.2.2.2.2.2.1) ∧ (y_Q v9_54.toInt r.2.2.1.toInt r.2.1.toInt r.2.2.2.2.2.2.2.2.1) ∧ (y_H C r.2.1.toInt v9_17.toInt r.2.2.2.2.2.2.2.2.2) ∧ (y_Le v9_48.toInt M0 v9_55.toInt r.2.1.toInt (y_M L r.2.2.2.2.2.2.2.2.2) r.2.2.1.toInt) ∧ (r.2.1.toInt = v9_48.toInt + 1 ∨ X0 ≤ B)))) := y_X9_comes_L_10_i (C := C) (mn := mn) (B := B) (B2 := B2) (X0 := X0) (M0 := M0) (s0 := s0) (L := L) k0 k1 k2 k3 k4 k5 k6 k7 k8 k9 k10 hC k12 k13 k14 k15 k16 hL hfit hsat hctx hnxt hhead hw0 hwc hque k28 (v9_35.toInt - l6.toInt + 1).toNat hH hfr k29 k30 k31 k32 hat k34 k35 k36 k37 (by omega)
set_option maxHeartbeats 4000000 in
theorem y_X9_comes_L_5_i {v9_16 : Int32} {v9_17 : Int32} {v9_35 : Int32} {v9_36 : Int32} {v9_54 : Int32} {g9_4 : Nat → Int32} {g9_5 : Nat → Int32} {g9_33 : Nat → Int32} {g9_34 : Nat → Int32} {v9_48 : Int32} {v9_55 : Int32} {g9_43 : Nat → Int32} {g9_44 : Nat → Int32} {g9_45 : Nat → Int32} {g9_46 : Nat → Int32} {g9_47 : Nat → Int32} {g9_53 : Nat → Int32} {C : Nat} {mn B B2 X0 M0 : Int} {s0 L : Nat} (k0 : 0 ≤ v9_16.toInt) (k1 : v9_16.toInt ≤ 200) (k2 : 0 ≤ v9_17.toInt) (k3 : v9_17.toInt ≤ 200) (k4 : 0 ≤ v9_35.toInt) (k5 : v9_35.toInt ≤ v9_17.toInt) (k6 : 0 ≤ v9_36.toInt) (k7 : v9_36.toInt ≤ 1) (k8 : y_Up g9_4) (k9 : y_AV 202 g9_33) (k10 : y_AV 202 g9_34) (hC : (C : Int) = v9_16.toInt + v9_17.toInt) (k12 : 0 ≤ v9_48.toInt) (k13 : 0 ≤ v9_54.toInt) (k14 : v9_54.toInt < 20010) (k15 : B ≤ B2) (k16 : mn ≤ 999) (hL : L = 60600) (hfit : y_Fit v9_48.toInt C) (hsat : y_RI v9_48.toInt 0 mn g9_43) (hctx : y_RI v9_48.toInt 0 B g9_44) (hnxt : y_DI v9_48.toInt g9_45) (hhead : y_RI (mn + 1) (-1) (v9_48.toInt - 1) g9_46) (hw0 : 0 ≤ v9_55.toInt) (hwc : v9_55.toInt ≤ y_Ct v9_48.toInt.toNat g9_47) (hque : y_Q v9_54.toInt v9_55.toInt v9_48.toInt g9_53) (k28 : X0 ≤ B) : ∀ (m : Nat) {l1 : Int32} {l2 : Int32} {l3 : Int32} {l4 : Int32} {l5 : Int32} {l6 : Int32} {l7 : Int32} {l8 : Int32} {g9_57 : Nat → Int32}, (y_H C v9_48.toInt v9_17.toInt g9_57) → (y_AV 60600 g9_57) → (0 ≤ l3.toInt) → (l3.toInt < v9_48.toInt) → (y_M L g9_57 ≤ M0) → (l5.toInt = 0 ∨ y_M L g9_57 < M0) → (Int32.toNatClampNeg l4 = s0 * (C + 2)) → (0 ≤ l4.toInt) → (l4.toInt + v9_16.toInt + v9_17.toInt + 2 ≤ 60600) → (0 ≤ l6.toInt) → (l6.toInt ≤ v9_16.toInt) → v9_16.toInt - l6.toInt < m → y_Ok (f_X9_comes_L v9_16 v9_17 v9_35 v9_36 v9_54 g9_4 g9_5 g9_33 g9_34 v9_48 v9_55 g9_43 g9_44 g9_45 g9_46 g9_47 g9_53 (5, l1, l2, l3, l4, l5, l6, l7, l8, g9_57)) (fun r => (y_AV 60600 r.2.2.2.2.2.2.2.2.2) ∧ (r.1.toInt = 0 ∨ ((v9_48.toInt ≤ r.2.1.toInt) ∧ (r.2.1.toInt ≤ v9_48.toInt + 1) ∧ (y_Fit r.2.1.toInt C) ∧ (y_RI r.2.1.toInt 0 mn r.2.2.2.1) ∧ (y_RI r.2.1.toInt 0 B2 r.2.2.2.2.1) ∧ (y_DI r.2.1.toInt r.2.2.2.2.2.1) ∧ (y_RI (mn + 1) (-1) (r.2.1.toInt - 1) r.2.2.2.2.2.2.1) ∧ (0 ≤ r.2.2.1.toInt) ∧ (r.2.2.1.toInt ≤ y_Ct r.2.1.toInt.toNat r.2.2.2.2.2.2.2.1) ∧ (y_Q v9_54.toInt r.2.2.1.toInt r.2.1.toInt r.2.2.2.2.2.2.2.2.1) ∧ (y_H C r.2.1.toInt v9_17.toInt r.2.2.2.2.2.2.2.2.2) ∧ (y_Le v9_48.toInt M0 v9_55.toInt r.2.1.toInt (y_M L r.2.2.2.2.2.2.2.2.2) r.2.2.1.toInt) ∧ (r.2.1.toInt = v9_48.toInt + 1 ∨ X0 ≤ B)))) := by
  intro m
  induction m with
  | zero => intro l1 l2 l3 l4 l5 l6 l7 l8 g9_57 hH hfr k29 k30 k31 k32 hat k34 k35 k36 k37 hm; exfalso; omega
  | succ m ih =>
    intro l1 l2 l3 l4 l5 l6 l7 l8 g9_57 hH hfr k29 k30 k31 k32 hat k34 k35 k36 k37 hm
    have hle := hfit.le (by omega)
    have hcl4 := @y_cl l4 (by omega)
    rw [f_X9_comes_L]
    refine y_in (by decide) ?_
    refine y_in (by decide) ?_
    refine y_in (by decide) ?_
    refine y_in (by decide) ?_
    refine y_in (by decide) ?_
    refine y_ip rfl ?_
    refine y_if (fun c1 => ?_) (fun c1 => ?_)
    · skip
      have c1' := c1
      rw [Int32.le_iff_toInt_le] at c1'
      have e2 : (0 : Int32).toInt = 0 := rfl
      refine y_Ok.mono (y_X9_comes_L_10 (C := C) (mn := mn) (B := B) (B2 := B2) (X0 := X0) (M0 := M0) (s0 := s0) (L := L) (l1 := 0) (l2 := 0) (l3 := l3) (l4 := l4) (l5 := l5) (l6 := 0) (l7 := 0) (l8 := 0) (g9_57 := g9_57) (by omega) (by omega) (by omega) (by omega) (by omega) (by omega) (by omega) (by omega) (by first | with_reducible assumption | omega | ((with_reducible refine y_Vl ?_ ?_) <;> omega) | (unfold y_Le; omega) | ((with_reducible refine y_RIm (by with_reducible assumption) ?_ ?_ ?_) <;> omega) | ((with_reducible refine y_RIu (by with_reducible assumption) ?_ ?_ ?_ ?_ ?_) <;> omega) | ((with_reducible refine y_DIu (by with_reducible assumption) ?_ ?_ ?_) <;> omega)) (by first | with_reducible assumption | omega | ((with_reducible refine y_Vl ?_ ?_) <;> omega) | (unfold y_Le; omega) | ((with_reducible refine y_RIm (by with_reducible assumption) ?_ ?_ ?_) <;> omega) | ((with_reducible refine y_RIu (by with_reducible assumption) ?_ ?_ ?_ ?_ ?_) <;> omega) | ((with_reducible refine y_DIu (by with_reducible assumption) ?_ ?_ ?_) <;> omega)) (by first | with_reducible assumption | omega | ((with_reducible refine y_Vl ?_ ?_) <;> omega) | (unfold y_Le; omega) | ((with_reducible refine y_RIm (by with_reducible assumption) ?_ ?_ ?_) <;> omega) | ((with_reducible refine y_RIu (by with_reducible assumption) ?_ ?_ ?_ ?_ ?_) <;> omega) | ((with_reducible refine y_DIu (by with_reducible assumption) ?_ ?_ ?_) <;> omega)) (by omega) (by omega) (by omega) (by omega) (by omega) (by omega) (by first | with_reducible assumption | omega | ((with_reducible refine y_Vl ?_ ?_) <;> omega) | (unfold y_Le; omega) | ((with_reducible refine y_RIm (by with_reducible assumption) ?_ ?_ ?_) <;> omega) | ((with_reducible refine y_RIu (by with_reducible assumption) ?_ ?_ ?_ ?_ ?_) <;> omega) | ((with_reducible refine y_DIu (by with_reducible assumption) ?_ ?_ ?_) <;> omega)) (by first | with_reducible assumption | omega | ((with_reducible refine y_Vl ?_ ?_) <;> omega) | (unfold y_Le; omega) | ((with_reducible refine y_RIm (by with_reducible assumption) ?_ ?_ ?_) <;> omega) | ((with_reducible refine y_RIu (by with_reducible assumption) ?_ ?_ ?_ ?_ ?_) <;> omega) | ((with_reducible refine y_DIu (by with_reducible assumption) ?_ ?_ ?_) <;> omega)) (by first | with_reducible assumption | omega | ((with_reducible refine y_Vl ?_ ?_) <;> omega) | (unfold y_Le; omega) | ((with_reducible refine y_RIm (by with_reducible assumption) ?_ ?_ ?_) <;> omega) | ((with_reducible refine y_RIu (by with_reducible assumption) ?_ ?_ ?_ ?_ ?_) <;> omega) | ((with_reducible refine y_DIu (by with_reducible assumption) ?_ ?_ ?_) <;> omega)) (by first | with_reducible assumption | omega | ((with_reducible refine y_Vl ?_ ?_) <;> omega) | (unfold y_Le; omega) | ((with_reducible refine y_RIm (by with_reducible assumption) ?_ ?_ ?_) <;> omega) | ((with_reducible refine y_RIu (by with_reducible assumption) ?_ ?_ ?_ ?_ ?_) <;> omega) | ((with_reducible refine y_DIu (by with_reducible assumption) ?_ ?_ ?_) <;> omega)) (by first | with_reducible assumption | omega | ((with_reducible refine y_Vl ?_ ?_) <;> omega) | (unfold y_Le; omega) | ((with_reducible refine y_RIm (by with_reducible assumption) ?_ ?_ ?_) <;> omega) | ((with_reducible refine y_RIu (by with_reducible assumption) ?_ ?_ ?_ ?_ ?_) <;> omega) | ((with_reducible refine y_DIu (by with_reducible assumption) ?_ ?_ ?_) <;> omega)) (by first | with_reducible assumption | omega | ((with_reducible refine y_Vl ?_ ?_) <;> omega) | (unfold y_Le; omega) | ((with_reducible refine y_RIm (by with_reducible assumption) ?_ ?_ ?_) <;> omega) | ((with_reducible refine y_RIu (by with_reducible assumption) ?_ ?_ ?_ ?_ ?_) <;> omega) | ((with_reducible refine y_DIu (by with_reducible assumption) ?_ ?_ ?_) <;> omega)) (by omega) (by omega) (by first | with_reducible assumption | omega | ((with_reducible refine y_Vl ?_ ?_) <;> omega) | (unfold y_Le; omega) | ((with_reducible refine y_RIm (by with_reducible assumption) ?_ ?_ ?_) <;> omega) | ((with_reducible refine y_RIu (by with_reducible assumption) ?_ ?_ ?_ ?_ ?_) <;> omega) | ((with_reducible refine y_DIu (by with_reducible assumption) ?_ ?_ ?_) <;> omega)) (by first | with_reducible assumption | omega | ((with_reducible refine y_Vl ?_ ?_) <;> omega) | (unfold y_Le; omega) | ((with_reducible refine y_RIm (by with_reducible assumption) ?_ ?_ ?_) <;> omega) | ((with_reducible refine y_RIu (by with_reducible assumption) ?_ ?_ ?_ ?_ ?_) <;> omega) | ((with_reducible refine y_DIu (by with_reducible assumption) ?_ ?_ ?_) <;> omega)) (by first | with_reducible assumption | omega | ((with_reducible refine y_Vl ?_ ?_) <;> omega) | (unfold y_Le; omega) | ((with_reducible refine y_RIm (by with_reducible assumption) ?_ ?_ ?_) <;> omega) | ((with_reducible refine y_RIu (by with_reducible assumption) ?_ ?_ ?_ ?_ ?_) <;> omega) | ((with_reducible refine y_DIu (by with_reducible assumption) ?_ ?_ ?_) <;> omega)) (by omega) (by omega) (by omega) (by omega) (by omega) (by omega) (by omega) (by omega) (by omega) (by omega)) (fun r_t2 h_r_t2 => ?_)
      obtain ⟨h0_r_t2, h1_r_t2⟩ := h_r_t2
      refine ⟨?_, ?_⟩
      · (first | with_reducible assumption | omega | ((with_reducible refine y_Vl ?_ ?_) <;> omega) | (unfold y_Le; omega) | ((with_reducible refine y_RIm (by with_reducible assumption) ?_ ?_ ?_) <;> omega) | ((with_reducible refine y_RIu (by with_reducible assumption) ?_ ?_ ?_ ?_ ?_) <;> omega) | ((with_reducible refine y_DIu (by with_reducible assumption) ?_ ?_ ?_) <;> omega))
      · rcases h1_r_t2 with hz | hz
        · exact Or.inl hz
        · obtain ⟨g0_r_t2, g1_r_t2, g2_r_t2, g3_r_t2, g4_r_t2, g5_r_t2, g6_r_t2, g7_r_t2, g8_r_t2, g9_r_t2, g10_r_t2, g11_r_t2, g12_r_t2⟩ := hz
          (refine Or.inr ⟨?_, ?_, ?_, ?_, ?_, ?_, ?_, ?_, ?_, ?_, ?_, ?_, ?_⟩ <;> (first | with_reducible assumption | omega | ((with_reducible refine y_Vl ?_ ?_) <;> omega) | (unfold y_Le; omega) | ((with_reducible refine y_RIm (by with_reducible assumption) ?_ ?_ ?_) <;> omega) | ((with_reducible refine y_RIu (by with_reducible assumption) ?_ ?_ ?_ ?_ ?_) <;> omega) | ((with_reducible refine y_DIu (by with_reducible assumption) ?_ ?_ ?_) <;> omega)))
    · skip
      have c1' := c1
      rw [Int32.le_iff_toInt_le] at c1'
      try have e4 := @y_add l4 l6 (by omega) (by omega)
      refine y_gd (y_gdI (by omega) (by omega)) ?_
      refine y_if (fun c5 => ?_) (fun c5 => ?_)
      · skip
        try have e6 := @y_cl (l4 + l6) (by omega)
        try have e7 := hfr.at (Int32.toNatClampNeg (l4 + l6)) (by omega)
        try have e8 := e7.b
        have e9 : (3 : Int32).toInt = 3 := rfl
        have c5' := c5
        rw [← Int32.toInt_inj] at c5'
        have e10 : (0 : Int32).toInt = 0 := rfl
        rw [f_X9_comes_L]
        refine y_in (by decide) ?_
        refine y_in (by decide) ?_
        refine y_in (by decide) ?_
        refine y_in (by decide) ?_
        refine y_in (by decide) ?_
        refine y_in (by decide) ?_
        refine y_ip rfl ?_
        refine y_if (fun c11 => ?_) (fun c11 => ?_)
        · skip
          have e12 : (7 : Int32).toInt = 7 := rfl
          have c11' := c11
          rw [← Int32.toInt_inj] at c11'
          refine y_if (fun c13 => ?_) (fun c13 => ?_)
          · skip
            have c13' := c13
            rw [← Int32.toInt_inj] at c13'
            rw [f_X9_comes_L]
            refine y_in (by decide) ?_
            refine y_in (by decide) ?_
            refine y_in (by decide) ?_
            refine y_in (by decide) ?_
            refine y_in (by decide) ?_
            refine y_in (by decide) ?_
            refine y_in (by decide) ?_
            refine y_in (by decide) ?_
            refine y_ip rfl ?_
            refine y_gd (y_gdI (by omega) (by omega)) ?_
            try have e14 := @y_M_upd g9_57 (Int32.toNatClampNeg (l4 + l6)) (0 : Int32) L (by omega)
            try have e15 := (hfr.at (Int32.toNatClampNeg (l4 + l6)) (by omega)).rk
            have e16 := y_rk_0
            try have e17 : y_H C v9_48.toInt v9_17.toInt (upd g9_57 (Int32.toNatClampNeg (l4 + l6)) (0 : Int32)) := y_H_upd hH hat (by omega) (by omega)
            try have e18 : y_AV 60600 (upd g9_57 (Int32.toNatClampNeg (l4 + l6)) (0 : Int32)) := y_AV_upd hfr (by first | with_reducible assumption | omega | ((with_reducible refine y_Vl ?_ ?_) <;> omega) | (unfold y_Le; omega) | ((with_reducible refine y_RIm (by with_reducible assumption) ?_ ?_ ?_) <;> omega) | ((with_reducible refine y_RIu (by with_reducible assumption) ?_ ?_ ?_ ?_ ?_) <;> omega) | ((with_reducible refine y_DIu (by with_reducible assumption) ?_ ?_ ?_) <;> omega))
            rw [f_X9_comes_L]
            refine y_in (by decide) ?_
            refine y_in (by decide) ?_
            refine y_in (by decide) ?_
            refine y_in (by decide) ?_
            refine y_in (by decide) ?_
            refine y_in (by decide) ?_
            refine y_in (by decide) ?_
            refine y_in (by decide) ?_
            refine y_in (by decide) ?_
            refine y_ip rfl ?_
            try have e19 := @y_addL l6 (1 : Int32) (1) rfl (by omega) (by omega)
            exact ih (l1 := 0) (l2 := 0) (l3 := l3) (l4 := l4) (l5 := l5) (l6 := (l6 + 1)) (l7 := 0) (l8 := 0) (g9_57 := ((upd g9_57 (Int32.toNatClampNeg (l4 + l6)) 0))) (by first | with_reducible assumption | omega | ((with_reducible refine y_Vl ?_ ?_) <;> omega) | (unfold y_Le; omega) | ((with_reducible refine y_RIm (by with_reducible assumption) ?_ ?_ ?_) <;> omega) | ((with_reducible refine y_RIu (by with_reducible assumption) ?_ ?_ ?_ ?_ ?_) <;> omega) | ((with_reducible refine y_DIu (by with_reducible assumption) ?_ ?_ ?_) <;> omega)) (by first | with_reducible assumption | omega | ((with_reducible refine y_Vl ?_ ?_) <;> omega) | (unfold y_Le; omega) | ((with_reducible refine y_RIm (by with_reducible assumption) ?_ ?_ ?_) <;> omega) | ((with_reducible refine y_RIu (by with_reducible assumption) ?_ ?_ ?_ ?_ ?_) <;> omega) | ((with_reducible refine y_DIu (by with_reducible assumption) ?_ ?_ ?_) <;> omega)) (by omega) (by omega) (by omega) (by omega) (by omega) (by omega) (by omega) (by omega) (by omega) (by omega)
          · skip
            have c13' := c13
            rw [← Int32.toInt_inj] at c13'
            try have e20 := @y_subL (l4 + l6) (1 : Int32) (1) rfl (by omega) (by omega)
            refine y_gd (y_gdI (by omega) (by omega)) ?_
            refine y_if (fun c21 => ?_) (fun c21 => ?_)
            · skip
              try have e22 := @y_cl ((l4 + l6) - (1 : Int32)) (by omega)
              try have e23 := hfr.at (Int32.toNatClampNeg ((l4 + l6) - (1 : Int32))) (by omega)
              try have e24 := e23.b
              have c21' := c21
              rw [← Int32.toInt_inj] at c21'
              have e25 : (1 : Int32).toInt = 1 := rfl
              rw [f_X9_comes_L]
              refine y_in (by decide) ?_
              refine y_in (by decide) ?_
              refine y_in (by decide) ?_
              refine y_in (by decide) ?_
              refine y_in (by decide) ?_
              refine y_in (by decide) ?_
              refine y_in (by decide) ?_
              refine y_ip rfl ?_
              refine y_if (fun c26 => ?_) (fun c26 => ?_)
              · skip
                have c26' := c26
                rw [← Int32.toInt_inj] at c26'
                rw [f_X9_comes_L]
                refine y_in (by decide) ?_
                refine y_in (by decide) ?_
                refine y_in (by decide) ?_
                refine y_in (by decide) ?_
                refine y_in (by decide) ?_
                refine y_in (by decide) ?_
                refine y_in (by decide) ?_
                refine y_in (by decide) ?_
                refine y_in (by decide) ?_
                refine y_ip rfl ?_
                try have e27 := @y_addL l6 (1 : Int32) (1) rfl (by omega) (by omega)
                exact ih (l1 := 0) (l2 := 0) (l3 := l3) (l4 := l4) (l5 := l5) (l6 := (l6 + 1)) (l7 := 0) (l8 := 0) (g9_57 := g9_57) (by first | with_reducible assumption | omega | ((with_reducible refine y_Vl ?_ ?_) <;> omega) | (unfold y_Le; omega) | ((with_reducible refine y_RIm (by with_reducible assumption) ?_ ?_ ?_) <;> omega) | ((with_reducible refine y_RIu (by with_reducible assumption) ?_ ?_ ?_ ?_ ?_) <;> omega) | ((with_reducible refine y_DIu (by with_reducible assumption) ?_ ?_ ?_) <;> omega)) (by first | with_reducible assumption | omega | ((with_reducible refine y_Vl ?_ ?_) <;> omega) | (unfold y_Le; omega) | ((with_reducible refine y_RIm (by with_reducible assumption) ?_ ?_ ?_) <;> omega) | ((with_reducible refine y_RIu (by with_reducible assumption) ?_ ?_ ?_ ?_ ?_) <;> omega) | ((with_reducible refine y_DIu (by with_reducible assumption) ?_ ?_ ?_) <;> omega)) (by omega) (by omega) (by omega) (by omega) (by omega) (by omega) (by omega) (by omega) (by omega) (by omega)
              · skip
                have c26' := c26
                rw [← Int32.toInt_inj] at c26'
                try have e28 := @y_addL (l4 + l6) (1 : Int32) (1) rfl (by omega) (by omega)
                refine y_gd (y_gdI (by omega) (by omega)) ?_
                refine y_if (fun c29 => ?_) (fun c29 => ?_)
                · skip
                  try have e30 := @y_cl ((l4 + l6) + (1 : Int32)) (by omega)
                  try have e31 := hfr.at (Int32.toNatClampNeg ((l4 + l6) + (1 : Int32))) (by omega)
                  try have e32 := e31.b
                  have c29' := c29
                  rw [← Int32.toInt_inj] at c29'
                  rw [f_X9_comes_L]
                  refine y_in (by decide) ?_
                  refine y_in (by decide) ?_
                  refine y_in (by decide) ?_
                  refine y_in (by decide) ?_
                  refine y_in (by decide) ?_
                  refine y_in (by decide) ?_
                  refine y_in (by decide) ?_
                  refine y_in (by decide) ?_
                  refine y_in (by decide) ?_
                  refine y_ip rfl ?_
                  try have e33 := @y_addL l6 (1 : Int32) (1) rfl (by omega) (by omega)
                  exact ih (l1 := 0) (l2 := 0) (l3 := l3) (l4 := l4) (l5 := l5) (l6 := (l6 + 1)) (l7 := 0) (l8 := 0) (g9_57 := g9_57) (by first | with_reducible assumption | omega | ((with_reducible refine y_Vl ?_ ?_) <;> omega) | (unfold y_Le; omega) | ((with_reducible refine y_RIm (by with_reducible assumption) ?_ ?_ ?_) <;> omega) | ((with_reducible refine y_RIu (by with_reducible assumption) ?_ ?_ ?_ ?_ ?_) <;> omega) | ((with_reducible refine y_DIu (by with_reducible assumption) ?_ ?_ ?_) <;> omega)) (by first | with_reducible assumption | omega | ((with_reducible refine y_Vl ?_ ?_) <;> omega) | (unfold y_Le; omega) | ((with_reducible refine y_RIm (by with_reducible assumption) ?_ ?_ ?_) <;> omega) | ((with_reducible refine y_RIu (by with_reducible assumption) ?_ ?_ ?_ ?_ ?_) <;> omega) | ((with_reducible refine y_DIu (by with_reducible assumption) ?_ ?_ ?_) <;> omega)) (by omega) (by omega) (by omega) (by omega) (by omega) (by omega) (by omega) (by omega) (by omega) (by omega)
                · skip
                  try have e34 := @y_cl ((l4 + l6) + (1 : Int32)) (by omega)
                  try have e35 := hfr.at (Int32.toNatClampNeg ((l4 + l6) + (1 : Int32))) (by omega)
                  try have e36 := e35.b
                  have c29' := c29
                  rw [← Int32.toInt_inj] at c29'
                  rw [f_X9_comes_L]
                  refine y_in (by decide) ?_
                  refine y_in (by decide) ?_
                  refine y_in (by decide) ?_
                  refine y_in (by decide) ?_
                  refine y_in (by decide) ?_
                  refine y_in (by decide) ?_
                  refine y_in (by decide) ?_
                  refine y_in (by decide) ?_
                  refine y_ip rfl ?_
                  refine y_gd (y_gdI (by omega) (by omega)) ?_
                  try have e37 := @y_M_upd g9_57 (Int32.toNatClampNeg (l4 + l6)) (0 : Int32) L (by omega)
                  try have e38 := (hfr.at (Int32.toNatClampNeg (l4 + l6)) (by omega)).rk
                  have e39 := y_rk_0
                  try have e40 : y_H C v9_48.toInt v9_17.toInt (upd g9_57 (Int32.toNatClampNeg (l4 + l6)) (0 : Int32)) := y_H_upd hH hat (by omega) (by omega)
                  try have e41 : y_AV 60600 (upd g9_57 (Int32.toNatClampNeg (l4 + l6)) (0 : Int32)) := y_AV_upd hfr (by first | with_reducible assumption | omega | ((with_reducible refine y_Vl ?_ ?_) <;> omega) | (unfold y_Le; omega) | ((with_reducible refine y_RIm (by with_reducible assumption) ?_ ?_ ?_) <;> omega) | ((with_reducible refine y_RIu (by with_reducible assumption) ?_ ?_ ?_ ?_ ?_) <;> omega) | ((with_reducible refine y_DIu (by with_reducible assumption) ?_ ?_ ?_) <;> omega))
                  rw [f_X9_comes_L]
                  refine y_in (by decide) ?_
                  refine y_in (by decide) ?_
                  refine y_in (by decide) ?_
                  refine y_in (by decide) ?_
                  refine y_in (by decide) ?_
                  refine y_in (by decide) ?_
                  refine y_in (by decide) ?_
                  refine y_in (by decide) ?_
                  refine y_in (by decide) ?_
                  refine y_ip rfl ?_
                  try have e42 := @y_addL l6 (1 : Int32) (1) rfl (by omega) (by omega)
                  exact ih (l1 := 0) (l2 := 0) (l3 := l3) (l4 := l4) (l5 := l5) (l6 := (l6 + 1)) (l7 := 0) (l8 := 0) (g9_57 := ((upd g9_57 (Int32.toNatClampNeg (l4 + l6)) 0))) (by first | with_reducible assumption | omega | ((with_reducible refine y_Vl ?_ ?_) <;> omega) | (unfold y_Le; omega) | ((with_reducible refine y_RIm (by with_reducible assumption) ?_ ?_ ?_) <;> omega) | ((with_reducible refine y_RIu (by with_reducible assumption) ?_ ?_ ?_ ?_ ?_) <;> omega) | ((with_reducible refine y_DIu (by with_reducible assumption) ?_ ?_ ?_) <;> omega)) (by first | with_reducible assumption | omega | ((with_reducible refine y_Vl ?_ ?_) <;> omega) | (unfold y_Le; omega) | ((with_reducible refine y_RIm (by with_reducible assumption) ?_ ?_ ?_) <;> omega) | ((with_reducible refine y_RIu (by with_reducible assumption) ?_ ?_ ?_ ?_ ?_) <;> omega) | ((with_reducible refine y_DIu (by with_reducible assumption) ?_ ?_ ?_) <;> omega)) (by omega) (by omega) (by omega) (by omega) (by omega) (by omega) (by omega) (by omega) (by omega) (by omega)
            · skip
              try have e43 := @y_cl ((l4 + l6) - (1 : Int32)) (by omega)
              try have e44 := hfr.at (Int32.toNatClampNeg ((l4 + l6) - (1 : Int32))) (by omega)
              try have e45 := e44.b
              have c21' := c21
              rw [← Int32.toInt_inj] at c21'
              refine y_gd (y_gdI (by omega) (by omega)) ?_
              refine y_if (fun c46 => ?_) (fun c46 => ?_)
              · skip
                have e47 : (4 : Int32).toInt = 4 := rfl
                have c46' := c46
                rw [← Int32.toInt_inj] at c46'
                have e48 : (1 : Int32).toInt = 1 := rfl
                rw [f_X9_comes_L]
                refine y_in (by decide) ?_
                refine y_in (by decide) ?_
                refine y_in (by decide) ?_
                refine y_in (by decide) ?_
                refine y_in (by decide) ?_
                refine y_in (by decide) ?_
                refine y_in (by decide) ?_
                refine y_ip rfl ?_
                refine y_if (fun c49 => ?_) (fun c49 => ?_)
                · skip
                  have c49' := c49
                  rw [← Int32.toInt_inj] at c49'
                  rw [f_X9_comes_L]
                  refine y_in (by decide) ?_
                  refine y_in (by decide) ?_
                  refine y_in (by decide) ?_
                  refine y_in (by decide) ?_
                  refine y_in (by decide) ?_
                  refine y_in (by decide) ?_
                  refine y_in (by decide) ?_
                  refine y_in (by decide) ?_
                  refine y_in (by decide) ?_
                  refine y_ip rfl ?_
                  try have e50 := @y_addL l6 (1 : Int32) (1) rfl (by omega) (by omega)
                  exact ih (l1 := 0) (l2 := 0) (l3 := l3) (l4 := l4) (l5 := l5) (l6 := (l6 + 1)) (l7 := 0) (l8 := 0) (g9_57 := g9_57) (by first | with_reducible assumption | omega | ((with_reducible refine y_Vl ?_ ?_) <;> omega) | (unfold y_Le; omega) | ((with_reducible refine y_RIm (by with_reducible assumption) ?_ ?_ ?_) <;> omega) | ((with_reducible refine y_RIu (by with_reducible assumption) ?_ ?_ ?_ ?_ ?_) <;> omega) | ((with_reducible refine y_DIu (by with_reducible assumption) ?_ ?_ ?_) <;> omega)) (by first | with_reducible assumption | omega | ((with_reducible refine y_Vl ?_ ?_) <;> omega) | (unfold y_Le; omega) | ((with_reducible refine y_RIm (by with_reducible assumption) ?_ ?_ ?_) <;> omega) | ((with_reducible refine y_RIu (by with_reducible assumption) ?_ ?_ ?_ ?_ ?_) <;> omega) | ((with_reducible refine y_DIu (by with_reducible assumption) ?_ ?_ ?_) <;> omega)) (by omega) (by omega) (by omega) (by omega) (by omega) (by omega) (by omega) (by omega) (by omega) (by omega)
                · skip
                  have c49' := c49
                  rw [← Int32.toInt_inj] at c49'
                  try have e51 := @y_addL (l4 + l6) (1 : Int32) (1) rfl (by omega) (by omega)
                  refine y_gd (y_gdI (by omega) (by omega)) ?_
                  refine y_if (fun c52 => ?_) (fun c52 => ?_)
                  · skip
                    try have e53 := @y_cl ((l4 + l6) + (1 : Int32)) (by omega)
                    try have e54 := hfr.at (Int32.toNatClampNeg ((l4 + l6) + (1 : Int32))) (by omega)
                    try have e55 := e54.b
                    have c52' := c52
                    rw [← Int32.toInt_inj] at c52'
                    rw [f_X9_comes_L]
                    refine y_in (by decide) ?_
                    refine y_in (by decide) ?_
                    refine y_in (by decide) ?_
                    refine y_in (by decide) ?_
                    refine y_in (by decide) ?_
                    refine y_in (by decide) ?_
                    refine y_in (by decide) ?_
                    refine y_in (by decide) ?_
                    refine y_in (by decide) ?_
                    refine y_ip rfl ?_
                    try have e56 := @y_addL l6 (1 : Int32) (1) rfl (by omega) (by omega)
                    exact ih (l1 := 0) (l2 := 0) (l3 := l3) (l4 := l4) (l5 := l5) (l6 := (l6 + 1)) (l7 := 0) (l8 := 0) (g9_57 := g9_57) (by first | with_reducible assumption | omega | ((with_reducible refine y_Vl ?_ ?_) <;> omega) | (unfold y_Le; omega) | ((with_reducible refine y_RIm (by with_reducible assumption) ?_ ?_ ?_) <;> omega) | ((with_reducible refine y_RIu (by with_reducible assumption) ?_ ?_ ?_ ?_ ?_) <;> omega) | ((with_reducible refine y_DIu (by with_reducible assumption) ?_ ?_ ?_) <;> omega)) (by first | with_reducible assumption | omega | ((with_reducible refine y_Vl ?_ ?_) <;> omega) | (unfold y_Le; omega) | ((with_reducible refine y_RIm (by with_reducible assumption) ?_ ?_ ?_) <;> omega) | ((with_reducible refine y_RIu (by with_reducible assumption) ?_ ?_ ?_ ?_ ?_) <;> omega) | ((with_reducible refine y_DIu (by with_reducible assumption) ?_ ?_ ?_) <;> omega)) (by omega) (by omega) (by omega) (by omega) (by omega) (by omega) (by omega) (by omega) (by omega) (by omega)
                  · skip
                    try have e57 := @y_cl ((l4 + l6) + (1 : Int32)) (by omega)
                    try have e58 := hfr.at (Int32.toNatClampNeg ((l4 + l6) + (1 : Int32))) (by omega)
                    try have e59 := e58.b
                    have c52' := c52
                    rw [← Int32.toInt_inj] at c52'
                    rw [f_X9_comes_L]
                    refine y_in (by decide) ?_
                    refine y_in (by decide) ?_
                    refine y_in (by decide) ?_
                    refine y_in (by decide) ?_
                    refine y_in (by decide) ?_
                    refine y_in (by decide) ?_
                    refine y_in (by decide) ?_
                    refine y_in (by decide) ?_
                    refine y_ip rfl ?_
                    refine y_gd (y_gdI (by omega) (by omega)) ?_
                    try have e60 := @y_M_upd g9_57 (Int32.toNatClampNeg (l4 + l6)) (0 : Int32) L (by omega)
                    try have e61 := (hfr.at (Int32.toNatClampNeg (l4 + l6)) (by omega)).rk
                    have e62 := y_rk_0
                    try have e63 : y_H C v9_48.toInt v9_17.toInt (upd g9_57 (Int32.toNatClampNeg (l4 + l6)) (0 : Int32)) := y_H_upd hH hat (by omega) (by omega)
                    try have e64 : y_AV 60600 (upd g9_57 (Int32.toNatClampNeg (l4 + l6)) (0 : Int32)) := y_AV_upd hfr (by first | with_reducible assumption | omega | ((with_reducible refine y_Vl ?_ ?_) <;> omega) | (unfold y_Le; omega) | ((with_reducible refine y_RIm (by with_reducible assumption) ?_ ?_ ?_) <;> omega) | ((with_reducible refine y_RIu (by with_reducible assumption) ?_ ?_ ?_ ?_ ?_) <;> omega) | ((with_reducible refine y_DIu (by with_reducible assumption) ?_ ?_ ?_) <;> omega))
                    rw [f_X9_comes_L]
                    refine y_in (by decide) ?_
                    refine y_in (by decide) ?_
                    refine y_in (by decide) ?_
                    refine y_in (by decide) ?_
                    refine y_in (by decide) ?_
                    refine y_in (by decide) ?_
                    refine y_in (by decide) ?_
                    refine y_in (by decide) ?_
                    refine y_in (by decide) ?_
                    refine y_ip rfl ?_
                    try have e65 := @y_addL l6 (1 : Int32) (1) rfl (by omega) (by omega)
                    exact ih (l1 := 0) (l2 := 0) (l3 := l3) (l4 := l4) (l5 := l5) (l6 := (l6 + 1)) (l7 := 0) (l8 := 0) (g9_57 := ((upd g9_57 (Int32.toNatClampNeg (l4 + l6)) 0))) (by first | with_reducible assumption | omega | ((with_reducible refine y_Vl ?_ ?_) <;> omega) | (unfold y_Le; omega) | ((with_reducible refine y_RIm (by with_reducible assumption) ?_ ?_ ?_) <;> omega) | ((with_reducible refine y_RIu (by with_reducible assumption) ?_ ?_ ?_ ?_ ?_) <;> omega) | ((with_reducible refine y_DIu (by with_reducible assumption) ?_ ?_ ?_) <;> omega)) (by first | with_reducible assumption | omega | ((with_reducible refine y_Vl ?_ ?_) <;> omega) | (unfold y_Le; omega) | ((with_reducible refine y_RIm (by with_reducible assumption) ?_ ?_ ?_) <;> omega) | ((with_reducible refine y_RIu (by with_reducible assumption) ?_ ?_ ?_ ?_ ?_) <;> omega) | ((with_reducible refine y_DIu (by with_reducible assumption) ?_ ?_ ?_) <;> omega)) (by omega) (by omega) (by omega) (by omega) (by omega) (by omega) (by omega) (by omega) (by omega) (by omega)
              · skip
                have e66 : (4 : Int32).toInt = 4 := rfl
                have c46' := c46
                rw [← Int32.toInt_inj] at c46'
                rw [f_X9_comes_L]
                refine y_in (by decide) ?_
                refine y_in (by decide) ?_
                refine y_in (by decide) ?_
                refine y_in (by decide) ?_
                refine y_in (by decide) ?_
                refine y_in (by decide) ?_
                refine y_in (by decide) ?_
                refine y_in (by decide) ?_
                refine y_ip rfl ?_
                refine y_gd (y_gdI (by omega) (by omega)) ?_
                try have e67 := @y_M_upd g9_57 (Int32.toNatClampNeg (l4 + l6)) (0 : Int32) L (by omega)
                try have e68 := (hfr.at (Int32.toNatClampNeg (l4 + l6)) (by omega)).rk
                have e69 := y_rk_0
                try have e70 : y_H C v9_48.toInt v9_17.toInt (upd g9_57 (Int32.toNatClampNeg (l4 + l6)) (0 : Int32)) := y_H_upd hH hat (by omega) (by omega)
                try have e71 : y_AV 60600 (upd g9_57 (Int32.toNatClampNeg (l4 + l6)) (0 : Int32)) := y_AV_upd hfr (by first | with_reducible assumption | omega | ((with_reducible refine y_Vl ?_ ?_) <;> omega) | (unfold y_Le; omega) | ((with_reducible refine y_RIm (by with_reducible assumption) ?_ ?_ ?_) <;> omega) | ((with_reducible refine y_RIu (by with_reducible assumption) ?_ ?_ ?_ ?_ ?_) <;> omega) | ((with_reducible refine y_DIu (by with_reducible assumption) ?_ ?_ ?_) <;> omega))
                rw [f_X9_comes_L]
                refine y_in (by decide) ?_
                refine y_in (by decide) ?_
                refine y_in (by decide) ?_
                refine y_in (by decide) ?_
                refine y_in (by decide) ?_
                refine y_in (by decide) ?_
                refine y_in (by decide) ?_
                refine y_in (by decide) ?_
                refine y_in (by decide) ?_
                refine y_ip rfl ?_
                try have e72 := @y_addL l6 (1 : Int32) (1) rfl (by omega) (by omega)
                exact ih (l1 := 0) (l2 := 0) (l3 := l3) (l4 := l4) (l5 := l5) (l6 := (l6 + 1)) (l7 := 0) (l8 := 0) (g9_57 := ((upd g9_57 (Int32.toNatClampNeg (l4 + l6)) 0))) (by first | with_reducible assumption | omega | ((with_reducible refine y_Vl ?_ ?_) <;> omega) | (unfold y_Le; omega) | ((with_reducible refine y_RIm (by with_reducible assumption) ?_ ?_ ?_) <;> omega) | ((with_reducible refine y_RIu (by with_reducible assumption) ?_ ?_ ?_ ?_ ?_) <;> omega) | ((with_reducible refine y_DIu (by with_reducible assumption) ?_ ?_ ?_) <;> omega)) (by first | with_reducible assumption | omega | ((with_reducible refine y_Vl ?_ ?_) <;> omega) | (unfold y_Le; omega) | ((with_reducible refine y_RIm (by with_reducible assumption) ?_ ?_ ?_) <;> omega) | ((with_reducible refine y_RIu (by with_reducible assumption) ?_ ?_ ?_ ?_ ?_) <;> omega) | ((with_reducible refine y_DIu (by with_reducible assumption) ?_ ?_ ?_) <;> omega)) (by omega) (by omega) (by omega) (by omega) (by omega) (by omega) (by omega) (by omega) (by omega) (by omega)
        · skip
          have e73 : (7 : Int32).toInt = 7 := rfl
          have c11' := c11
          rw [← Int32.toInt_inj] at c11'
          have e74 : (1 : Int32).toInt = 1 := rfl
          rw [f_X9_comes_L]
          refine y_in (by decide) ?_
          refine y_in (by decide) ?_
          refine y_in (by decide) ?_
          refine y_in (by decide) ?_
          refine y_in (by decide) ?_
          refine y_in (by decide) ?_
          refine y_in (by decide) ?_
          refine y_ip rfl ?_
          refine y_if (fun c75 => ?_) (fun c75 => ?_)
          · skip
            have c75' := c75
            rw [← Int32.toInt_inj] at c75'
            rw [f_X9_comes_L]
            refine y_in (by decide) ?_
            refine y_in (by decide) ?_
            refine y_in (by decide) ?_
            refine y_in (by decide) ?_
            refine y_in (by decide) ?_
            refine y_in (by decide) ?_
            refine y_in (by decide) ?_
            refine y_in (by decide) ?_
            refine y_in (by decide) ?_
            refine y_ip rfl ?_
            try have e76 := @y_addL l6 (1 : Int32) (1) rfl (by omega) (by omega)
            exact ih (l1 := 0) (l2 := 0) (l3 := l3) (l4 := l4) (l5 := l5) (l6 := (l6 + 1)) (l7 := 0) (l8 := 0) (g9_57 := g9_57) (by first | with_reducible assumption | omega | ((with_reducible refine y_Vl ?_ ?_) <;> omega) | (unfold y_Le; omega) | ((with_reducible refine y_RIm (by with_reducible assumption) ?_ ?_ ?_) <;> omega) | ((with_reducible refine y_RIu (by with_reducible assumption) ?_ ?_ ?_ ?_ ?_) <;> omega) | ((with_reducible refine y_DIu (by with_reducible assumption) ?_ ?_ ?_) <;> omega)) (by first | with_reducible assumption | omega | ((with_reducible refine y_Vl ?_ ?_) <;> omega) | (unfold y_Le; omega) | ((with_reducible refine y_RIm (by with_reducible assumption) ?_ ?_ ?_) <;> omega) | ((with_reducible refine y_RIu (by with_reducible assumption) ?_ ?_ ?_ ?_ ?_) <;> omega) | ((with_reducible refine y_DIu (by with_reducible assumption) ?_ ?_ ?_) <;> omega)) (by omega) (by omega) (by omega) (by omega) (by omega) (by omega) (by omega) (by omega) (by omega) (by omega)
          · skip
            have c75' := c75
            rw [← Int32.toInt_inj] at c75'
            try have e77 := @y_addL (l4 + l6) (1 : Int32) (1) rfl (by omega) (by omega)
            refine y_gd (y_gdI (by omega) (by omega)) ?_
            refine y_if (fun c78 => ?_) (fun c78 => ?_)
            · skip
              try have e79 := @y_cl ((l4 + l6) + (1 : Int32)) (by omega)
              try have e80 := hfr.at (Int32.toNatClampNeg ((l4 + l6) + (1 : Int32))) (by omega)
              try have e81 := e80.b
              have c78' := c78
              rw [← Int32.toInt_inj] at c78'
              rw [f_X9_comes_L]
              refine y_in (by decide) ?_
              refine y_in (by decide) ?_
              refine y_in (by decide) ?_
              refine y_in (by decide) ?_
              refine y_in (by decide) ?_
              refine y_in (by decide) ?_
              refine y_in (by decide) ?_
              refine y_in (by decide) ?_
              refine y_in (by decide) ?_
              refine y_ip rfl ?_
              try have e82 := @y_addL l6 (1 : Int32) (1) rfl (by omega) (by omega)
              exact ih (l1 := 0) (l2 := 0) (l3 := l3) (l4 := l4) (l5 := l5) (l6 := (l6 + 1)) (l7 := 0) (l8 := 0) (g9_57 := g9_57) (by first | with_reducible assumption | omega | ((with_reducible refine y_Vl ?_ ?_) <;> omega) | (unfold y_Le; omega) | ((with_reducible refine y_RIm (by with_reducible assumption) ?_ ?_ ?_) <;> omega) | ((with_reducible refine y_RIu (by with_reducible assumption) ?_ ?_ ?_ ?_ ?_) <;> omega) | ((with_reducible refine y_DIu (by with_reducible assumption) ?_ ?_ ?_) <;> omega)) (by first | with_reducible assumption | omega | ((with_reducible refine y_Vl ?_ ?_) <;> omega) | (unfold y_Le; omega) | ((with_reducible refine y_RIm (by with_reducible assumption) ?_ ?_ ?_) <;> omega) | ((with_reducible refine y_RIu (by with_reducible assumption) ?_ ?_ ?_ ?_ ?_) <;> omega) | ((with_reducible refine y_DIu (by with_reducible assumption) ?_ ?_ ?_) <;> omega)) (by omega) (by omega) (by omega) (by omega) (by omega) (by omega) (by omega) (by omega) (by omega) (by omega)
            · skip
              try have e83 := @y_cl ((l4 + l6) + (1 : Int32)) (by omega)
              try have e84 := hfr.at (Int32.toNatClampNeg ((l4 + l6) + (1 : Int32))) (by omega)
              try have e85 := e84.b
              have c78' := c78
              rw [← Int32.toInt_inj] at c78'
              rw [f_X9_comes_L]
              refine y_in (by decide) ?_
              refine y_in (by decide) ?_
              refine y_in (by decide) ?_
              refine y_in (by decide) ?_
              refine y_in (by decide) ?_
              refine y_in (by decide) ?_
              refine y_in (by decide) ?_
              refine y_in (by decide) ?_
              refine y_ip rfl ?_
              refine y_gd (y_gdI (by omega) (by omega)) ?_
              try have e86 := @y_M_upd g9_57 (Int32.toNatClampNeg (l4 + l6)) (0 : Int32) L (by omega)
              try have e87 := (hfr.at (Int32.toNatClampNeg (l4 + l6)) (by omega)).rk
              have e88 := y_rk_0
              try have e89 : y_H C v9_48.toInt v9_17.toInt (upd g9_57 (Int32.toNatClampNeg (l4 + l6)) (0 : Int32)) := y_H_upd hH hat (by omega) (by omega)
              try have e90 : y_AV 60600 (upd g9_57 (Int32.toNatClampNeg (l4 + l6)) (0 : Int32)) := y_AV_upd hfr (by first | with_reducible assumption | omega | ((with_reducible refine y_Vl ?_ ?_) <;> omega) | (unfold y_Le; omega) | ((with_reducible refine y_RIm (by with_reducible assumption) ?_ ?_ ?_) <;> omega) | ((with_reducible refine y_RIu (by with_reducible assumption) ?_ ?_ ?_ ?_ ?_) <;> omega) | ((with_reducible refine y_DIu (by with_reducible assumption) ?_ ?_ ?_) <;> omega))
              rw [f_X9_comes_L]
              refine y_in (by decide) ?_
              refine y_in (by decide) ?_
              refine y_in (by decide) ?_
              refine y_in (by decide) ?_
              refine y_in (by decide) ?_
              refine y_in (by decide) ?_
              refine y_in (by decide) ?_
              refine y_in (by decide) ?_
              refine y_in (by decide) ?_
              refine y_ip rfl ?_
              try have e91 := @y_addL l6 (1 : Int32) (1) rfl (by omega) (by omega)
              exact ih (l1 := 0) (l2 := 0) (l3 := l3) (l4 := l4) (l5 := l5) (l6 := (l6 + 1)) (l7 := 0) (l8 := 0) (g9_57 := ((upd g9_57 (Int32.toNatClampNeg (l4 + l6)) 0))) (by first | with_reducible assumption | omega | ((with_reducible refine y_Vl ?_ ?_) <;> omega) | (unfold y_Le; omega) | ((with_reducible refine y_RIm (by with_reducible assumption) ?_ ?_ ?_) <;> omega) | ((with_reducible refine y_RIu (by with_reducible assumption) ?_ ?_ ?_ ?_ ?_) <;> omega) | ((with_reducible refine y_DIu (by with_reducible assumption) ?_ ?_ ?_) <;> omega)) (by first | with_reducible assumption | omega | ((with_reducible refine y_Vl ?_ ?_) <;> omega) | (unfold y_Le; omega) | ((with_reducible refine y_RIm (by with_reducible assumption) ?_ ?_ ?_) <;> omega) | ((with_reducible refine y_RIu (by with_reducible assumption) ?_ ?_ ?_ ?_ ?_) <;> omega) | ((with_reducible refine y_DIu (by with_reducible assumption) ?_ ?_ ?_) <;> omega)) (by omega) (by omega) (by omega) (by omega) (by omega) (by omega) (by omega) (by omega) (by omega) (by omega)
      · skip
        try have e92 := @y_cl (l4 + l6) (by omega)
        try have e93 := hfr.at (Int32.toNatClampNeg (l4 + l6)) (by omega)
        try have e94 := e93.b
        have e95 : (3 : Int32).toInt = 3 := rfl
        have c5' := c5
        rw [← Int32.toInt_inj] at c5'
        refine y_if (fun c96 => ?_) (fun c96 => ?_)
        · skip
          have e97 : (4 : Int32).toInt = 4 := rfl
          have c96' := c96
          rw [← Int32.toInt_inj] at c96'
          have e98 : (0 : Int32).toInt = 0 := rfl
          rw [f_X9_comes_L]
          refine y_in (by decide) ?_
          refine y_in (by decide) ?_
          refine y_in (by decide) ?_
          refine y_in (by decide) ?_
          refine y_in (by decide) ?_
          refine y_in (by decide) ?_
          refine y_ip rfl ?_
          refine y_if (fun c99 => ?_) (fun c99 => ?_)
          · skip
            have e100 : (7 : Int32).toInt = 7 := rfl
            have c99' := c99
            rw [← Int32.toInt_inj] at c99'
            refine y_if (fun c101 => ?_) (fun c101 => ?_)
            · skip
              have c101' := c101
              rw [← Int32.toInt_inj] at c101'
              rw [f_X9_comes_L]
              refine y_in (by decide) ?_
              refine y_in (by decide) ?_
              refine y_in (by decide) ?_
              refine y_in (by decide) ?_
              refine y_in (by decide) ?_
              refine y_in (by decide) ?_
              refine y_in (by decide) ?_
              refine y_in (by decide) ?_
              refine y_ip rfl ?_
              refine y_gd (y_gdI (by omega) (by omega)) ?_
              try have e102 := @y_M_upd g9_57 (Int32.toNatClampNeg (l4 + l6)) (0 : Int32) L (by omega)
              try have e103 := (hfr.at (Int32.toNatClampNeg (l4 + l6)) (by omega)).rk
              have e104 := y_rk_0
              try have e105 : y_H C v9_48.toInt v9_17.toInt (upd g9_57 (Int32.toNatClampNeg (l4 + l6)) (0 : Int32)) := y_H_upd hH hat (by omega) (by omega)
              try have e106 : y_AV 60600 (upd g9_57 (Int32.toNatClampNeg (l4 + l6)) (0 : Int32)) := y_AV_upd hfr (by first | with_reducible assumption | omega | ((with_reducible refine y_Vl ?_ ?_) <;> omega) | (unfold y_Le; omega) | ((with_reducible refine y_RIm (by with_reducible assumption) ?_ ?_ ?_) <;> omega) | ((with_reducible refine y_RIu (by with_reducible assumption) ?_ ?_ ?_ ?_ ?_) <;> omega) | ((with_reducible refine y_DIu (by with_reducible assumption) ?_ ?_ ?_) <;> omega))
              rw [f_X9_comes_L]
              refine y_in (by decide) ?_
              refine y_in (by decide) ?_
              refine y_in (by decide) ?_
              refine y_in (by decide) ?_
              refine y_in (by decide) ?_
              refine y_in (by decide) ?_
              refine y_in (by decide) ?_
              refine y_in (by decide) ?_
              refine y_in (by decide) ?_
              refine y_ip rfl ?_
              try have e107 := @y_addL l6 (1 : Int32) (1) rfl (by omega) (by omega)
              exact ih (l1 := 0) (l2 := 0) (l3 := l3) (l4 := l4) (l5 := l5) (l6 := (l6 + 1)) (l7 := 0) (l8 := 0) (g9_57 := ((upd g9_57 (Int32.toNatClampNeg (l4 + l6)) 0))) (by first | with_reducible assumption | omega | ((with_reducible refine y_Vl ?_ ?_) <;> omega) | (unfold y_Le; omega) | ((with_reducible refine y_RIm (by with_reducible assumption) ?_ ?_ ?_) <;> omega) | ((with_reducible refine y_RIu (by with_reducible assumption) ?_ ?_ ?_ ?_ ?_) <;> omega) | ((with_reducible refine y_DIu (by with_reducible assumption) ?_ ?_ ?_) <;> omega)) (by first | with_reducible assumption | omega | ((with_reducible refine y_Vl ?_ ?_) <;> omega) | (unfold y_Le; omega) | ((with_reducible refine y_RIm (by with_reducible assumption) ?_ ?_ ?_) <;> omega) | ((with_reducible refine y_RIu (by with_reducible assumption) ?_ ?_ ?_ ?_ ?_) <;> omega) | ((with_reducible refine y_DIu (by with_reducible assumption) ?_ ?_ ?_) <;> omega)) (by omega) (by omega) (by omega) (by omega) (by omega) (by omega) (by omega) (by omega) (by omega) (by omega)
            · skip
              have c101' := c101
              rw [← Int32.toInt_inj] at c101'
              try have e108 := @y_subL (l4 + l6) (1 : Int32) (1) rfl (by omega) (by omega)
              refine y_gd (y_gdI (by omega) (by omega)) ?_
              refine y_if (fun c109 => ?_) (fun c109 => ?_)
              · skip
                try have e110 := @y_cl ((l4 + l6) - (1 : Int32)) (by omega)
                try have e111 := hfr.at (Int32.toNatClampNeg ((l4 + l6) - (1 : Int32))) (by omega)
                try have e112 := e111.b
                have c109' := c109
                rw [← Int32.toInt_inj] at c109'
                have e113 : (1 : Int32).toInt = 1 := rfl
                rw [f_X9_comes_L]
                refine y_in (by decide) ?_
                refine y_in (by decide) ?_
                refine y_in (by decide) ?_
                refine y_in (by decide) ?_
                refine y_in (by decide) ?_
                refine y_in (by decide) ?_
                refine y_in (by decide) ?_
                refine y_ip rfl ?_
                refine y_if (fun c114 => ?_) (fun c114 => ?_)
                · skip
                  have c114' := c114
                  rw [← Int32.toInt_inj] at c114'
                  rw [f_X9_comes_L]
                  refine y_in (by decide) ?_
                  refine y_in (by decide) ?_
                  refine y_in (by decide) ?_
                  refine y_in (by decide) ?_
                  refine y_in (by decide) ?_
                  refine y_in (by decide) ?_
                  refine y_in (by decide) ?_
                  refine y_in (by decide) ?_
                  refine y_in (by decide) ?_
                  refine y_ip rfl ?_
                  try have e115 := @y_addL l6 (1 : Int32) (1) rfl (by omega) (by omega)
                  exact ih (l1 := 0) (l2 := 0) (l3 := l3) (l4 := l4) (l5 := l5) (l6 := (l6 + 1)) (l7 := 0) (l8 := 0) (g9_57 := g9_57) (by first | with_reducible assumption | omega | ((with_reducible refine y_Vl ?_ ?_) <;> omega) | (unfold y_Le; omega) | ((with_reducible refine y_RIm (by with_reducible assumption) ?_ ?_ ?_) <;> omega) | ((with_reducible refine y_RIu (by with_reducible assumption) ?_ ?_ ?_ ?_ ?_) <;> omega) | ((with_reducible refine y_DIu (by with_reducible assumption) ?_ ?_ ?_) <;> omega)) (by first | with_reducible assumption | omega | ((with_reducible refine y_Vl ?_ ?_) <;> omega) | (unfold y_Le; omega) | ((with_reducible refine y_RIm (by with_reducible assumption) ?_ ?_ ?_) <;> omega) | ((with_reducible refine y_RIu (by with_reducible assumption) ?_ ?_ ?_ ?_ ?_) <;> omega) | ((with_reducible refine y_DIu (by with_reducible assumption) ?_ ?_ ?_) <;> omega)) (by omega) (by omega) (by omega) (by omega) (by omega) (by omega) (by omega) (by omega) (by omega) (by omega)
                · skip
                  have c114' := c114
                  rw [← Int32.toInt_inj] at c114'
                  try have e116 := @y_addL (l4 + l6) (1 : Int32) (1) rfl (by omega) (by omega)
                  refine y_gd (y_gdI (by omega) (by omega)) ?_
                  refine y_if (fun c117 => ?_) (fun c117 => ?_)
                  · skip
                    try have e118 := @y_cl ((l4 + l6) + (1 : Int32)) (by omega)
                    try have e119 := hfr.at (Int32.toNatClampNeg ((l4 + l6) + (1 : Int32))) (by omega)
                    try have e120 := e119.b
                    have c117' := c117
                    rw [← Int32.toInt_inj] at c117'
                    rw [f_X9_comes_L]
                    refine y_in (by decide) ?_
                    refine y_in (by decide) ?_
                    refine y_in (by decide) ?_
                    refine y_in (by decide) ?_
                    refine y_in (by decide) ?_
                    refine y_in (by decide) ?_
                    refine y_in (by decide) ?_
                    refine y_in (by decide) ?_
                    refine y_in (by decide) ?_
                    refine y_ip rfl ?_
                    try have e121 := @y_addL l6 (1 : Int32) (1) rfl (by omega) (by omega)
                    exact ih (l1 := 0) (l2 := 0) (l3 := l3) (l4 := l4) (l5 := l5) (l6 := (l6 + 1)) (l7 := 0) (l8 := 0) (g9_57 := g9_57) (by first | with_reducible assumption | omega | ((with_reducible refine y_Vl ?_ ?_) <;> omega) | (unfold y_Le; omega) | ((with_reducible refine y_RIm (by with_reducible assumption) ?_ ?_ ?_) <;> omega) | ((with_reducible refine y_RIu (by with_reducible assumption) ?_ ?_ ?_ ?_ ?_) <;> omega) | ((with_reducible refine y_DIu (by with_reducible assumption) ?_ ?_ ?_) <;> omega)) (by first | with_reducible assumption | omega | ((with_reducible refine y_Vl ?_ ?_) <;> omega) | (unfold y_Le; omega) | ((with_reducible refine y_RIm (by with_reducible assumption) ?_ ?_ ?_) <;> omega) | ((with_reducible refine y_RIu (by with_reducible assumption) ?_ ?_ ?_ ?_ ?_) <;> omega) | ((with_reducible refine y_DIu (by with_reducible assumption) ?_ ?_ ?_) <;> omega)) (by omega) (by omega) (by omega) (by omega) (by omega) (by omega) (by omega) (by omega) (by omega) (by omega)
                  · skip
                    try have e122 := @y_cl ((l4 + l6) + (1 : Int32)) (by omega)
                    try have e123 := hfr.at (Int32.toNatClampNeg ((l4 + l6) + (1 : Int32))) (by omega)
                    try have e124 := e123.b
                    have c117' := c117
                    rw [← Int32.toInt_inj] at c117'
                    rw [f_X9_comes_L]
                    refine y_in (by decide) ?_
                    refine y_in (by decide) ?_
                    refine y_in (by decide) ?_
                    refine y_in (by decide) ?_
                    refine y_in (by decide) ?_
                    refine y_in (by decide) ?_
                    refine y_in (by decide) ?_
                    refine y_in (by decide) ?_
                    refine y_ip rfl ?_
                    refine y_gd (y_gdI (by omega) (by omega)) ?_
                    try have e125 := @y_M_upd g9_57 (Int32.toNatClampNeg (l4 + l6)) (0 : Int32) L (by omega)
                    try have e126 := (hfr.at (Int32.toNatClampNeg (l4 + l6)) (by omega)).rk
                    have e127 := y_rk_0
                    try have e128 : y_H C v9_48.toInt v9_17.toInt (upd g9_57 (Int32.toNatClampNeg (l4 + l6)) (0 : Int32)) := y_H_upd hH hat (by omega) (by omega)
                    try have e129 : y_AV 60600 (upd g9_57 (Int32.toNatClampNeg (l4 + l6)) (0 : Int32)) := y_AV_upd hfr (by first | with_reducible assumption | omega | ((with_reducible refine y_Vl ?_ ?_) <;> omega) | (unfold y_Le; omega) | ((with_reducible refine y_RIm (by with_reducible assumption) ?_ ?_ ?_) <;> omega) | ((with_reducible refine y_RIu (by with_reducible assumption) ?_ ?_ ?_ ?_ ?_) <;> omega) | ((with_reducible refine y_DIu (by with_reducible assumption) ?_ ?_ ?_) <;> omega))
                    rw [f_X9_comes_L]
                    refine y_in (by decide) ?_
                    refine y_in (by decide) ?_
                    refine y_in (by decide) ?_
                    refine y_in (by decide) ?_
                    refine y_in (by decide) ?_
                    refine y_in (by decide) ?_
                    refine y_in (by decide) ?_
                    refine y_in (by decide) ?_
                    refine y_in (by decide) ?_
                    refine y_ip rfl ?_
                    try have e130 := @y_addL l6 (1 : Int32) (1) rfl (by omega) (by omega)
                    exact ih (l1 := 0) (l2 := 0) (l3 := l3) (l4 := l4) (l5 := l5) (l6 := (l6 + 1)) (l7 := 0) (l8 := 0) (g9_57 := ((upd g9_57 (Int32.toNatClampNeg (l4 + l6)) 0))) (by first | with_reducible assumption | omega | ((with_reducible refine y_Vl ?_ ?_) <;> omega) | (unfold y_Le; omega) | ((with_reducible refine y_RIm (by with_reducible assumption) ?_ ?_ ?_) <;> omega) | ((with_reducible refine y_RIu (by with_reducible assumption) ?_ ?_ ?_ ?_ ?_) <;> omega) | ((with_reducible refine y_DIu (by with_reducible assumption) ?_ ?_ ?_) <;> omega)) (by first | with_reducible assumption | omega | ((with_reducible refine y_Vl ?_ ?_) <;> omega) | (unfold y_Le; omega) | ((with_reducible refine y_RIm (by with_reducible assumption) ?_ ?_ ?_) <;> omega) | ((with_reducible refine y_RIu (by with_reducible assumption) ?_ ?_ ?_ ?_ ?_) <;> omega) | ((with_reducible refine y_DIu (by with_reducible assumption) ?_ ?_ ?_) <;> omega)) (by omega) (by omega) (by omega) (by omega) (by omega) (by omega) (by omega) (by omega) (by omega) (by omega)
              · skip
                try have e131 := @y_cl ((l4 + l6) - (1 : Int32)) (by omega)
                try have e132 := hfr.at (Int32.toNatClampNeg ((l4 + l6) - (1 : Int32))) (by omega)
                try have e133 := e132.b
                have c109' := c109
                rw [← Int32.toInt_inj] at c109'
                refine y_gd (y_gdI (by omega) (by omega)) ?_
                refine y_if (fun c134 => ?_) (fun c134 => ?_)
                · skip
                  have c134' := c134
                  rw [← Int32.toInt_inj] at c134'
                  have e135 : (1 : Int32).toInt = 1 := rfl
                  rw [f_X9_comes_L]
                  refine y_in (by decide) ?_
                  refine y_in (by decide) ?_
                  refine y_in (by decide) ?_
                  refine y_in (by decide) ?_
                  refine y_in (by decide) ?_
                  refine y_in (by decide) ?_
                  refine y_in (by decide) ?_
                  refine y_ip rfl ?_
                  refine y_if (fun c136 => ?_) (fun c136 => ?_)
                  · skip
                    have c136' := c136
                    rw [← Int32.toInt_inj] at c136'
                    rw [f_X9_comes_L]
                    refine y_in (by decide) ?_
                    refine y_in (by decide) ?_
                    refine y_in (by decide) ?_
                    refine y_in (by decide) ?_
                    refine y_in (by decide) ?_
                    refine y_in (by decide) ?_
                    refine y_in (by decide) ?_
                    refine y_in (by decide) ?_
                    refine y_in (by decide) ?_
                    refine y_ip rfl ?_
                    try have e137 := @y_addL l6 (1 : Int32) (1) rfl (by omega) (by omega)
                    exact ih (l1 := 0) (l2 := 0) (l3 := l3) (l4 := l4) (l5 := l5) (l6 := (l6 + 1)) (l7 := 0) (l8 := 0) (g9_57 := g9_57) (by first | with_reducible assumption | omega | ((with_reducible refine y_Vl ?_ ?_) <;> omega) | (unfold y_Le; omega) | ((with_reducible refine y_RIm (by with_reducible assumption) ?_ ?_ ?_) <;> omega) | ((with_reducible refine y_RIu (by with_reducible assumption) ?_ ?_ ?_ ?_ ?_) <;> omega) | ((with_reducible refine y_DIu (by with_reducible assumption) ?_ ?_ ?_) <;> omega)) (by first | with_reducible assumption | omega | ((with_reducible refine y_Vl ?_ ?_) <;> omega) | (unfold y_Le; omega) | ((with_reducible refine y_RIm (by with_reducible assumption) ?_ ?_ ?_) <;> omega) | ((with_reducible refine y_RIu (by with_reducible assumption) ?_ ?_ ?_ ?_ ?_) <;> omega) | ((with_reducible refine y_DIu (by with_reducible assumption) ?_ ?_ ?_) <;> omega)) (by omega) (by omega) (by omega) (by omega) (by omega) (by omega) (by omega) (by omega) (by omega) (by omega)
                  · skip
                    have c136' := c136
                    rw [← Int32.toInt_inj] at c136'
                    try have e138 := @y_addL (l4 + l6) (1 : Int32) (1) rfl (by omega) (by omega)
                    refine y_gd (y_gdI (by omega) (by omega)) ?_
                    refine y_if (fun c139 => ?_) (fun c139 => ?_)
                    · skip
                      try have e140 := @y_cl ((l4 + l6) + (1 : Int32)) (by omega)
                      try have e141 := hfr.at (Int32.toNatClampNeg ((l4 + l6) + (1 : Int32))) (by omega)
                      try have e142 := e141.b
                      have c139' := c139
                      rw [← Int32.toInt_inj] at c139'
                      rw [f_X9_comes_L]
                      refine y_in (by decide) ?_
                      refine y_in (by decide) ?_
                      refine y_in (by decide) ?_
                      refine y_in (by decide) ?_
                      refine y_in (by decide) ?_
                      refine y_in (by decide) ?_
                      refine y_in (by decide) ?_
                      refine y_in (by decide) ?_
                      refine y_in (by decide) ?_
                      refine y_ip rfl ?_
                      try have e143 := @y_addL l6 (1 : Int32) (1) rfl (by omega) (by omega)
                      exact ih (l1 := 0) (l2 := 0) (l3 := l3) (l4 := l4) (l5 := l5) (l6 := (l6 + 1)) (l7 := 0) (l8 := 0) (g9_57 := g9_57) (by first | with_reducible assumption | omega | ((with_reducible refine y_Vl ?_ ?_) <;> omega) | (unfold y_Le; omega) | ((with_reducible refine y_RIm (by with_reducible assumption) ?_ ?_ ?_) <;> omega) | ((with_reducible refine y_RIu (by with_reducible assumption) ?_ ?_ ?_ ?_ ?_) <;> omega) | ((with_reducible refine y_DIu (by with_reducible assumption) ?_ ?_ ?_) <;> omega)) (by first | with_reducible assumption | omega | ((with_reducible refine y_Vl ?_ ?_) <;> omega) | (unfold y_Le; omega) | ((with_reducible refine y_RIm (by with_reducible assumption) ?_ ?_ ?_) <;> omega) | ((with_reducible refine y_RIu (by with_reducible assumption) ?_ ?_ ?_ ?_ ?_) <;> omega) | ((with_reducible refine y_DIu (by with_reducible assumption) ?_ ?_ ?_) <;> omega)) (by omega) (by omega) (by omega) (by omega) (by omega) (by omega) (by omega) (by omega) (by omega) (by omega)
                    · skip
                      try have e144 := @y_cl ((l4 + l6) + (1 : Int32)) (by omega)
                      try have e145 := hfr.at (Int32.toNatClampNeg ((l4 + l6) + (1 : Int32))) (by omega)
                      try have e146 := e145.b
                      have c139' := c139
                      rw [← Int32.toInt_inj] at c139'
                      rw [f_X9_comes_L]
                      refine y_in (by decide) ?_
                      refine y_in (by decide) ?_
                      refine y_in (by decide) ?_
                      refine y_in (by decide) ?_
                      refine y_in (by decide) ?_
                      refine y_in (by decide) ?_
                      refine y_in (by decide) ?_
                      refine y_in (by decide) ?_
                      refine y_ip rfl ?_
                      refine y_gd (y_gdI (by omega) (by omega)) ?_
                      try have e147 := @y_M_upd g9_57 (Int32.toNatClampNeg (l4 + l6)) (0 : Int32) L (by omega)
                      try have e148 := (hfr.at (Int32.toNatClampNeg (l4 + l6)) (by omega)).rk
                      have e149 := y_rk_0
                      try have e150 : y_H C v9_48.toInt v9_17.toInt (upd g9_57 (Int32.toNatClampNeg (l4 + l6)) (0 : Int32)) := y_H_upd hH hat (by omega) (by omega)
                      try have e151 : y_AV 60600 (upd g9_57 (Int32.toNatClampNeg (l4 + l6)) (0 : Int32)) := y_AV_upd hfr (by first | with_reducible assumption | omega | ((with_reducible refine y_Vl ?_ ?_) <;> omega) | (unfold y_Le; omega) | ((with_reducible refine y_RIm (by with_reducible assumption) ?_ ?_ ?_) <;> omega) | ((with_reducible refine y_RIu (by with_reducible assumption) ?_ ?_ ?_ ?_ ?_) <;> omega) | ((with_reducible refine y_DIu (by with_reducible assumption) ?_ ?_ ?_) <;> omega))
                      rw [f_X9_comes_L]
                      refine y_in (by decide) ?_
                      refine y_in (by decide) ?_
                      refine y_in (by decide) ?_
                      refine y_in (by decide) ?_
                      refine y_in (by decide) ?_
                      refine y_in (by decide) ?_
                      refine y_in (by decide) ?_
                      refine y_in (by decide) ?_
                      refine y_in (by decide) ?_
                      refine y_ip rfl ?_
                      try have e152 := @y_addL l6 (1 : Int32) (1) rfl (by omega) (by omega)
                      exact ih (l1 := 0) (l2 := 0) (l3 := l3) (l4 := l4) (l5 := l5) (l6 := (l6 + 1)) (l7 := 0) (l8 := 0) (g9_57 := ((upd g9_57 (Int32.toNatClampNeg (l4 + l6)) 0))) (by first | with_reducible assumption | omega | ((with_reducible refine y_Vl ?_ ?_) <;> omega) | (unfold y_Le; omega) | ((with_reducible refine y_RIm (by with_reducible assumption) ?_ ?_ ?_) <;> omega) | ((with_reducible refine y_RIu (by with_reducible assumption) ?_ ?_ ?_ ?_ ?_) <;> omega) | ((with_reducible refine y_DIu (by with_reducible assumption) ?_ ?_ ?_) <;> omega)) (by first | with_reducible assumption | omega | ((with_reducible refine y_Vl ?_ ?_) <;> omega) | (unfold y_Le; omega) | ((with_reducible refine y_RIm (by with_reducible assumption) ?_ ?_ ?_) <;> omega) | ((with_reducible refine y_RIu (by with_reducible assumption) ?_ ?_ ?_ ?_ ?_) <;> omega) | ((with_reducible refine y_DIu (by with_reducible assumption) ?_ ?_ ?_) <;> omega)) (by omega) (by omega) (by omega) (by omega) (by omega) (by omega) (by omega) (by omega) (by omega) (by omega)
                · skip
                  have c134' := c134
                  rw [← Int32.toInt_inj] at c134'
                  rw [f_X9_comes_L]
                  refine y_in (by decide) ?_
                  refine y_in (by decide) ?_
                  refine y_in (by decide) ?_
                  refine y_in (by decide) ?_
                  refine y_in (by decide) ?_
                  refine y_in (by decide) ?_
                  refine y_in (by decide) ?_
                  refine y_in (by decide) ?_
                  refine y_ip rfl ?_
                  refine y_gd (y_gdI (by omega) (by omega)) ?_
                  try have e153 := @y_M_upd g9_57 (Int32.toNatClampNeg (l4 + l6)) (0 : Int32) L (by omega)
                  try have e154 := (hfr.at (Int32.toNatClampNeg (l4 + l6)) (by omega)).rk
                  have e155 := y_rk_0
                  try have e156 : y_H C v9_48.toInt v9_17.toInt (upd g9_57 (Int32.toNatClampNeg (l4 + l6)) (0 : Int32)) := y_H_upd hH hat (by omega) (by omega)
                  try have e157 : y_AV 60600 (upd g9_57 (Int32.toNatClampNeg (l4 + l6)) (0 : Int32)) := y_AV_upd hfr (by first | with_reducible assumption | omega | ((with_reducible refine y_Vl ?_ ?_) <;> omega) | (unfold y_Le; omega) | ((with_reducible refine y_RIm (by with_reducible assumption) ?_ ?_ ?_) <;> omega) | ((with_reducible refine y_RIu (by with_reducible assumption) ?_ ?_ ?_ ?_ ?_) <;> omega) | ((with_reducible refine y_DIu (by with_reducible assumption) ?_ ?_ ?_) <;> omega))
                  rw [f_X9_comes_L]
                  refine y_in (by decide) ?_
                  refine y_in (by decide) ?_
                  refine y_in (by decide) ?_
                  refine y_in (by decide) ?_
                  refine y_in (by decide) ?_
                  refine y_in (by decide) ?_
                  refine y_in (by decide) ?_
                  refine y_in (by decide) ?_
                  refine y_in (by decide) ?_
                  refine y_ip rfl ?_
                  try have e158 := @y_addL l6 (1 : Int32) (1) rfl (by omega) (by omega)
                  exact ih (l1 := 0) (l2 := 0) (l3 := l3) (l4 := l4) (l5 := l5) (l6 := (l6 + 1)) (l7 := 0) (l8 := 0) (g9_57 := ((upd g9_57 (Int32.toNatClampNeg (l4 + l6)) 0))) (by first | with_reducible assumption | omega | ((with_reducible refine y_Vl ?_ ?_) <;> omega) | (unfold y_Le; omega) | ((with_reducible refine y_RIm (by with_reducible assumption) ?_ ?_ ?_) <;> omega) | ((with_reducible refine y_RIu (by with_reducible assumption) ?_ ?_ ?_ ?_ ?_) <;> omega) | ((with_reducible refine y_DIu (by with_reducible assumption) ?_ ?_ ?_) <;> omega)) (by first | with_reducible assumption | omega | ((with_reducible refine y_Vl ?_ ?_) <;> omega) | (unfold y_Le; omega) | ((with_reducible refine y_RIm (by with_reducible assumption) ?_ ?_ ?_) <;> omega) | ((with_reducible refine y_RIu (by with_reducible assumption) ?_ ?_ ?_ ?_ ?_) <;> omega) | ((with_reducible refine y_DIu (by with_reducible assumption) ?_ ?_ ?_) <;> omega)) (by omega) (by omega) (by omega) (by omega) (by omega) (by omega) (by omega) (by omega) (by omega) (by omega)
          · skip
            have e159 : (7 : Int32).toInt = 7 := rfl
            have c99' := c99
            rw [← Int32.toInt_inj] at c99'
            have e160 : (1 : Int32).toInt = 1 := rfl
            rw [f_X9_comes_L]
            refine y_in (by decide) ?_
            refine y_in (by decide) ?_
            refine y_in (by decide) ?_
            refine y_in (by decide) ?_
            refine y_in (by decide) ?_
            refine y_in (by decide) ?_
            refine y_in (by decide) ?_
            refine y_ip rfl ?_
            refine y_if (fun c161 => ?_) (fun c161 => ?_)
            · skip
              have c161' := c161
              rw [← Int32.toInt_inj] at c161'
              rw [f_X9_comes_L]
              refine y_in (by decide) ?_
              refine y_in (by decide) ?_
              refine y_in (by decide) ?_
              refine y_in (by decide) ?_
              refine y_in (by decide) ?_
              refine y_in (by decide) ?_
              refine y_in (by decide) ?_
              refine y_in (by decide) ?_
              refine y_in (by decide) ?_
              refine y_ip rfl ?_
              try have e162 := @y_addL l6 (1 : Int32) (1) rfl (by omega) (by omega)
              exact ih (l1 := 0) (l2 := 0) (l3 := l3) (l4 := l4) (l5 := l5) (l6 := (l6 + 1)) (l7 := 0) (l8 := 0) (g9_57 := g9_57) (by first | with_reducible assumption | omega | ((with_reducible refine y_Vl ?_ ?_) <;> omega) | (unfold y_Le; omega) | ((with_reducible refine y_RIm (by with_reducible assumption) ?_ ?_ ?_) <;> omega) | ((with_reducible refine y_RIu (by with_reducible assumption) ?_ ?_ ?_ ?_ ?_) <;> omega) | ((with_reducible refine y_DIu (by with_reducible assumption) ?_ ?_ ?_) <;> omega)) (by first | with_reducible assumption | omega | ((with_reducible refine y_Vl ?_ ?_) <;> omega) | (unfold y_Le; omega) | ((with_reducible refine y_RIm (by with_reducible assumption) ?_ ?_ ?_) <;> omega) | ((with_reducible refine y_RIu (by with_reducible assumption) ?_ ?_ ?_ ?_ ?_) <;> omega) | ((with_reducible refine y_DIu (by with_reducible assumption) ?_ ?_ ?_) <;> omega)) (by omega) (by omega) (by omega) (by omega) (by omega) (by omega) (by omega) (by omega) (by omega) (by omega)
            · skip
              have c161' := c161
              rw [← Int32.toInt_inj] at c161'
              try have e163 := @y_addL (l4 + l6) (1 : Int32) (1) rfl (by omega) (by omega)
              refine y_gd (y_gdI (by omega) (by omega)) ?_
              refine y_if (fun c164 => ?_) (fun c164 => ?_)
              · skip
                try have e165 := @y_cl ((l4 + l6) + (1 : Int32)) (by omega)
                try have e166 := hfr.at (Int32.toNatClampNeg ((l4 + l6) + (1 : Int32))) (by omega)
                try have e167 := e166.b
                have c164' := c164
                rw [← Int32.toInt_inj] at c164'
                rw [f_X9_comes_L]
                refine y_in (by decide) ?_
                refine y_in (by decide) ?_
                refine y_in (by decide) ?_
                refine y_in (by decide) ?_
                refine y_in (by decide) ?_
                refine y_in (by decide) ?_
                refine y_in (by decide) ?_
                refine y_in (by decide) ?_
                refine y_in (by decide) ?_
                refine y_ip rfl ?_
                try have e168 := @y_addL l6 (1 : Int32) (1) rfl (by omega) (by omega)
                exact ih (l1 := 0) (l2 := 0) (l3 := l3) (l4 := l4) (l5 := l5) (l6 := (l6 + 1)) (l7 := 0) (l8 := 0) (g9_57 := g9_57) (by first | with_reducible assumption | omega | ((with_reducible refine y_Vl ?_ ?_) <;> omega) | (unfold y_Le; omega) | ((with_reducible refine y_RIm (by with_reducible assumption) ?_ ?_ ?_) <;> omega) | ((with_reducible refine y_RIu (by with_reducible assumption) ?_ ?_ ?_ ?_ ?_) <;> omega) | ((with_reducible refine y_DIu (by with_reducible assumption) ?_ ?_ ?_) <;> omega)) (by first | with_reducible assumption | omega | ((with_reducible refine y_Vl ?_ ?_) <;> omega) | (unfold y_Le; omega) | ((with_reducible refine y_RIm (by with_reducible assumption) ?_ ?_ ?_) <;> omega) | ((with_reducible refine y_RIu (by with_reducible assumption) ?_ ?_ ?_ ?_ ?_) <;> omega) | ((with_reducible refine y_DIu (by with_reducible assumption) ?_ ?_ ?_) <;> omega)) (by omega) (by omega) (by omega) (by omega) (by omega) (by omega) (by omega) (by omega) (by omega) (by omega)
              · skip
                try have e169 := @y_cl ((l4 + l6) + (1 : Int32)) (by omega)
                try have e170 := hfr.at (Int32.toNatClampNeg ((l4 + l6) + (1 : Int32))) (by omega)
                try have e171 := e170.b
                have c164' := c164
                rw [← Int32.toInt_inj] at c164'
                rw [f_X9_comes_L]
                refine y_in (by decide) ?_
                refine y_in (by decide) ?_
                refine y_in (by decide) ?_
                refine y_in (by decide) ?_
                refine y_in (by decide) ?_
                refine y_in (by decide) ?_
                refine y_in (by decide) ?_
                refine y_in (by decide) ?_
                refine y_ip rfl ?_
                refine y_gd (y_gdI (by omega) (by omega)) ?_
                try have e172 := @y_M_upd g9_57 (Int32.toNatClampNeg (l4 + l6)) (0 : Int32) L (by omega)
                try have e173 := (hfr.at (Int32.toNatClampNeg (l4 + l6)) (by omega)).rk
                have e174 := y_rk_0
                try have e175 : y_H C v9_48.toInt v9_17.toInt (upd g9_57 (Int32.toNatClampNeg (l4 + l6)) (0 : Int32)) := y_H_upd hH hat (by omega) (by omega)
                try have e176 : y_AV 60600 (upd g9_57 (Int32.toNatClampNeg (l4 + l6)) (0 : Int32)) := y_AV_upd hfr (by first | with_reducible assumption | omega | ((with_reducible refine y_Vl ?_ ?_) <;> omega) | (unfold y_Le; omega) | ((with_reducible refine y_RIm (by with_reducible assumption) ?_ ?_ ?_) <;> omega) | ((with_reducible refine y_RIu (by with_reducible assumption) ?_ ?_ ?_ ?_ ?_) <;> omega) | ((with_reducible refine y_DIu (by with_reducible assumption) ?_ ?_ ?_) <;> omega))
                rw [f_X9_comes_L]
                refine y_in (by decide) ?_
                refine y_in (by decide) ?_
                refine y_in (by decide) ?_
                refine y_in (by decide) ?_
                refine y_in (by decide) ?_
                refine y_in (by decide) ?_
                refine y_in (by decide) ?_
                refine y_in (by decide) ?_
                refine y_in (by decide) ?_
                refine y_ip rfl ?_
                try have e177 := @y_addL l6 (1 : Int32) (1) rfl (by omega) (by omega)
                exact ih (l1 := 0) (l2 := 0) (l3 := l3) (l4 := l4) (l5 := l5) (l6 := (l6 + 1)) (l7 := 0) (l8 := 0) (g9_57 := ((upd g9_57 (Int32.toNatClampNeg (l4 + l6)) 0))) (by first | with_reducible assumption | omega | ((with_reducible refine y_Vl ?_ ?_) <;> omega) | (unfold y_Le; omega) | ((with_reducible refine y_RIm (by with_reducible assumption) ?_ ?_ ?_) <;> omega) | ((with_reducible refine y_RIu (by with_reducible assumption) ?_ ?_ ?_ ?_ ?_) <;> omega) | ((with_reducible refine y_DIu (by with_reducible assumption) ?_ ?_ ?_) <;> omega)) (by first | with_reducible assumption | omega | ((with_reducible refine y_Vl ?_ ?_) <;> omega) | (unfold y_Le; omega) | ((with_reducible refine y_RIm (by with_reducible assumption) ?_ ?_ ?_) <;> omega) | ((with_reducible refine y_RIu (by with_reducible assumption) ?_ ?_ ?_ ?_ ?_) <;> omega) | ((with_reducible refine y_DIu (by with_reducible assumption) ?_ ?_ ?_) <;> omega)) (by omega) (by omega) (by omega) (by omega) (by omega) (by omega) (by omega) (by omega) (by omega) (by omega)
        · skip
          have e178 : (4 : Int32).toInt = 4 := rfl
          have c96' := c96
          rw [← Int32.toInt_inj] at c96'
          refine y_if (fun c179 => ?_) (fun c179 => ?_)
          · skip
            have e180 : (7 : Int32).toInt = 7 := rfl
            have c179' := c179
            rw [← Int32.toInt_inj] at c179'
            refine y_if (fun c181 => ?_) (fun c181 => ?_)
            · skip
              have e182 : (0 : Int32).toInt = 0 := rfl
              have c181' := c181
              rw [← Int32.toInt_inj] at c181'
              rw [f_X9_comes_L]
              refine y_in (by decide) ?_
              refine y_in (by decide) ?_
              refine y_in (by decide) ?_
              refine y_in (by decide) ?_
              refine y_in (by decide) ?_
              refine y_in (by decide) ?_
              refine y_in (by decide) ?_
              refine y_in (by decide) ?_
              refine y_ip rfl ?_
              refine y_gd (y_gdI (by omega) (by omega)) ?_
              try have e183 := @y_M_upd g9_57 (Int32.toNatClampNeg (l4 + l6)) (0 : Int32) L (by omega)
              try have e184 := (hfr.at (Int32.toNatClampNeg (l4 + l6)) (by omega)).rk
              have e185 := y_rk_0
              try have e186 : y_H C v9_48.toInt v9_17.toInt (upd g9_57 (Int32.toNatClampNeg (l4 + l6)) (0 : Int32)) := y_H_upd hH hat (by omega) (by omega)
              try have e187 : y_AV 60600 (upd g9_57 (Int32.toNatClampNeg (l4 + l6)) (0 : Int32)) := y_AV_upd hfr (by first | with_reducible assumption | omega | ((with_reducible refine y_Vl ?_ ?_) <;> omega) | (unfold y_Le; omega) | ((with_reducible refine y_RIm (by with_reducible assumption) ?_ ?_ ?_) <;> omega) | ((with_reducible refine y_RIu (by with_reducible assumption) ?_ ?_ ?_ ?_ ?_) <;> omega) | ((with_reducible refine y_DIu (by with_reducible assumption) ?_ ?_ ?_) <;> omega))
              rw [f_X9_comes_L]
              refine y_in (by decide) ?_
              refine y_in (by decide) ?_
              refine y_in (by decide) ?_
              refine y_in (by decide) ?_
              refine y_in (by decide) ?_
              refine y_in (by decide) ?_
              refine y_in (by decide) ?_
              refine y_in (by decide) ?_
              refine y_in (by decide) ?_
              refine y_ip rfl ?_
              try have e188 := @y_addL l6 (1 : Int32) (1) rfl (by omega) (by omega)
              exact ih (l1 := 0) (l2 := 0) (l3 := l3) (l4 := l4) (l5 := l5) (l6 := (l6 + 1)) (l7 := 0) (l8 := 0) (g9_57 := ((upd g9_57 (Int32.toNatClampNeg (l4 + l6)) 0))) (by first | with_reducible assumption | omega | ((with_reducible refine y_Vl ?_ ?_) <;> omega) | (unfold y_Le; omega) | ((with_reducible refine y_RIm (by with_reducible assumption) ?_ ?_ ?_) <;> omega) | ((with_reducible refine y_RIu (by with_reducible assumption) ?_ ?_ ?_ ?_ ?_) <;> omega) | ((with_reducible refine y_DIu (by with_reducible assumption) ?_ ?_ ?_) <;> omega)) (by first | with_reducible assumption | omega | ((with_reducible refine y_Vl ?_ ?_) <;> omega) | (unfold y_Le; omega) | ((with_reducible refine y_RIm (by with_reducible assumption) ?_ ?_ ?_) <;> omega) | ((with_reducible refine y_RIu (by with_reducible assumption) ?_ ?_ ?_ ?_ ?_) <;> omega) | ((with_reducible refine y_DIu (by with_reducible assumption) ?_ ?_ ?_) <;> omega)) (by omega) (by omega) (by omega) (by omega) (by omega) (by omega) (by omega) (by omega) (by omega) (by omega)
            · skip
              have e189 : (0 : Int32).toInt = 0 := rfl
              have c181' := c181
              rw [← Int32.toInt_inj] at c181'
              try have e190 := @y_subL (l4 + l6) (1 : Int32) (1) rfl (by omega) (by omega)
              refine y_gd (y_gdI (by omega) (by omega)) ?_
              refine y_if (fun c191 => ?_) (fun c191 => ?_)
              · skip
                try have e192 := @y_cl ((l4 + l6) - (1 : Int32)) (by omega)
                try have e193 := hfr.at (Int32.toNatClampNeg ((l4 + l6) - (1 : Int32))) (by omega)
                try have e194 := e193.b
                have c191' := c191
                rw [← Int32.toInt_inj] at c191'
                rw [f_X9_comes_L]
                refine y_in (by decide) ?_
                refine y_in (by decide) ?_
                refine y_in (by decide) ?_
                refine y_in (by decide) ?_
                refine y_in (by decide) ?_
                refine y_in (by decide) ?_
                refine y_in (by decide) ?_
                refine y_ip rfl ?_
                refine y_if (fun c195 => ?_) (fun c195 => ?_)
                · skip
                  have c195' := c195
                  rw [← Int32.toInt_inj] at c195'
                  rw [f_X9_comes_L]
                  refine y_in (by decide) ?_
                  refine y_in (by decide) ?_
                  refine y_in (by decide) ?_
                  refine y_in (by decide) ?_
                  refine y_in (by decide) ?_
                  refine y_in (by decide) ?_
                  refine y_in (by decide) ?_
                  refine y_in (by decide) ?_
                  refine y_in (by decide) ?_
                  refine y_ip rfl ?_
                  try have e196 := @y_addL l6 (1 : Int32) (1) rfl (by omega) (by omega)
                  exact ih (l1 := 0) (l2 := 0) (l3 := l3) (l4 := l4) (l5 := l5) (l6 := (l6 + 1)) (l7 := 0) (l8 := 0) (g9_57 := g9_57) (by first | with_reducible assumption | omega | ((with_reducible refine y_Vl ?_ ?_) <;> omega) | (unfold y_Le; omega) | ((with_reducible refine y_RIm (by with_reducible assumption) ?_ ?_ ?_) <;> omega) | ((with_reducible refine y_RIu (by with_reducible assumption) ?_ ?_ ?_ ?_ ?_) <;> omega) | ((with_reducible refine y_DIu (by with_reducible assumption) ?_ ?_ ?_) <;> omega)) (by first | with_reducible assumption | omega | ((with_reducible refine y_Vl ?_ ?_) <;> omega) | (unfold y_Le; omega) | ((with_reducible refine y_RIm (by with_reducible assumption) ?_ ?_ ?_) <;> omega) | ((with_reducible refine y_RIu (by with_reducible assumption) ?_ ?_ ?_ ?_ ?_) <;> omega) | ((with_reducible refine y_DIu (by with_reducible assumption) ?_ ?_ ?_) <;> omega)) (by omega) (by omega) (by omega) (by omega) (by omega) (by omega) (by omega) (by omega) (by omega) (by omega)
                · skip
                  have c195' := c195
                  rw [← Int32.toInt_inj] at c195'
                  try have e197 := @y_addL (l4 + l6) (1 : Int32) (1) rfl (by omega) (by omega)
                  refine y_gd (y_gdI (by omega) (by omega)) ?_
                  refine y_if (fun c198 => ?_) (fun c198 => ?_)
                  · skip
                    try have e199 := @y_cl ((l4 + l6) + (1 : Int32)) (by omega)
                    try have e200 := hfr.at (Int32.toNatClampNeg ((l4 + l6) + (1 : Int32))) (by omega)
                    try have e201 := e200.b
                    have c198' := c198
                    rw [← Int32.toInt_inj] at c198'
                    rw [f_X9_comes_L]
                    refine y_in (by decide) ?_
                    refine y_in (by decide) ?_
                    refine y_in (by decide) ?_
                    refine y_in (by decide) ?_
                    refine y_in (by decide) ?_
                    refine y_in (by decide) ?_
                    refine y_in (by decide) ?_
                    refine y_in (by decide) ?_
                    refine y_in (by decide) ?_
                    refine y_ip rfl ?_
                    try have e202 := @y_addL l6 (1 : Int32) (1) rfl (by omega) (by omega)
                    exact ih (l1 := 0) (l2 := 0) (l3 := l3) (l4 := l4) (l5 := l5) (l6 := (l6 + 1)) (l7 := 0) (l8 := 0) (g9_57 := g9_57) (by first | with_reducible assumption | omega | ((with_reducible refine y_Vl ?_ ?_) <;> omega) | (unfold y_Le; omega) | ((with_reducible refine y_RIm (by with_reducible assumption) ?_ ?_ ?_) <;> omega) | ((with_reducible refine y_RIu (by with_reducible assumption) ?_ ?_ ?_ ?_ ?_) <;> omega) | ((with_reducible refine y_DIu (by with_reducible assumption) ?_ ?_ ?_) <;> omega)) (by first | with_reducible assumption | omega | ((with_reducible refine y_Vl ?_ ?_) <;> omega) | (unfold y_Le; omega) | ((with_reducible refine y_RIm (by with_reducible assumption) ?_ ?_ ?_) <;> omega) | ((with_reducible refine y_RIu (by with_reducible assumption) ?_ ?_ ?_ ?_ ?_) <;> omega) | ((with_reducible refine y_DIu (by with_reducible assumption) ?_ ?_ ?_) <;> omega)) (by omega) (by omega) (by omega) (by omega) (by omega) (by omega) (by omega) (by omega) (by omega) (by omega)
                  · skip
                    try have e203 := @y_cl ((l4 + l6) + (1 : Int32)) (by omega)
                    try have e204 := hfr.at (Int32.toNatClampNeg ((l4 + l6) + (1 : Int32))) (by omega)
                    try have e205 := e204.b
                    have c198' := c198
                    rw [← Int32.toInt_inj] at c198'
                    rw [f_X9_comes_L]
                    refine y_in (by decide) ?_
                    refine y_in (by decide) ?_
                    refine y_in (by decide) ?_
                    refine y_in (by decide) ?_
                    refine y_in (by decide) ?_
                    refine y_in (by decide) ?_
                    refine y_in (by decide) ?_
                    refine y_in (by decide) ?_
                    refine y_ip rfl ?_
                    refine y_gd (y_gdI (by omega) (by omega)) ?_
                    try have e206 := @y_M_upd g9_57 (Int32.toNatClampNeg (l4 + l6)) (0 : Int32) L (by omega)
                    try have e207 := (hfr.at (Int32.toNatClampNeg (l4 + l6)) (by omega)).rk
                    have e208 := y_rk_0
                    try have e209 : y_H C v9_48.toInt v9_17.toInt (upd g9_57 (Int32.toNatClampNeg (l4 + l6)) (0 : Int32)) := y_H_upd hH hat (by omega) (by omega)
                    try have e210 : y_AV 60600 (upd g9_57 (Int32.toNatClampNeg (l4 + l6)) (0 : Int32)) := y_AV_upd hfr (by first | with_reducible assumption | omega | ((with_reducible refine y_Vl ?_ ?_) <;> omega) | (unfold y_Le; omega) | ((with_reducible refine y_RIm (by with_reducible assumption) ?_ ?_ ?_) <;> omega) | ((with_reducible refine y_RIu (by with_reducible assumption) ?_ ?_ ?_ ?_ ?_) <;> omega) | ((with_reducible refine y_DIu (by with_reducible assumption) ?_ ?_ ?_) <;> omega))
                    rw [f_X9_comes_L]
                    refine y_in (by decide) ?_
                    refine y_in (by decide) ?_
                    refine y_in (by decide) ?_
                    refine y_in (by decide) ?_
                    refine y_in (by decide) ?_
                    refine y_in (by decide) ?_
                    refine y_in (by decide) ?_
                    refine y_in (by decide) ?_
                    refine y_in (by decide) ?_
                    refine y_ip rfl ?_
                    try have e211 := @y_addL l6 (1 : Int32) (1) rfl (by omega) (by omega)
                    exact ih (l1 := 0) (l2 := 0) (l3 := l3) (l4 := l4) (l5 := l5) (l6 := (l6 + 1)) (l7 := 0) (l8 := 0) (g9_57 := ((upd g9_57 (Int32.toNatClampNeg (l4 + l6)) 0))) (by first | with_reducible assumption | omega | ((with_reducible refine y_Vl ?_ ?_) <;> omega) | (unfold y_Le; omega) | ((with_reducible refine y_RIm (by with_reducible assumption) ?_ ?_ ?_) <;> omega) | ((with_reducible refine y_RIu (by with_reducible assumption) ?_ ?_ ?_ ?_ ?_) <;> omega) | ((with_reducible refine y_DIu (by with_reducible assumption) ?_ ?_ ?_) <;> omega)) (by first | with_reducible assumption | omega | ((with_reducible refine y_Vl ?_ ?_) <;> omega) | (unfold y_Le; omega) | ((with_reducible refine y_RIm (by with_reducible assumption) ?_ ?_ ?_) <;> omega) | ((with_reducible refine y_RIu (by with_reducible assumption) ?_ ?_ ?_ ?_ ?_) <;> omega) | ((with_reducible refine y_DIu (by with_reducible assumption) ?_ ?_ ?_) <;> omega)) (by omega) (by omega) (by omega) (by omega) (by omega) (by omega) (by omega) (by omega) (by omega) (by omega)
              · skip
                try have e212 := @y_cl ((l4 + l6) - (1 : Int32)) (by omega)
                try have e213 := hfr.at (Int32.toNatClampNeg ((l4 + l6) - (1 : Int32))) (by omega)
                try have e214 := e213.b
                have c191' := c191
                rw [← Int32.toInt_inj] at c191'
                refine y_gd (y_gdI (by omega) (by omega)) ?_
                refine y_if (fun c215 => ?_) (fun c215 => ?_)
                · skip
                  have c215' := c215
                  rw [← Int32.toInt_inj] at c215'
                  rw [f_X9_comes_L]
                  refine y_in (by decide) ?_
                  refine y_in (by decide) ?_
                  refine y_in (by decide) ?_
                  refine y_in (by decide) ?_
                  refine y_in (by decide) ?_
                  refine y_in (by decide) ?_
                  refine y_in (by decide) ?_
                  refine y_ip rfl ?_
                  refine y_if (fun c216 => ?_) (fun c216 => ?_)
                  · skip
                    have c216' := c216
                    rw [← Int32.toInt_inj] at c216'
                    rw [f_X9_comes_L]
                    refine y_in (by decide) ?_
                    refine y_in (by decide) ?_
                    refine y_in (by decide) ?_
                    refine y_in (by decide) ?_
                    refine y_in (by decide) ?_
                    refine y_in (by decide) ?_
                    refine y_in (by decide) ?_
                    refine y_in (by decide) ?_
                    refine y_in (by decide) ?_
                    refine y_ip rfl ?_
                    try have e217 := @y_addL l6 (1 : Int32) (1) rfl (by omega) (by omega)
                    exact ih (l1 := 0) (l2 := 0) (l3 := l3) (l4 := l4) (l5 := l5) (l6 := (l6 + 1)) (l7 := 0) (l8 := 0) (g9_57 := g9_57) (by first | with_reducible assumption | omega | ((with_reducible refine y_Vl ?_ ?_) <;> omega) | (unfold y_Le; omega) | ((with_reducible refine y_RIm (by with_reducible assumption) ?_ ?_ ?_) <;> omega) | ((with_reducible refine y_RIu (by with_reducible assumption) ?_ ?_ ?_ ?_ ?_) <;> omega) | ((with_reducible refine y_DIu (by with_reducible assumption) ?_ ?_ ?_) <;> omega)) (by first | with_reducible assumption | omega | ((with_reducible refine y_Vl ?_ ?_) <;> omega) | (unfold y_Le; omega) | ((with_reducible refine y_RIm (by with_reducible assumption) ?_ ?_ ?_) <;> omega) | ((with_reducible refine y_RIu (by with_reducible assumption) ?_ ?_ ?_ ?_ ?_) <;> omega) | ((with_reducible refine y_DIu (by with_reducible assumption) ?_ ?_ ?_) <;> omega)) (by omega) (by omega) (by omega) (by omega) (by omega) (by omega) (by omega) (by omega) (by omega) (by omega)
                  · skip
                    have c216' := c216
                    rw [← Int32.toInt_inj] at c216'
                    try have e218 := @y_addL (l4 + l6) (1 : Int32) (1) rfl (by omega) (by omega)
                    refine y_gd (y_gdI (by omega) (by omega)) ?_
                    refine y_if (fun c219 => ?_) (fun c219 => ?_)
                    · skip
                      try have e220 := @y_cl ((l4 + l6) + (1 : Int32)) (by omega)
                      try have e221 := hfr.at (Int32.toNatClampNeg ((l4 + l6) + (1 : Int32))) (by omega)
                      try have e222 := e221.b
                      have c219' := c219
                      rw [← Int32.toInt_inj] at c219'
                      rw [f_X9_comes_L]
                      refine y_in (by decide) ?_
                      refine y_in (by decide) ?_
                      refine y_in (by decide) ?_
                      refine y_in (by decide) ?_
                      refine y_in (by decide) ?_
                      refine y_in (by decide) ?_
                      refine y_in (by decide) ?_
                      refine y_in (by decide) ?_
                      refine y_in (by decide) ?_
                      refine y_ip rfl ?_
                      try have e223 := @y_addL l6 (1 : Int32) (1) rfl (by omega) (by omega)
                      exact ih (l1 := 0) (l2 := 0) (l3 := l3) (l4 := l4) (l5 := l5) (l6 := (l6 + 1)) (l7 := 0) (l8 := 0) (g9_57 := g9_57) (by first | with_reducible assumption | omega | ((with_reducible refine y_Vl ?_ ?_) <;> omega) | (unfold y_Le; omega) | ((with_reducible refine y_RIm (by with_reducible assumption) ?_ ?_ ?_) <;> omega) | ((with_reducible refine y_RIu (by with_reducible assumption) ?_ ?_ ?_ ?_ ?_) <;> omega) | ((with_reducible refine y_DIu (by with_reducible assumption) ?_ ?_ ?_) <;> omega)) (by first | with_reducible assumption | omega | ((with_reducible refine y_Vl ?_ ?_) <;> omega) | (unfold y_Le; omega) | ((with_reducible refine y_RIm (by with_reducible assumption) ?_ ?_ ?_) <;> omega) | ((with_reducible refine y_RIu (by with_reducible assumption) ?_ ?_ ?_ ?_ ?_) <;> omega) | ((with_reducible refine y_DIu (by with_reducible assumption) ?_ ?_ ?_) <;> omega)) (by omega) (by omega) (by omega) (by omega) (by omega) (by omega) (by omega) (by omega) (by omega) (by omega)
                    · skip
                      try have e224 := @y_cl ((l4 + l6) + (1 : Int32)) (by omega)
                      try have e225 := hfr.at (Int32.toNatClampNeg ((l4 + l6) + (1 : Int32))) (by omega)
                      try have e226 := e225.b
                      have c219' := c219
                      rw [← Int32.toInt_inj] at c219'
                      rw [f_X9_comes_L]
                      refine y_in (by decide) ?_
                      refine y_in (by decide) ?_
                      refine y_in (by decide) ?_
                      refine y_in (by decide) ?_
                      refine y_in (by decide) ?_
                      refine y_in (by decide) ?_
                      refine y_in (by decide) ?_
                      refine y_in (by decide) ?_
                      refine y_ip rfl ?_
                      refine y_gd (y_gdI (by omega) (by omega)) ?_
                      try have e227 := @y_M_upd g9_57 (Int32.toNatClampNeg (l4 + l6)) (0 : Int32) L (by omega)
                      try have e228 := (hfr.at (Int32.toNatClampNeg (l4 + l6)) (by omega)).rk
                      have e229 := y_rk_0
                      try have e230 : y_H C v9_48.toInt v9_17.toInt (upd g9_57 (Int32.toNatClampNeg (l4 + l6)) (0 : Int32)) := y_H_upd hH hat (by omega) (by omega)
                      try have e231 : y_AV 60600 (upd g9_57 (Int32.toNatClampNeg (l4 + l6)) (0 : Int32)) := y_AV_upd hfr (by first | with_reducible assumption | omega | ((with_reducible refine y_Vl ?_ ?_) <;> omega) | (unfold y_Le; omega) | ((with_reducible refine y_RIm (by with_reducible assumption) ?_ ?_ ?_) <;> omega) | ((with_reducible refine y_RIu (by with_reducible assumption) ?_ ?_ ?_ ?_ ?_) <;> omega) | ((with_reducible refine y_DIu (by with_reducible assumption) ?_ ?_ ?_) <;> omega))
                      rw [f_X9_comes_L]
                      refine y_in (by decide) ?_
                      refine y_in (by decide) ?_
                      refine y_in (by decide) ?_
                      refine y_in (by decide) ?_
                      refine y_in (by decide) ?_
                      refine y_in (by decide) ?_
                      refine y_in (by decide) ?_
                      refine y_in (by decide) ?_
                      refine y_in (by decide) ?_
                      refine y_ip rfl ?_
                      try have e232 := @y_addL l6 (1 : Int32) (1) rfl (by omega) (by omega)
                      exact ih (l1 := 0) (l2 := 0) (l3 := l3) (l4 := l4) (l5 := l5) (l6 := (l6 + 1)) (l7 := 0) (l8 := 0) (g9_57 := ((upd g9_57 (Int32.toNatClampNeg (l4 + l6)) 0))) (by first | with_reducible assumption | omega | ((with_reducible refine y_Vl ?_ ?_) <;> omega) | (unfold y_Le; omega) | ((with_reducible refine y_RIm (by with_reducible assumption) ?_ ?_ ?_) <;> omega) | ((with_reducible refine y_RIu (by with_reducible assumption) ?_ ?_ ?_ ?_ ?_) <;> omega) | ((with_reducible refine y_DIu (by with_reducible assumption) ?_ ?_ ?_) <;> omega)) (by first | with_reducible assumption | omega | ((with_reducible refine y_Vl ?_ ?_) <;> omega) | (unfold y_Le; omega) | ((with_reducible refine y_RIm (by with_reducible assumption) ?_ ?_ ?_) <;> omega) | ((with_reducible refine y_RIu (by with_reducible assumption) ?_ ?_ ?_ ?_ ?_) <;> omega) | ((with_reducible refine y_DIu (by with_reducible assumption) ?_ ?_ ?_) <;> omega)) (by omega) (by omega) (by omega) (by omega) (by omega) (by omega) (by omega) (by omega) (by omega) (by omega)
                · skip
                  have c215' := c215
                  rw [← Int32.toInt_inj] at c215'
                  rw [f_X9_comes_L]
                  refine y_in (by decide) ?_
                  refine y_in (by decide) ?_
                  refine y_in (by decide) ?_
                  refine y_in (by decide) ?_
                  refine y_in (by decide) ?_
                  refine y_in (by decide) ?_
                  refine y_in (by decide) ?_
                  refine y_in (by decide) ?_
                  refine y_ip rfl ?_
                  refine y_gd (y_gdI (by omega) (by omega)) ?_
                  try have e233 := @y_M_upd g9_57 (Int32.toNatClampNeg (l4 + l6)) (0 : Int32) L (by omega)
                  try have e234 := (hfr.at (Int32.toNatClampNeg (l4 + l6)) (by omega)).rk
                  have e235 := y_rk_0
                  try have e236 : y_H C v9_48.toInt v9_17.toInt (upd g9_57 (Int32.toNatClampNeg (l4 + l6)) (0 : Int32)) := y_H_upd hH hat (by omega) (by omega)
                  try have e237 : y_AV 60600 (upd g9_57 (Int32.toNatClampNeg (l4 + l6)) (0 : Int32)) := y_AV_upd hfr (by first | with_reducible assumption | omega | ((with_reducible refine y_Vl ?_ ?_) <;> omega) | (unfold y_Le; omega) | ((with_reducible refine y_RIm (by with_reducible assumption) ?_ ?_ ?_) <;> omega) | ((with_reducible refine y_RIu (by with_reducible assumption) ?_ ?_ ?_ ?_ ?_) <;> omega) | ((with_reducible refine y_DIu (by with_reducible assumption) ?_ ?_ ?_) <;> omega))
                  rw [f_X9_comes_L]
                  refine y_in (by decide) ?_
                  refine y_in (by decide) ?_
                  refine y_in (by decide) ?_
                  refine y_in (by decide) ?_
                  refine y_in (by decide) ?_
                  refine y_in (by decide) ?_
                  refine y_in (by decide) ?_
                  refine y_in (by decide) ?_
                  refine y_in (by decide) ?_
                  refine y_ip rfl ?_
                  try have e238 := @y_addL l6 (1 : Int32) (1) rfl (by omega) (by omega)
                  exact ih (l1 := 0) (l2 := 0) (l3 := l3) (l4 := l4) (l5 := l5) (l6 := (l6 + 1)) (l7 := 0) (l8 := 0) (g9_57 := ((upd g9_57 (Int32.toNatClampNeg (l4 + l6)) 0))) (by first | with_reducible assumption | omega | ((with_reducible refine y_Vl ?_ ?_) <;> omega) | (unfold y_Le; omega) | ((with_reducible refine y_RIm (by with_reducible assumption) ?_ ?_ ?_) <;> omega) | ((with_reducible refine y_RIu (by with_reducible assumption) ?_ ?_ ?_ ?_ ?_) <;> omega) | ((with_reducible refine y_DIu (by with_reducible assumption) ?_ ?_ ?_) <;> omega)) (by first | with_reducible assumption | omega | ((with_reducible refine y_Vl ?_ ?_) <;> omega) | (unfold y_Le; omega) | ((with_reducible refine y_RIm (by with_reducible assumption) ?_ ?_ ?_) <;> omega) | ((with_reducible refine y_RIu (by with_reducible assumption) ?_ ?_ ?_ ?_ ?_) <;> omega) | ((with_reducible refine y_DIu (by with_reducible assumption) ?_ ?_ ?_) <;> omega)) (by omega) (by omega) (by omega) (by omega) (by omega) (by omega) (by omega) (by omega) (by omega) (by omega)
          · skip
            have e239 : (7 : Int32).toInt = 7 := rfl
            have c179' := c179
            rw [← Int32.toInt_inj] at c179'
            have e240 : (0 : Int32).toInt = 0 := rfl
            rw [f_X9_comes_L]
            refine y_in (by decide) ?_
            refine y_in (by decide) ?_
            refine y_in (by decide) ?_
            refine y_in (by decide) ?_
            refine y_in (by decide) ?_
            refine y_in (by decide) ?_
            refine y_in (by decide) ?_
            refine y_ip rfl ?_
            refine y_if (fun c241 => ?_) (fun c241 => ?_)
            · skip
              have c241' := c241
              rw [← Int32.toInt_inj] at c241'
              rw [f_X9_comes_L]
              refine y_in (by decide) ?_
              refine y_in (by decide) ?_
              refine y_in (by decide) ?_
              refine y_in (by decide) ?_
              refine y_in (by decide) ?_
              refine y_in (by decide) ?_
              refine y_in (by decide) ?_
              refine y_in (by decide) ?_
              refine y_in (by decide) ?_
              refine y_ip rfl ?_
              try have e242 := @y_addL l6 (1 : Int32) (1) rfl (by omega) (by omega)
              exact ih (l1 := 0) (l2 := 0) (l3 := l3) (l4 := l4) (l5 := l5) (l6 := (l6 + 1)) (l7 := 0) (l8 := 0) (g9_57 := g9_57) (by first | with_reducible assumption | omega | ((with_reducible refine y_Vl ?_ ?_) <;> omega) | (unfold y_Le; omega) | ((with_reducible refine y_RIm (by with_reducible assumption) ?_ ?_ ?_) <;> omega) | ((with_reducible refine y_RIu (by with_reducible assumption) ?_ ?_ ?_ ?_ ?_) <;> omega) | ((with_reducible refine y_DIu (by with_reducible assumption) ?_ ?_ ?_) <;> omega)) (by first | with_reducible assumption | omega | ((with_reducible refine y_Vl ?_ ?_) <;> omega) | (unfold y_Le; omega) | ((with_reducible refine y_RIm (by with_reducible assumption) ?_ ?_ ?_) <;> omega) | ((with_reducible refine y_RIu (by with_reducible assumption) ?_ ?_ ?_ ?_ ?_) <;> omega) | ((with_reducible refine y_DIu (by with_reducible assumption) ?_ ?_ ?_) <;> omega)) (by omega) (by omega) (by omega) (by omega) (by omega) (by omega) (by omega) (by omega) (by omega) (by omega)
            · skip
              have c241' := c241
              rw [← Int32.toInt_inj] at c241'
              try have e243 := @y_addL (l4 + l6) (1 : Int32) (1) rfl (by omega) (by omega)
              refine y_gd (y_gdI (by omega) (by omega)) ?_
              refine y_if (fun c244 => ?_) (fun c244 => ?_)
              · skip
                try have e245 := @y_cl ((l4 + l6) + (1 : Int32)) (by omega)
                try have e246 := hfr.at (Int32.toNatClampNeg ((l4 + l6) + (1 : Int32))) (by omega)
                try have e247 := e246.b
                have c244' := c244
                rw [← Int32.toInt_inj] at c244'
                rw [f_X9_comes_L]
                refine y_in (by decide) ?_
                refine y_in (by decide) ?_
                refine y_in (by decide) ?_
                refine y_in (by decide) ?_
                refine y_in (by decide) ?_
                refine y_in (by decide) ?_
                refine y_in (by decide) ?_
                refine y_in (by decide) ?_
                refine y_in (by decide) ?_
                refine y_ip rfl ?_
                try have e248 := @y_addL l6 (1 : Int32) (1) rfl (by omega) (by omega)
                exact ih (l1 := 0) (l2 := 0) (l3 := l3) (l4 := l4) (l5 := l5) (l6 := (l6 + 1)) (l7 := 0) (l8 := 0) (g9_57 := g9_57) (by first | with_reducible assumption | omega | ((with_reducible refine y_Vl ?_ ?_) <;> omega) | (unfold y_Le; omega) | ((with_reducible refine y_RIm (by with_reducible assumption) ?_ ?_ ?_) <;> omega) | ((with_reducible refine y_RIu (by with_reducible assumption) ?_ ?_ ?_ ?_ ?_) <;> omega) | ((with_reducible refine y_DIu (by with_reducible assumption) ?_ ?_ ?_) <;> omega)) (by first | with_reducible assumption | omega | ((with_reducible refine y_Vl ?_ ?_) <;> omega) | (unfold y_Le; omega) | ((with_reducible refine y_RIm (by with_reducible assumption) ?_ ?_ ?_) <;> omega) | ((with_reducible refine y_RIu (by with_reducible assumption) ?_ ?_ ?_ ?_ ?_) <;> omega) | ((with_reducible refine y_DIu (by with_reducible assumption) ?_ ?_ ?_) <;> omega)) (by omega) (by omega) (by omega) (by omega) (by omega) (by omega) (by omega) (by omega) (by omega) (by omega)
              · skip
                try have e249 := @y_cl ((l4 + l6) + (1 : Int32)) (by omega)
                try have e250 := hfr.at (Int32.toNatClampNeg ((l4 + l6) + (1 : Int32))) (by omega)
                try have e251 := e250.b
                have c244' := c244
                rw [← Int32.toInt_inj] at c244'
                rw [f_X9_comes_L]
                refine y_in (by decide) ?_
                refine y_in (by decide) ?_
                refine y_in (by decide) ?_
                refine y_in (by decide) ?_
                refine y_in (by decide) ?_
                refine y_in (by decide) ?_
                refine y_in (by decide) ?_
                refine y_in (by decide) ?_
                refine y_ip rfl ?_
                refine y_gd (y_gdI (by omega) (by omega)) ?_
                try have e252 := @y_M_upd g9_57 (Int32.toNatClampNeg (l4 + l6)) (0 : Int32) L (by omega)
                try have e253 := (hfr.at (Int32.toNatClampNeg (l4 + l6)) (by omega)).rk
                have e254 := y_rk_0
                try have e255 : y_H C v9_48.toInt v9_17.toInt (upd g9_57 (Int32.toNatClampNeg (l4 + l6)) (0 : Int32)) := y_H_upd hH hat (by omega) (by omega)
                try have e256 : y_AV 60600 (upd g9_57 (Int32.toNatClampNeg (l4 + l6)) (0 : Int32)) := y_AV_upd hfr (by first | with_reducible assumption | omega | ((with_reducible refine y_Vl ?_ ?_) <;> omega) | (unfold y_Le; omega) | ((with_reducible refine y_RIm (by with_reducible assumption) ?_ ?_ ?_) <;> omega) | ((with_reducible refine y_RIu (by with_reducible assumption) ?_ ?_ ?_ ?_ ?_) <;> omega) | ((with_reducible refine y_DIu (by with_reducible assumption) ?_ ?_ ?_) <;> omega))
                rw [f_X9_comes_L]
                refine y_in (by decide) ?_
                refine y_in (by decide) ?_
                refine y_in (by decide) ?_
                refine y_in (by decide) ?_
                refine y_in (by decide) ?_
                refine y_in (by decide) ?_
                refine y_in (by decide) ?_
                refine y_in (by decide) ?_
                refine y_in (by decide) ?_
                refine y_ip rfl ?_
                try have e257 := @y_addL l6 (1 : Int32) (1) rfl (by omega) (by omega)
                exact ih (l1 := 0) (l2 := 0) (l3 := l3) (l4 := l4) (l5 := l5) (l6 := (l6 + 1)) (l7 := 0) (l8 := 0) (g9_57 := ((upd g9_57 (Int32.toNatClampNeg (l4 + l6)) 0))) (by first | with_reducible assumption | omega | ((with_reducible refine y_Vl ?_ ?_) <;> omega) | (unfold y_Le; omega) | ((with_reducible refine y_RIm (by with_reducible assumption) ?_ ?_ ?_) <;> omega) | ((with_reducible refine y_RIu (by with_reducible assumption) ?_ ?_ ?_ ?_ ?_) <;> omega) | ((with_reducible refine y_DIu (by with_reducible assumption) ?_ ?_ ?_) <;> omega)) (by first | with_reducible assumption | omega | ((with_reducible refine y_Vl ?_ ?_) <;> omega) | (unfold y_Le; omega) | ((with_reducible refine y_RIm (by with_reducible assumption) ?_ ?_ ?_) <;> omega) | ((with_reducible refine y_RIu (by with_reducible assumption) ?_ ?_ ?_ ?_ ?_) <;> omega) | ((with_reducible refine y_DIu (by with_reducible assumption) ?_ ?_ ?_) <;> omega)) (by omega) (by omega) (by omega) (by omega) (by omega) (by omega) (by omega) (by omega) (by omega) (by omega)
theorem y_X9_comes_L_5 {v9_16 : Int32} {v9_17 : Int32} {v9_35 : Int32} {v9_36 : Int32} {v9_54 : Int32} {g9_4 : Nat → Int32} {g9_5 : Nat → Int32} {g9_33 : Nat → Int32} {g9_34 : Nat → Int32} {v9_48 : Int32} {v9_55 : Int32} {g9_43 : Nat → Int32} {g9_44 : Nat → Int32} {g9_45 : Nat → Int32} {g9_46 : Nat → Int32} {g9_47 : Nat → Int32} {g9_53 : Nat → Int32} {C : Nat} {mn B B2 X0 M0 : Int} {s0 L : Nat} {l1 : Int32} {l2 : Int32} {l3 : Int32} {l4 : Int32} {l5 : Int32} {l6 : Int32} {l7 : Int32} {l8 : Int32} {g9_57 : Nat → Int32} (k0 : 0 ≤ v9_16.toInt) (k1 : v9_16.toInt ≤ 200) (k2 : 0 ≤ v9_17.toInt) (k3 : v9_17.toInt ≤ 200) (k4 : 0 ≤ v9_35.toInt) (k5 : v9_35.toInt ≤ v9_17.toInt) (k6 : 0 ≤ v9_36.toInt) (k7 : v9_36.toInt ≤ 1) (k8 : y_Up g9_4) (k9 : y_AV 202 g9_33) (k10 : y_AV 202 g9_34) (hC : (C : Int) = v9_16.toInt + v9_17.toInt) (k12 : 0 ≤ v9_48.toInt) (k13 : 0 ≤ v9_54.toInt) (k14 : v9_54.toInt < 20010) (k15 : B ≤ B2) (k16 : mn ≤ 999) (hL : L = 60600) (hfit : y_Fit v9_48.toInt C) (hsat : y_RI v9_48.toInt 0 mn g9_43) (hctx : y_RI v9_48.toInt 0 B g9_44) (hnxt : y_DI v9_48.toInt g9_45) (hhead : y_RI (mn + 1) (-1) (v9_48.toInt - 1) g9_46) (hw0 : 0 ≤ v9_55.toInt) (hwc : v9_55.toInt ≤ y_Ct v9_48.toInt.toNat g9_47) (hque : y_Q v9_54.toInt v9_55.toInt v9_48.toInt g9_53) (hH : y_H C v9_48.toInt v9_17.toInt g9_57) (hfr : y_AV 60600 g9_57) (k28 : X0 ≤ B) (k29 : 0 ≤ l3.toInt) (k30 : l3.toInt < v9_48.toInt) (k31 : y_M L g9_57 ≤ M0) (k32 : l5.toInt = 0 ∨ y_M L g9_57 < M0) (hat : Int32.toNatClampNeg l4 = s0 * (C + 2)) (k34 : 0 ≤ l4.toInt) (k35 : l4.toInt + v9_16.toInt + v9_17.toInt + 2 ≤ 60600) (k36 : 0 ≤ l6.toInt) (k37 : l6.toInt ≤ v9_16.toInt) : y_Ok (f_X9_comes_L v9_16 v9_17 v9_35 v9_36 v9_54 g9_4 g9_5 g9_33 g9_34 v9_48 v9_55 g9_43 g9_44 g9_45 g9_46 g9_47 g9_53 (5, l1, l2, l3, l4, l5, l6, l7, l8, g9_57)) (fun r => (y_AV 60600 r.2.2.2.2.2.2.2.2.2) ∧ (r.1.toInt = 0 ∨ ((v9_48.toInt ≤ r.2.1.toInt) ∧ (r.2.1.toInt ≤ v9_48.toInt + 1) ∧ (y_Fit r.2.1.toInt C) ∧ (y_RI r.2.1.toInt 0 mn r.2.2.2.1) ∧ (y_RI r.2.1.toInt 0 B2 r.2.2.2.2.1) ∧ (y_DI r.2.1.toInt r.2.2.2.2.2.1) ∧ (y_RI (mn + 1) (-1) (r.2.1.toInt - 1) r.2.2.2.2.2.2.1) ∧ (0 ≤ r.2.2.1.toInt) ∧ (r.2.2.1.toInt ≤ y_Ct r.2.1.toInt.toNat r.2.2.2.2.2.2.2.1) ∧ (y_Q v9_54.toInt r.2.2.1.toInt r.2.1.toInt r.2.2.2.2.2.2.2.2.1) ∧ (y_H C r.2.1.toInt v9_17.toInt r.2.2.2.2.2.2.2.2.2) ∧ (y_Le v9_48.toInt M0 v9_55.toInt r.2.1.toInt (y_M L r.2.2.2.2.2.2.2.2.2) r.2.2.1.toInt) ∧ (r.2.1.toInt = v9_48.toInt + 1 ∨ X0 ≤ B)))) := y_X9_comes_L_5_i (C := C) (mn := mn) (B := B) (B2 := B2) (X0 := X0) (M0 := M0) (s0 := s0) (L := L) k0 k1 k2 k3 k4 k5 k6 k7 k8 k9 k10 hC k12 k13 k14 k15 k16 hL hfit hsat hctx hnxt hhead hw0 hwc hque k28 (v9_16.toInt - l6.toInt + 1).toNat hH hfr k29 k30 k31 k32 hat k34 k35 k36 k37 (by omega)
set_option maxHeartbeats 4000000 in
theorem y_X9_comes_L_2_i {v9_16 : Int32} {v9_17 : Int32} {v9_35 : Int32} {v9_36 : Int32} {v9_54 : Int32} {g9_4 : Nat → Int32} {g9_5 : Nat → Int32} {g9_33 : Nat → Int32} {g9_34 : Nat → Int32} {v9_48 : Int32} {v9_55 : Int32} {g9_43 : Nat → Int32} {g9_44 : Nat → Int32} {g9_45 : Nat → Int32} {g9_46 : Nat → Int32} {g9_47 : Nat → Int32} {g9_53 : Nat → Int32} {C : Nat} {mn B B2 X0 M0 : Int} {s0 L : Nat} (k0 : 0 ≤ v9_16.toInt) (k1 : v9_16.toInt ≤ 200) (k2 : 0 ≤ v9_17.toInt) (k3 : v9_17.toInt ≤ 200) (k4 : 0 ≤ v9_35.toInt) (k5 : v9_35.toInt ≤ v9_17.toInt) (k6 : 0 ≤ v9_36.toInt) (k7 : v9_36.toInt ≤ 1) (k8 : y_Up g9_4) (k9 : y_AV 202 g9_33) (k10 : y_AV 202 g9_34) (hC : (C : Int) = v9_16.toInt + v9_17.toInt) (k12 : 0 ≤ v9_48.toInt) (k13 : 0 ≤ v9_54.toInt) (k14 : v9_54.toInt < 20010) (k15 : B ≤ B2) (k16 : mn ≤ 999) (hL : L = 60600) (hfit : y_Fit v9_48.toInt C) (hsat : y_RI v9_48.toInt 0 mn g9_43) (hctx : y_RI v9_48.toInt 0 B g9_44) (hnxt : y_DI v9_48.toInt g9_45) (hhead : y_RI (mn + 1) (-1) (v9_48.toInt - 1) g9_46) (hw0 : 0 ≤ v9_55.toInt) (hwc : v9_55.toInt ≤ y_Ct v9_48.toInt.toNat g9_47) (hque : y_Q v9_54.toInt v9_55.toInt v9_48.toInt g9_53) (k28 : X0 ≤ B) : ∀ (m : Nat) {l1 : Int32} {l2 : Int32} {l3 : Int32} {l4 : Int32} {l5 : Int32} {l6 : Int32} {l7 : Int32} {l8 : Int32} {g9_57 : Nat → Int32}, (y_H C v9_48.toInt v9_17.toInt g9_57) → (y_AV 60600 g9_57) → (0 ≤ l3.toInt) → (l3.toInt < v9_48.toInt) → (y_M L g9_57 ≤ M0) → (l5.toInt = 0 ∨ y_M L g9_57 < M0) → (Int32.toNatClampNeg l4 = s0 * (C + 2)) → (0 ≤ l4.toInt) → (l4.toInt + v9_16.toInt + v9_17.toInt + 2 ≤ 60600) → (0 ≤ l6.toInt) → (l6.toInt ≤ v9_16.toInt) → v9_16.toInt - l6.toInt < m → y_Ok (f_X9_comes_L v9_16 v9_17 v9_35 v9_36 v9_54 g9_4 g9_5 g9_33 g9_34 v9_48 v9_55 g9_43 g9_44 g9_45 g9_46 g9_47 g9_53 (2, l1, l2, l3, l4, l5, l6, l7, l8, g9_57)) (fun r => (y_AV 60600 r.2.2.2.2.2.2.2.2.2) ∧ (r.1.toInt = 0 ∨ ((v9_48.toInt ≤ r.2.1.toInt) ∧ (r.2.1.toInt ≤ v9_48.toInt + 1) ∧ (y_Fit r.2.1.toInt C) ∧ (y_RI r.2.1.toInt 0 mn r.2.2.2.1) ∧ (y_RI r.2.1.toInt 0 B2 r.2.2.2.2.1) ∧ (y_DI r.2.1.toInt r.2.2.2.2.2.1) ∧ (y_RI (mn + 1) (-1) (r.2.1.toInt - 1) r.2.2.2.2.2.2.1) ∧ (0 ≤ r.2.2.1.toInt) ∧ (r.2.2.1.toInt ≤ y_Ct r.2.1.toInt.toNat r.2.2.2.2.2.2.2.1) ∧ (y_Q v9_54.toInt r.2.2.1.toInt r.2.1.toInt r.2.2.2.2.2.2.2.2.1) ∧ (y_H C r.2.1.toInt v9_17.toInt r.2.2.2.2.2.2.2.2.2) ∧ (y_Le v9_48.toInt M0 v9_55.toInt r.2.1.toInt (y_M L r.2.2.2.2.2.2.2.2.2) r.2.2.1.toInt) ∧ (r.2.1.toInt = v9_48.toInt + 1 ∨ X0 ≤ B)))) := by
  intro m
  induction m with
  | zero => intro l1 l2 l3 l4 l5 l6 l7 l8 g9_57 hH hfr k29 k30 k31 k32 hat k34 k35 k36 k37 hm; exfalso; omega
  | succ m ih =>
    intro l1 l2 l3 l4 l5 l6 l7 l8 g9_57 hH hfr k29 k30 k31 k32 hat k34 k35 k36 k37 hm
    have hle := hfit.le (by omega)
    have hcl4 := @y_cl l4 (by omega)
    rw [f_X9_comes_L]
    refine y_in (by decide) ?_
    refine y_in (by decide) ?_
    refine y_ip rfl ?_
    refine y_if (fun c1 => ?_) (fun c1 => ?_)
    · skip
      have c1' := c1
      rw [Int32.le_iff_toInt_le] at c1'
      have e2 : (0 : Int32).toInt = 0 := rfl
      refine y_Ok.mono (y_X9_comes_L_5 (C := C) (mn := mn) (B := B) (B2 := B2) (X0 := X0) (M0 := M0) (s0 := s0) (L := L) (l1 := 0) (l2 := 0) (l3 := l3) (l4 := l4) (l5 := l5) (l6 := 0) (l7 := 0) (l8 := 0) (g9_57 := g9_57) (by omega) (by omega) (by omega) (by omega) (by omega) (by omega) (by omega) (by omega) (by first | with_reducible assumption | omega | ((with_reducible refine y_Vl ?_ ?_) <;> omega) | (unfold y_Le; omega) | ((with_reducible refine y_RIm (by with_reducible assumption) ?_ ?_ ?_) <;> omega) | ((with_reducible refine y_RIu (by with_reducible assumption) ?_ ?_ ?_ ?_ ?_) <;> omega) | ((with_reducible refine y_DIu (by with_reducible assumption) ?_ ?_ ?_) <;> omega)) (by first | with_reducible assumption | omega | ((with_reducible refine y_Vl ?_ ?_) <;> omega) | (unfold y_Le; omega) | ((with_reducible refine y_RIm (by with_reducible assumption) ?_ ?_ ?_) <;> omega) | ((with_reducible refine y_RIu (by with_reducible assumption) ?_ ?_ ?_ ?_ ?_) <;> omega) | ((with_reducible refine y_DIu (by with_reducible assumption) ?_ ?_ ?_) <;> omega)) (by first | with_reducible assumption | omega | ((with_reducible refine y_Vl ?_ ?_) <;> omega) | (unfold y_Le; omega) | ((with_reducible refine y_RIm (by with_reducible assumption) ?_ ?_ ?_) <;> omega) | ((with_reducible refine y_RIu (by with_reducible assumption) ?_ ?_ ?_ ?_ ?_) <;> omega) | ((with_reducible refine y_DIu (by with_reducible assumption) ?_ ?_ ?_) <;> omega)) (by omega) (by omega) (by omega) (by omega) (by omega) (by omega) (by first | with_reducible assumption | omega | ((with_reducible refine y_Vl ?_ ?_) <;> omega) | (unfold y_Le; omega) | ((with_reducible refine y_RIm (by with_reducible assumption) ?_ ?_ ?_) <;> omega) | ((with_reducible refine y_RIu (by with_reducible assumption) ?_ ?_ ?_ ?_ ?_) <;> omega) | ((with_reducible refine y_DIu (by with_reducible assumption) ?_ ?_ ?_) <;> omega)) (by first | with_reducible assumption | omega | ((with_reducible refine y_Vl ?_ ?_) <;> omega) | (unfold y_Le; omega) | ((with_reducible refine y_RIm (by with_reducible assumption) ?_ ?_ ?_) <;> omega) | ((with_reducible refine y_RIu (by with_reducible assumption) ?_ ?_ ?_ ?_ ?_) <;> omega) | ((with_reducible refine y_DIu (by with_reducible assumption) ?_ ?_ ?_) <;> omega)) (by first | with_reducible assumption | omega | ((with_reducible refine y_Vl ?_ ?_) <;> omega) | (unfold y_Le; omega) | ((with_reducible refine y_RIm (by with_reducible assumption) ?_ ?_ ?_) <;> omega) | ((with_reducible refine y_RIu (by with_reducible assumption) ?_ ?_ ?_ ?_ ?_) <;> omega) | ((with_reducible refine y_DIu (by with_reducible assumption) ?_ ?_ ?_) <;> omega)) (by first | with_reducible assumption | omega | ((with_reducible refine y_Vl ?_ ?_) <;> omega) | (unfold y_Le; omega) | ((with_reducible refine y_RIm (by with_reducible assumption) ?_ ?_ ?_) <;> omega) | ((with_reducible refine y_RIu (by with_reducible assumption) ?_ ?_ ?_ ?_ ?_) <;> omega) | ((with_reducible refine y_DIu (by with_reducible assumption) ?_ ?_ ?_) <;> omega)) (by first | with_reducible assumption | omega | ((with_reducible refine y_Vl ?_ ?_) <;> omega) | (unfold y_Le; omega) | ((with_reducible refine y_RIm (by with_reducible assumption) ?_ ?_ ?_) <;> omega) | ((with_reducible refine y_RIu (by with_reducible assumption) ?_ ?_ ?_ ?_ ?_) <;> omega) | ((with_reducible refine y_DIu (by with_reducible assumption) ?_ ?_ ?_) <;> omega)) (by first | with_reducible assumption | omega | ((with_reducible refine y_Vl ?_ ?_) <;> omega) | (unfold y_Le; omega) | ((with_reducible refine y_RIm (by with_reducible assumption) ?_ ?_ ?_) <;> omega) | ((with_reducible refine y_RIu (by with_reducible assumption) ?_ ?_ ?_ ?_ ?_) <;> omega) | ((with_reducible refine y_DIu (by with_reducible assumption) ?_ ?_ ?_) <;> omega)) (by omega) (by omega) (by first | with_reducible assumption | omega | ((with_reducible refine y_Vl ?_ ?_) <;> omega) | (unfold y_Le; omega) | ((with_reducible refine y_RIm (by with_reducible assumption) ?_ ?_ ?_) <;> omega) | ((with_reducible refine y_RIu (by with_reducible assumption) ?_ ?_ ?_ ?_ ?_) <;> omega) | ((with_reducible refine y_DIu (by with_reducible assumption) ?_ ?_ ?_) <;> omega)) (by first | with_reducible assumption | omega | ((with_reducible refine y_Vl ?_ ?_) <;> omega) | (unfold y_Le; omega) | ((with_reducible refine y_RIm (by with_reducible assumption) ?_ ?_ ?_) <;> omega) | ((with_reducible refine y_RIu (by with_reducible assumption) ?_ ?_ ?_ ?_ ?_) <;> omega) | ((with_reducible refine y_DIu (by with_reducible assumption) ?_ ?_ ?_) <;> omega)) (by first | with_reducible assumption | omega | ((with_reducible refine y_Vl ?_ ?_) <;> omega) | (unfold y_Le; omega) | ((with_reducible refine y_RIm (by with_reducible assumption) ?_ ?_ ?_) <;> omega) | ((with_reducible refine y_RIu (by with_reducible assumption) ?_ ?_ ?_ ?_ ?_) <;> omega) | ((with_reducible refine y_DIu (by with_reducible assumption) ?_ ?_ ?_) <;> omega)) (by omega) (by omega) (by omega) (by omega) (by omega) (by omega) (by omega) (by omega) (by omega) (by omega)) (fun r_t2 h_r_t2 => ?_)
      obtain ⟨h0_r_t2, h1_r_t2⟩ := h_r_t2
      refine ⟨?_, ?_⟩
      · (first | with_reducible assumption | omega | ((with_reducible refine y_Vl ?_ ?_) <;> omega) | (unfold y_Le; omega) | ((with_reducible refine y_RIm (by with_reducible assumption) ?_ ?_ ?_) <;> omega) | ((with_reducible refine y_RIu (by with_reducible assumption) ?_ ?_ ?_ ?_ ?_) <;> omega) | ((with_reducible refine y_DIu (by with_reducible assumption) ?_ ?_ ?_) <;> omega))
      · rcases h1_r_t2 with hz | hz
        · exact Or.inl hz
        · obtain ⟨g0_r_t2, g1_r_t2, g2_r_t2, g3_r_t2, g4_r_t2, g5_r_t2, g6_r_t2, g7_r_t2, g8_r_t2, g9_r_t2, g10_r_t2, g11_r_t2, g12_r_t2⟩ := hz
          (refine Or.inr ⟨?_, ?_, ?_, ?_, ?_, ?_, ?_, ?_, ?_, ?_, ?_, ?_, ?_⟩ <;> (first | with_reducible assumption | omega | ((with_reducible refine y_Vl ?_ ?_) <;> omega) | (unfold y_Le; omega) | ((with_reducible refine y_RIm (by with_reducible assumption) ?_ ?_ ?_) <;> omega) | ((with_reducible refine y_RIu (by with_reducible assumption) ?_ ?_ ?_ ?_ ?_) <;> omega) | ((with_reducible refine y_DIu (by with_reducible assumption) ?_ ?_ ?_) <;> omega)))
    · skip
      have c1' := c1
      rw [Int32.le_iff_toInt_le] at c1'
      try have e4 := @y_add l4 l6 (by omega) (by omega)
      refine y_gd (y_gdI (by omega) (by omega)) ?_
      refine y_gd (y_gdI (by omega) (by omega)) ?_
      try have e5 := @y_cl (l4 + l6) (by omega)
      try have e6 := hfr.at (Int32.toNatClampNeg (l4 + l6)) (by omega)
      try have e7 := e6.b
      try have e8 := @y_cl l6 (by omega)
      try have e9 := k9.at (Int32.toNatClampNeg l6) (by omega)
      try have e10 := e9.b
      refine y_bi (y_X9_joined (by first | with_reducible assumption | omega | ((with_reducible refine y_Vl ?_ ?_) <;> omega) | (unfold y_Le; omega) | ((with_reducible refine y_RIm (by with_reducible assumption) ?_ ?_ ?_) <;> omega) | ((with_reducible refine y_RIu (by with_reducible assumption) ?_ ?_ ?_ ?_ ?_) <;> omega) | ((with_reducible refine y_DIu (by with_reducible assumption) ?_ ?_ ?_) <;> omega)) (by first | with_reducible assumption | omega | ((with_reducible refine y_Vl ?_ ?_) <;> omega) | (unfold y_Le; omega) | ((with_reducible refine y_RIm (by with_reducible assumption) ?_ ?_ ?_) <;> omega) | ((with_reducible refine y_RIu (by with_reducible assumption) ?_ ?_ ?_ ?_ ?_) <;> omega) | ((with_reducible refine y_DIu (by with_reducible assumption) ?_ ?_ ?_) <;> omega)) (by first | with_reducible assumption | omega | ((with_reducible refine y_Vl ?_ ?_) <;> omega) | (unfold y_Le; omega) | ((with_reducible refine y_RIm (by with_reducible assumption) ?_ ?_ ?_) <;> omega) | ((with_reducible refine y_RIu (by with_reducible assumption) ?_ ?_ ?_ ?_ ?_) <;> omega) | ((with_reducible refine y_DIu (by with_reducible assumption) ?_ ?_ ?_) <;> omega))) (fun r_22 h_r_22 => ?_)
      obtain ⟨h0_r_22, h1_r_22, h2_r_22⟩ := h_r_22
      refine y_if (fun c11 => ?_) (fun c11 => ?_)
      · skip
        have e12 : (0 : Int32).toInt = 0 := rfl
        have c11' := c11
        rw [Int32.le_iff_toInt_le] at c11'
        have e13 := h0_r_22.resolve_left (by omega)
        have e14 := h1_r_22.resolve_left (by omega)
        rw [f_X9_comes_L]
        refine y_in (by decide) ?_
        refine y_in (by decide) ?_
        refine y_in (by decide) ?_
        refine y_ip rfl ?_
        refine y_gd (y_gdI (by omega) (by omega)) ?_
        refine y_if (fun c15 => ?_) (fun c15 => ?_)
        · skip
          have c15' := c15
          rw [← Int32.toInt_inj] at c15'
          rw [f_X9_comes_L]
          refine y_in (by decide) ?_
          refine y_in (by decide) ?_
          refine y_in (by decide) ?_
          refine y_in (by decide) ?_
          refine y_ip rfl ?_
          try have e16 := @y_addL l6 (1 : Int32) (1) rfl (by omega) (by omega)
          exact ih (l1 := 0) (l2 := 0) (l3 := l3) (l4 := l4) (l5 := l5) (l6 := (l6 + 1)) (l7 := 0) (l8 := 0) (g9_57 := g9_57) (by first | with_reducible assumption | omega | ((with_reducible refine y_Vl ?_ ?_) <;> omega) | (unfold y_Le; omega) | ((with_reducible refine y_RIm (by with_reducible assumption) ?_ ?_ ?_) <;> omega) | ((with_reducible refine y_RIu (by with_reducible assumption) ?_ ?_ ?_ ?_ ?_) <;> omega) | ((with_reducible refine y_DIu (by with_reducible assumption) ?_ ?_ ?_) <;> omega)) (by first | with_reducible assumption | omega | ((with_reducible refine y_Vl ?_ ?_) <;> omega) | (unfold y_Le; omega) | ((with_reducible refine y_RIm (by with_reducible assumption) ?_ ?_ ?_) <;> omega) | ((with_reducible refine y_RIu (by with_reducible assumption) ?_ ?_ ?_ ?_ ?_) <;> omega) | ((with_reducible refine y_DIu (by with_reducible assumption) ?_ ?_ ?_) <;> omega)) (by omega) (by omega) (by omega) (by omega) (by omega) (by omega) (by omega) (by omega) (by omega) (by omega)
        · skip
          have c15' := c15
          rw [← Int32.toInt_inj] at c15'
          refine y_gd (y_gdI (by omega) (by omega)) ?_
          have e17 : (1 : Int32).toInt = 1 := rfl
          try have e18 := @y_M_upd g9_57 (Int32.toNatClampNeg (l4 + l6)) r_22 L (by omega)
          try have e19 := (hfr.at (Int32.toNatClampNeg (l4 + l6)) (by omega)).rk
          try have e20 : y_H C v9_48.toInt v9_17.toInt (upd g9_57 (Int32.toNatClampNeg (l4 + l6)) r_22) := y_H_upd hH hat (by omega) (by omega)
          try have e21 : y_AV 60600 (upd g9_57 (Int32.toNatClampNeg (l4 + l6)) r_22) := y_AV_upd hfr (by first | with_reducible assumption | omega | ((with_reducible refine y_Vl ?_ ?_) <;> omega) | (unfold y_Le; omega) | ((with_reducible refine y_RIm (by with_reducible assumption) ?_ ?_ ?_) <;> omega) | ((with_reducible refine y_RIu (by with_reducible assumption) ?_ ?_ ?_ ?_ ?_) <;> omega) | ((with_reducible refine y_DIu (by with_reducible assumption) ?_ ?_ ?_) <;> omega))
          rw [f_X9_comes_L]
          refine y_in (by decide) ?_
          refine y_in (by decide) ?_
          refine y_in (by decide) ?_
          refine y_in (by decide) ?_
          refine y_ip rfl ?_
          try have e22 := @y_addL l6 (1 : Int32) (1) rfl (by omega) (by omega)
          exact ih (l1 := 0) (l2 := 0) (l3 := l3) (l4 := l4) (l5 := 1) (l6 := (l6 + 1)) (l7 := 0) (l8 := 0) (g9_57 := ((upd g9_57 (Int32.toNatClampNeg (l4 + l6)) r_22))) (by first | with_reducible assumption | omega | ((with_reducible refine y_Vl ?_ ?_) <;> omega) | (unfold y_Le; omega) | ((with_reducible refine y_RIm (by with_reducible assumption) ?_ ?_ ?_) <;> omega) | ((with_reducible refine y_RIu (by with_reducible assumption) ?_ ?_ ?_ ?_ ?_) <;> omega) | ((with_reducible refine y_DIu (by with_reducible assumption) ?_ ?_ ?_) <;> omega)) (by first | with_reducible assumption | omega | ((with_reducible refine y_Vl ?_ ?_) <;> omega) | (unfold y_Le; omega) | ((with_reducible refine y_RIm (by with_reducible assumption) ?_ ?_ ?_) <;> omega) | ((with_reducible refine y_RIu (by with_reducible assumption) ?_ ?_ ?_ ?_ ?_) <;> omega) | ((with_reducible refine y_DIu (by with_reducible assumption) ?_ ?_ ?_) <;> omega)) (by omega) (by omega) (by omega) (by omega) (by omega) (by omega) (by omega) (by omega) (by omega) (by omega)
      · skip
        have e23 : (0 : Int32).toInt = 0 := rfl
        have c11' := c11
        rw [Int32.le_iff_toInt_le] at c11'
        rw [f_X9_comes_L]
        refine y_in (by decide) ?_
        refine y_in (by decide) ?_
        refine y_in (by decide) ?_
        refine y_ip rfl ?_
        refine y_gd (y_gdI (by omega) (by omega)) ?_
        refine y_if (fun c24 => ?_) (fun c24 => ?_)
        · skip
          have c24' := c24
          rw [← Int32.toInt_inj] at c24'
          rw [f_X9_comes_L]
          refine y_in (by decide) ?_
          refine y_in (by decide) ?_
          refine y_in (by decide) ?_
          refine y_in (by decide) ?_
          refine y_ip rfl ?_
          try have e25 := @y_addL l6 (1 : Int32) (1) rfl (by omega) (by omega)
          exact ih (l1 := 0) (l2 := 0) (l3 := l3) (l4 := l4) (l5 := l5) (l6 := (l6 + 1)) (l7 := 0) (l8 := 0) (g9_57 := g9_57) (by first | with_reducible assumption | omega | ((with_reducible refine y_Vl ?_ ?_) <;> omega) | (unfold y_Le; omega) | ((with_reducible refine y_RIm (by with_reducible assumption) ?_ ?_ ?_) <;> omega) | ((with_reducible refine y_RIu (by with_reducible assumption) ?_ ?_ ?_ ?_ ?_) <;> omega) | ((with_reducible refine y_DIu (by with_reducible assumption) ?_ ?_ ?_) <;> omega)) (by first | with_reducible assumption | omega | ((with_reducible refine y_Vl ?_ ?_) <;> omega) | (unfold y_Le; omega) | ((with_reducible refine y_RIm (by with_reducible assumption) ?_ ?_ ?_) <;> omega) | ((with_reducible refine y_RIu (by with_reducible assumption) ?_ ?_ ?_ ?_ ?_) <;> omega) | ((with_reducible refine y_DIu (by with_reducible assumption) ?_ ?_ ?_) <;> omega)) (by omega) (by omega) (by omega) (by omega) (by omega) (by omega) (by omega) (by omega) (by omega) (by omega)
        · skip
          have c24' := c24
          rw [← Int32.toInt_inj] at c24'
          refine y_gd (y_gdI (by omega) (by omega)) ?_
          have e26 : (1 : Int32).toInt = 1 := rfl
          try have e27 := @y_M_upd g9_57 (Int32.toNatClampNeg (l4 + l6)) (0 : Int32) L (by omega)
          try have e28 := (hfr.at (Int32.toNatClampNeg (l4 + l6)) (by omega)).rk
          have e29 := y_rk_0
          try have e30 : y_H C v9_48.toInt v9_17.toInt (upd g9_57 (Int32.toNatClampNeg (l4 + l6)) (0 : Int32)) := y_H_upd hH hat (by omega) (by omega)
          try have e31 : y_AV 60600 (upd g9_57 (Int32.toNatClampNeg (l4 + l6)) (0 : Int32)) := y_AV_upd hfr (by first | with_reducible assumption | omega | ((with_reducible refine y_Vl ?_ ?_) <;> omega) | (unfold y_Le; omega) | ((with_reducible refine y_RIm (by with_reducible assumption) ?_ ?_ ?_) <;> omega) | ((with_reducible refine y_RIu (by with_reducible assumption) ?_ ?_ ?_ ?_ ?_) <;> omega) | ((with_reducible refine y_DIu (by with_reducible assumption) ?_ ?_ ?_) <;> omega))
          rw [f_X9_comes_L]
          refine y_in (by decide) ?_
          refine y_in (by decide) ?_
          refine y_in (by decide) ?_
          refine y_in (by decide) ?_
          refine y_ip rfl ?_
          try have e32 := @y_addL l6 (1 : Int32) (1) rfl (by omega) (by omega)
          exact ih (l1 := 0) (l2 := 0) (l3 := l3) (l4 := l4) (l5 := 1) (l6 := (l6 + 1)) (l7 := 0) (l8 := 0) (g9_57 := ((upd g9_57 (Int32.toNatClampNeg (l4 + l6)) 0))) (by first | with_reducible assumption | omega | ((with_reducible refine y_Vl ?_ ?_) <;> omega) | (unfold y_Le; omega) | ((with_reducible refine y_RIm (by with_reducible assumption) ?_ ?_ ?_) <;> omega) | ((with_reducible refine y_RIu (by with_reducible assumption) ?_ ?_ ?_ ?_ ?_) <;> omega) | ((with_reducible refine y_DIu (by with_reducible assumption) ?_ ?_ ?_) <;> omega)) (by first | with_reducible assumption | omega | ((with_reducible refine y_Vl ?_ ?_) <;> omega) | (unfold y_Le; omega) | ((with_reducible refine y_RIm (by with_reducible assumption) ?_ ?_ ?_) <;> omega) | ((with_reducible refine y_RIu (by with_reducible assumption) ?_ ?_ ?_ ?_ ?_) <;> omega) | ((with_reducible refine y_DIu (by with_reducible assumption) ?_ ?_ ?_) <;> omega)) (by omega) (by omega) (by omega) (by omega) (by omega) (by omega) (by omega) (by omega) (by omega) (by omega)
theorem y_X9_comes_L_2 {v9_16 : Int32} {v9_17 : Int32} {v9_35 : Int32} {v9_36 : Int32} {v9_54 : Int32} {g9_4 : Nat → Int32} {g9_5 : Nat → Int32} {g9_33 : Nat → Int32} {g9_34 : Nat → Int32} {v9_48 : Int32} {v9_55 : Int32} {g9_43 : Nat → Int32} {g9_44 : Nat → Int32} {g9_45 : Nat → Int32} {g9_46 : Nat → Int32} {g9_47 : Nat → Int32} {g9_53 : Nat → Int32} {C : Nat} {mn B B2 X0 M0 : Int} {s0 L : Nat} {l1 : Int32} {l2 : Int32} {l3 : Int32} {l4 : Int32} {l5 : Int32} {l6 : Int32} {l7 : Int32} {l8 : Int32} {g9_57 : Nat → Int32} (k0 : 0 ≤ v9_16.toInt) (k1 : v9_16.toInt ≤ 200) (k2 : 0 ≤ v9_17.toInt) (k3 : v9_17.toInt ≤ 200) (k4 : 0 ≤ v9_35.toInt) (k5 : v9_35.toInt ≤ v9_17.toInt) (k6 : 0 ≤ v9_36.toInt) (k7 : v9_36.toInt ≤ 1) (k8 : y_Up g9_4) (k9 : y_AV 202 g9_33) (k10 : y_AV 202 g9_34) (hC : (C : Int) = v9_16.toInt + v9_17.toInt) (k12 : 0 ≤ v9_48.toInt) (k13 : 0 ≤ v9_54.toInt) (k14 : v9_54.toInt < 20010) (k15 : B ≤ B2) (k16 : mn ≤ 999) (hL : L = 60600) (hfit : y_Fit v9_48.toInt C) (hsat : y_RI v9_48.toInt 0 mn g9_43) (hctx : y_RI v9_48.toInt 0 B g9_44) (hnxt : y_DI v9_48.toInt g9_45) (hhead : y_RI (mn + 1) (-1) (v9_48.toInt - 1) g9_46) (hw0 : 0 ≤ v9_55.toInt) (hwc : v9_55.toInt ≤ y_Ct v9_48.toInt.toNat g9_47) (hque : y_Q v9_54.toInt v9_55.toInt v9_48.toInt g9_53) (hH : y_H C v9_48.toInt v9_17.toInt g9_57) (hfr : y_AV 60600 g9_57) (k28 : X0 ≤ B) (k29 : 0 ≤ l3.toInt) (k30 : l3.toInt < v9_48.toInt) (k31 : y_M L g9_57 ≤ M0) (k32 : l5.toInt = 0 ∨ y_M L g9_57 < M0) (hat : Int32.toNatClampNeg l4 = s0 * (C + 2)) (k34 : 0 ≤ l4.toInt) (k35 : l4.toInt + v9_16.toInt + v9_17.toInt + 2 ≤ 60600) (k36 : 0 ≤ l6.toInt) (k37 : l6.toInt ≤ v9_16.toInt) : y_Ok (f_X9_comes_L v9_16 v9_17 v9_35 v9_36 v9_54 g9_4 g9_5 g9_33 g9_34 v9_48 v9_55 g9_43 g9_44 g9_45 g9_46 g9_47 g9_53 (2, l1, l2, l3, l4, l5, l6, l7, l8, g9_57)) (fun r => (y_AV 60600 r.2.2.2.2.2.2.2.2.2) ∧ (r.1.toInt = 0 ∨ ((v9_48.toInt ≤ r.2.1.toInt) ∧ (r.2.1.toInt ≤ v9_48.toInt + 1) ∧ (y_Fit r.2.1.toInt C) ∧ (y_RI r.2.1.toInt 0 mn r.2.2.2.1) ∧ (y_RI r.2.1.toInt 0 B2 r.2.2.2.2.1) ∧ (y_DI r.2.1.toInt r.2.2.2.2.2.1) ∧ (y_RI (mn + 1) (-1) (r.2.1.toInt - 1) r.2.2.2.2.2.2.1) ∧ (0 ≤ r.2.2.1.toInt) ∧ (r.2.2.1.toInt ≤ y_Ct r.2.1.toInt.toNat r.2.2.2.2.2.2.2.1) ∧ (y_Q v9_54.toInt r.2.2.1.toInt r.2.1.toInt r.2.2.2.2.2.2.2.2.1) ∧ (y_H C r.2.1.toInt v9_17.toInt r.2.2.2.2.2.2.2.2.2) ∧ (y_Le v9_48.toInt M0 v9_55.toInt r.2.1.toInt (y_M L r.2.2.2.2.2.2.2.2.2) r.2.2.1.toInt) ∧ (r.2.1.toInt = v9_48.toInt + 1 ∨ X0 ≤ B)))) := y_X9_comes_L_2_i (C := C) (mn := mn) (B := B) (B2 := B2) (X0 := X0) (M0 := M0) (s0 := s0) (L := L) k0 k1 k2 k3 k4 k5 k6 k7 k8 k9 k10 hC k12 k13 k14 k15 k16 hL hfit hsat hctx hnxt hhead hw0 hwc hque k28 (v9_16.toInt - l6.toInt + 1).toNat hH hfr k29 k30 k31 k32 hat k34 k35 k36 k37 (by omega)
set_option maxHeartbeats 4000000 in
theorem y_X9_comes_L_1 {v9_16 : Int32} {v9_17 : Int32} {v9_35 : Int32} {v9_36 : Int32} {v9_54 : Int32} {g9_4 : Nat → Int32} {g9_5 : Nat → Int32} {g9_33 : Nat → Int32} {g9_34 : Nat → Int32} {v9_48 : Int32} {v9_55 : Int32} {g9_43 : Nat → Int32} {g9_44 : Nat → Int32} {g9_45 : Nat → Int32} {g9_46 : Nat → Int32} {g9_47 : Nat → Int32} {g9_53 : Nat → Int32} {C : Nat} {mn B B2 X0 M0 : Int} {s0 L : Nat} {l1 : Int32} {l2 : Int32} {l3 : Int32} {l4 : Int32} {l5 : Int32} {l6 : Int32} {l7 : Int32} {l8 : Int32} {g9_57 : Nat → Int32} (k0 : 0 ≤ v9_16.toInt) (k1 : v9_16.toInt ≤ 200) (k2 : 0 ≤ v9_17.toInt) (k3 : v9_17.toInt ≤ 200) (k4 : 0 ≤ v9_35.toInt) (k5 : v9_35.toInt ≤ v9_17.toInt) (k6 : 0 ≤ v9_36.toInt) (k7 : v9_36.toInt ≤ 1) (k8 : y_Up g9_4) (k9 : y_AV 202 g9_33) (k10 : y_AV 202 g9_34) (hC : (C : Int) = v9_16.toInt + v9_17.toInt) (k12 : 0 ≤ v9_48.toInt) (k13 : 0 ≤ v9_54.toInt) (k14 : v9_54.toInt < 20010) (k15 : B ≤ B2) (k16 : mn ≤ 999) (hL : L = 60600) (hfit : y_Fit v9_48.toInt C) (hsat : y_RI v9_48.toInt 0 mn g9_43) (hctx : y_RI v9_48.toInt 0 B g9_44) (hnxt : y_DI v9_48.toInt g9_45) (hhead : y_RI (mn + 1) (-1) (v9_48.toInt - 1) g9_46) (hw0 : 0 ≤ v9_55.toInt) (hwc : v9_55.toInt ≤ y_Ct v9_48.toInt.toNat g9_47) (hque : y_Q v9_54.toInt v9_55.toInt v9_48.toInt g9_53) (hH : y_H C v9_48.toInt v9_17.toInt g9_57) (hfr : y_AV 60600 g9_57) (k28 : 0 ≤ l1.toInt) (k29 : l1.toInt ≤ mn) (k30 : l2.toInt = X0) (k31 : 0 ≤ X0) (k32 : X0 ≤ B2) (k33 : y_M L g9_57 = M0) (k34 : -1 ≤ l3.toInt) (k35 : l3.toInt < v9_48.toInt) (k36 : l3.toInt < 0 ∨ X0 ≤ B) : y_Ok (f_X9_comes_L v9_16 v9_17 v9_35 v9_36 v9_54 g9_4 g9_5 g9_33 g9_34 v9_48 v9_55 g9_43 g9_44 g9_45 g9_46 g9_47 g9_53 (1, l1, l2, l3, l4, l5, l6, l7, l8, g9_57)) (fun r => (y_AV 60600 r.2.2.2.2.2.2.2.2.2) ∧ (r.1.toInt = 0 ∨ ((v9_48.toInt ≤ r.2.1.toInt) ∧ (r.2.1.toInt ≤ v9_48.toInt + 1) ∧ (y_Fit r.2.1.toInt C) ∧ (y_RI r.2.1.toInt 0 mn r.2.2.2.1) ∧ (y_RI r.2.1.toInt 0 B2 r.2.2.2.2.1) ∧ (y_DI r.2.1.toInt r.2.2.2.2.2.1) ∧ (y_RI (mn + 1) (-1) (r.2.1.toInt - 1) r.2.2.2.2.2.2.1) ∧ (0 ≤ r.2.2.1.toInt) ∧ (r.2.2.1.toInt ≤ y_Ct r.2.1.toInt.toNat r.2.2.2.2.2.2.2.1) ∧ (y_Q v9_54.toInt r.2.2.1.toInt r.2.1.toInt r.2.2.2.2.2.2.2.2.1) ∧ (y_H C r.2.1.toInt v9_17.toInt r.2.2.2.2.2.2.2.2.2) ∧ (y_Le v9_48.toInt M0 v9_55.toInt r.2.1.toInt (y_M L r.2.2.2.2.2.2.2.2.2) r.2.2.1.toInt) ∧ (r.2.1.toInt = v9_48.toInt + 1 ∨ X0 ≤ B)))) := by
  have hle := hfit.le (by omega)
  rw [f_X9_comes_L]
  refine y_in (by decide) ?_
  refine y_ip rfl ?_
  refine y_if (fun c1 => ?_) (fun c1 => ?_)
  · skip
    have e2 : (0 : Int32).toInt = 0 := rfl
    have c1' := c1
    rw [Int32.le_iff_toInt_le] at c1'
    refine y_bi (y_X9_size (by omega) (by omega) (by omega) (by omega)) (fun r_6 h_r_6 => ?_)
    have h0_r_6 : r_6.toInt = v9_16.toInt + v9_17.toInt + 2 := h_r_6
    have hmm := @y_mulB l3 r_6 20010 402 ⟨by omega, by omega⟩ ⟨by omega, by omega⟩ (by decide)
    have hll := @y_cl l3 (by omega)
    have hat := @y_atI l3.toNatClampNeg C l3 r_6 (by omega) (by omega) hmm.1
    have hfi := y_Fit.in (s := l3.toNatClampNeg) hfit (by omega) (by omega)
    have hcl4 := @y_cl (l3 * r_6) (by omega)
    try have e3 := @y_mulB l3 r_6 20010 402 ⟨by omega, by omega⟩ ⟨by omega, by omega⟩ (by decide)
    try have e4 := @y_add (l3 * r_6) v9_16 (by omega) (by omega)
    try have e5 := @y_add ((l3 * r_6) + v9_16) v9_17 (by omega) (by omega)
    refine y_gd (y_gdI (by omega) (by omega)) ?_
    refine y_if (fun c6 => ?_) (fun c6 => ?_)
    · skip
      try have e7 := @y_cl (((l3 * r_6) + v9_16) + v9_17) (by omega)
      try have e8 := hfr.at (Int32.toNatClampNeg (((l3 * r_6) + v9_16) + v9_17)) (by omega)
      try have e9 := e8.b
      have c6' := c6
      rw [← Int32.toInt_inj] at c6'
      refine y_Ok.mono (y_X9_comes_L_2 (C := C) (mn := mn) (B := B) (B2 := B2) (X0 := X0) (M0 := M0) (s0 := l3.toNatClampNeg) (L := L) (l1 := 0) (l2 := 0) (l3 := l3) (l4 := (l3 * r_6)) (l5 := 0) (l6 := 0) (l7 := 0) (l8 := 0) (g9_57 := g9_57) (by omega) (by omega) (by omega) (by omega) (by omega) (by omega) (by omega) (by omega) (by first | with_reducible assumption | omega | ((with_reducible refine y_Vl ?_ ?_) <;> omega) | (unfold y_Le; omega) | ((with_reducible refine y_RIm (by with_reducible assumption) ?_ ?_ ?_) <;> omega) | ((with_reducible refine y_RIu (by with_reducible assumption) ?_ ?_ ?_ ?_ ?_) <;> omega) | ((with_reducible refine y_DIu (by with_reducible assumption) ?_ ?_ ?_) <;> omega)) (by first | with_reducible assumption | omega | ((with_reducible refine y_Vl ?_ ?_) <;> omega) | (unfold y_Le; omega) | ((with_reducible refine y_RIm (by with_reducible assumption) ?_ ?_ ?_) <;> omega) | ((with_reducible refine y_RIu (by with_reducible assumption) ?_ ?_ ?_ ?_ ?_) <;> omega) | ((with_reducible refine y_DIu (by with_reducible assumption) ?_ ?_ ?_) <;> omega)) (by first | with_reducible assumption | omega | ((with_reducible refine y_Vl ?_ ?_) <;> omega) | (unfold y_Le; omega) | ((with_reducible refine y_RIm (by with_reducible assumption) ?_ ?_ ?_) <;> omega) | ((with_reducible refine y_RIu (by with_reducible assumption) ?_ ?_ ?_ ?_ ?_) <;> omega) | ((with_reducible refine y_DIu (by with_reducible assumption) ?_ ?_ ?_) <;> omega)) (by omega) (by omega) (by omega) (by omega) (by omega) (by omega) (by first | with_reducible assumption | omega | ((with_reducible refine y_Vl ?_ ?_) <;> omega) | (unfold y_Le; omega) | ((with_reducible refine y_RIm (by with_reducible assumption) ?_ ?_ ?_) <;> omega) | ((with_reducible refine y_RIu (by with_reducible assumption) ?_ ?_ ?_ ?_ ?_) <;> omega) | ((with_reducible refine y_DIu (by with_reducible assumption) ?_ ?_ ?_) <;> omega)) (by first | with_reducible assumption | omega | ((with_reducible refine y_Vl ?_ ?_) <;> omega) | (unfold y_Le; omega) | ((with_reducible refine y_RIm (by with_reducible assumption) ?_ ?_ ?_) <;> omega) | ((with_reducible refine y_RIu (by with_reducible assumption) ?_ ?_ ?_ ?_ ?_) <;> omega) | ((with_reducible refine y_DIu (by with_reducible assumption) ?_ ?_ ?_) <;> omega)) (by first | with_reducible assumption | omega | ((with_reducible refine y_Vl ?_ ?_) <;> omega) | (unfold y_Le; omega) | ((with_reducible refine y_RIm (by with_reducible assumption) ?_ ?_ ?_) <;> omega) | ((with_reducible refine y_RIu (by with_reducible assumption) ?_ ?_ ?_ ?_ ?_) <;> omega) | ((with_reducible refine y_DIu (by with_reducible assumption) ?_ ?_ ?_) <;> omega)) (by first | with_reducible assumption | omega | ((with_reducible refine y_Vl ?_ ?_) <;> omega) | (unfold y_Le; omega) | ((with_reducible refine y_RIm (by with_reducible assumption) ?_ ?_ ?_) <;> omega) | ((with_reducible refine y_RIu (by with_reducible assumption) ?_ ?_ ?_ ?_ ?_) <;> omega) | ((with_reducible refine y_DIu (by with_reducible assumption) ?_ ?_ ?_) <;> omega)) (by first | with_reducible assumption | omega | ((with_reducible refine y_Vl ?_ ?_) <;> omega) | (unfold y_Le; omega) | ((with_reducible refine y_RIm (by with_reducible assumption) ?_ ?_ ?_) <;> omega) | ((with_reducible refine y_RIu (by with_reducible assumption) ?_ ?_ ?_ ?_ ?_) <;> omega) | ((with_reducible refine y_DIu (by with_reducible assumption) ?_ ?_ ?_) <;> omega)) (by first | with_reducible assumption | omega | ((with_reducible refine y_Vl ?_ ?_) <;> omega) | (unfold y_Le; omega) | ((with_reducible refine y_RIm (by with_reducible assumption) ?_ ?_ ?_) <;> omega) | ((with_reducible refine y_RIu (by with_reducible assumption) ?_ ?_ ?_ ?_ ?_) <;> omega) | ((with_reducible refine y_DIu (by with_reducible assumption) ?_ ?_ ?_) <;> omega)) (by omega) (by omega) (by first | with_reducible assumption | omega | ((with_reducible refine y_Vl ?_ ?_) <;> omega) | (unfold y_Le; omega) | ((with_reducible refine y_RIm (by with_reducible assumption) ?_ ?_ ?_) <;> omega) | ((with_reducible refine y_RIu (by with_reducible assumption) ?_ ?_ ?_ ?_ ?_) <;> omega) | ((with_reducible refine y_DIu (by with_reducible assumption) ?_ ?_ ?_) <;> omega)) (by first | with_reducible assumption | omega | ((with_reducible refine y_Vl ?_ ?_) <;> omega) | (unfold y_Le; omega) | ((with_reducible refine y_RIm (by with_reducible assumption) ?_ ?_ ?_) <;> omega) | ((with_reducible refine y_RIu (by with_reducible assumption) ?_ ?_ ?_ ?_ ?_) <;> omega) | ((with_reducible refine y_DIu (by with_reducible assumption) ?_ ?_ ?_) <;> omega)) (by first | with_reducible assumption | omega | ((with_reducible refine y_Vl ?_ ?_) <;> omega) | (unfold y_Le; omega) | ((with_reducible refine y_RIm (by with_reducible assumption) ?_ ?_ ?_) <;> omega) | ((with_reducible refine y_RIu (by with_reducible assumption) ?_ ?_ ?_ ?_ ?_) <;> omega) | ((with_reducible refine y_DIu (by with_reducible assumption) ?_ ?_ ?_) <;> omega)) (by omega) (by omega) (by omega) (by omega) (by omega) (by omega) (by omega) (by omega) (by omega) (by omega)) (fun r_t9 h_r_t9 => ?_)
      obtain ⟨h0_r_t9, h1_r_t9⟩ := h_r_t9
      refine ⟨?_, ?_⟩
      · (first | with_reducible assumption | omega | ((with_reducible refine y_Vl ?_ ?_) <;> omega) | (unfold y_Le; omega) | ((with_reducible refine y_RIm (by with_reducible assumption) ?_ ?_ ?_) <;> omega) | ((with_reducible refine y_RIu (by with_reducible assumption) ?_ ?_ ?_ ?_ ?_) <;> omega) | ((with_reducible refine y_DIu (by with_reducible assumption) ?_ ?_ ?_) <;> omega))
      · rcases h1_r_t9 with hz | hz
        · exact Or.inl hz
        · obtain ⟨g0_r_t9, g1_r_t9, g2_r_t9, g3_r_t9, g4_r_t9, g5_r_t9, g6_r_t9, g7_r_t9, g8_r_t9, g9_r_t9, g10_r_t9, g11_r_t9, g12_r_t9⟩ := hz
          (refine Or.inr ⟨?_, ?_, ?_, ?_, ?_, ?_, ?_, ?_, ?_, ?_, ?_, ?_, ?_⟩ <;> (first | with_reducible assumption | omega | ((with_reducible refine y_Vl ?_ ?_) <;> omega) | (unfold y_Le; omega) | ((with_reducible refine y_RIm (by with_reducible assumption) ?_ ?_ ?_) <;> omega) | ((with_reducible refine y_RIu (by with_reducible assumption) ?_ ?_ ?_ ?_ ?_) <;> omega) | ((with_reducible refine y_DIu (by with_reducible assumption) ?_ ?_ ?_) <;> omega)))
    · skip
      try have e11 := @y_cl (((l3 * r_6) + v9_16) + v9_17) (by omega)
      try have e12 := hfr.at (Int32.toNatClampNeg (((l3 * r_6) + v9_16) + v9_17)) (by omega)
      try have e13 := e12.b
      have c6' := c6
      rw [← Int32.toInt_inj] at c6'
      refine y_some ?_
      try dsimp only
      refine ⟨?_, ?_⟩
      · (first | with_reducible assumption | omega | ((with_reducible refine y_Vl ?_ ?_) <;> omega) | (unfold y_Le; omega) | ((with_reducible refine y_RIm (by with_reducible assumption) ?_ ?_ ?_) <;> omega) | ((with_reducible refine y_RIu (by with_reducible assumption) ?_ ?_ ?_ ?_ ?_) <;> omega) | ((with_reducible refine y_DIu (by with_reducible assumption) ?_ ?_ ?_) <;> omega))
      · exact Or.inl rfl
  · skip
    have e14 : (0 : Int32).toInt = 0 := rfl
    have c1' := c1
    rw [Int32.le_iff_toInt_le] at c1'
    refine y_if (fun c15 => ?_) (fun c15 => ?_)
    · skip
      try have e16 := @y_addL v9_48 (1 : Int32) (1) rfl (by omega) (by omega)
      try have e17 := @y_add v9_16 v9_17 (by omega) (by omega)
      try have e18 := @y_addL (v9_16 + v9_17) (1 : Int32) (1) rfl (by omega) (by omega)
      try have e19 := @y_mulB (v9_48 + (1 : Int32)) ((v9_16 + v9_17) + (1 : Int32)) 20010 402 ⟨by omega, by omega⟩ ⟨by omega, by omega⟩ (by decide)
      have e20 : (20000 : Int32).toInt = 20000 := rfl
      have c15' := c15
      rw [Int32.le_iff_toInt_le] at c15'
      refine y_gd (y_gdI (by omega) (by omega)) ?_
      refine y_gd (y_gdI (by omega) (by omega)) ?_
      refine y_gd (y_gdI (by omega) (by omega)) ?_
      refine y_gd (y_gdI (by omega) (by omega)) ?_
      refine y_gd (y_gdI (by omega) (by omega)) ?_
      refine y_gd (y_gdI (by omega) (by omega)) ?_
      refine y_bi (y_X9_size (by omega) (by omega) (by omega) (by omega)) (fun r_16 h_r_16 => ?_)
      have h0_r_16 : r_16.toInt = v9_16.toInt + v9_17.toInt + 2 := h_r_16
      have hmm := @y_mulB v9_48 r_16 20010 402 ⟨by omega, by omega⟩ ⟨by omega, by omega⟩ (by decide)
      have hN := @y_cl v9_48 (by omega)
      have hat := @y_atI v9_48.toNatClampNeg C v9_48 r_16 (by omega) (by omega) hmm.1
      have hcl4 := @y_cl (v9_48 * r_16) (by omega)
      have hfit2 : y_Fit (v9_48.toInt + 1) C := @y_FitI (v9_48.toInt + 1) C (v9_48 + (1 : Int32)) ((v9_16 + v9_17) + (1 : Int32)) (by omega) (by omega) (by omega) (by omega)
      have hfi := y_Fit.in (s := v9_48.toNatClampNeg) hfit2 (by omega) (by omega)
      have hle2 := hfit2.le (by omega)
      have hs1 := @y_add (v9_48 * r_16) v9_16 (by omega) (by omega)
      have hs2 := @y_add (v9_48 * r_16 + v9_16) v9_17 (by omega) (by omega)
      have hrf := y_Eq.rf (Int32.toNatClampNeg (v9_48 * r_16)) g9_57
      have hct := @y_Ct_new g9_47 (Int32.toNatClampNeg v9_48) v9_48.toInt.toNat (vp_nar .boolean 0) (by omega) (by decide)
      try have e21 := @y_mulB v9_48 r_16 20010 402 ⟨by omega, by omega⟩ ⟨by omega, by omega⟩ (by decide)
      refine y_bi (y_X9_keep (e0 := Int32.toNatClampNeg (v9_48 * r_16)) (F0 := g9_57) (by omega) (by omega) (by omega) (by omega) (by omega) (by omega) (by omega) (by omega) (by first | with_reducible assumption | omega | ((with_reducible refine y_Vl ?_ ?_) <;> omega) | (unfold y_Le; omega) | ((with_reducible refine y_RIm (by with_reducible assumption) ?_ ?_ ?_) <;> omega) | ((with_reducible refine y_RIu (by with_reducible assumption) ?_ ?_ ?_ ?_ ?_) <;> omega) | ((with_reducible refine y_DIu (by with_reducible assumption) ?_ ?_ ?_) <;> omega)) (by first | with_reducible assumption | omega | ((with_reducible refine y_Vl ?_ ?_) <;> omega) | (unfold y_Le; omega) | ((with_reducible refine y_RIm (by with_reducible assumption) ?_ ?_ ?_) <;> omega) | ((with_reducible refine y_RIu (by with_reducible assumption) ?_ ?_ ?_ ?_ ?_) <;> omega) | ((with_reducible refine y_DIu (by with_reducible assumption) ?_ ?_ ?_) <;> omega)) (by omega) (by omega) (by first | with_reducible assumption | omega | ((with_reducible refine y_Vl ?_ ?_) <;> omega) | (unfold y_Le; omega) | ((with_reducible refine y_RIm (by with_reducible assumption) ?_ ?_ ?_) <;> omega) | ((with_reducible refine y_RIu (by with_reducible assumption) ?_ ?_ ?_ ?_ ?_) <;> omega) | ((with_reducible refine y_DIu (by with_reducible assumption) ?_ ?_ ?_) <;> omega)) (by first | with_reducible assumption | omega | ((with_reducible refine y_Vl ?_ ?_) <;> omega) | (unfold y_Le; omega) | ((with_reducible refine y_RIm (by with_reducible assumption) ?_ ?_ ?_) <;> omega) | ((with_reducible refine y_RIu (by with_reducible assumption) ?_ ?_ ?_ ?_ ?_) <;> omega) | ((with_reducible refine y_DIu (by with_reducible assumption) ?_ ?_ ?_) <;> omega)) (by omega)) (fun r_17 h_r_17 => ?_)
      obtain ⟨h0_r_17, h1_r_17, h2_r_17⟩ := h_r_17
      try have e22 := @y_cl v9_48 (by omega)
      have e23 : (vp_nar .boolean (0 : Int32)).toInt = 0 := rfl
      refine y_bi (y_X9_waits (N := v9_48.toInt.toNat + 1) (n2 := v9_48.toInt) (n3 := (v9_48 + (1 : Int32)).toInt) (by omega) (by omega) (by omega) (by omega) (by first | with_reducible assumption | omega | ((with_reducible refine y_Vl ?_ ?_) <;> omega) | (unfold y_Le; omega) | ((with_reducible refine y_RIm (by with_reducible assumption) ?_ ?_ ?_) <;> omega) | ((with_reducible refine y_RIu (by with_reducible assumption) ?_ ?_ ?_ ?_ ?_) <;> omega) | ((with_reducible refine y_DIu (by with_reducible assumption) ?_ ?_ ?_) <;> omega)) (by omega) (by omega) (by omega) (by omega) (by omega)) (fun r_18 h_r_18 => ?_)
      obtain ⟨h0_r_18, h1_r_18, h2_r_18⟩ := h_r_18
      have hee : (v9_48 + (1 : Int32)).toInt.toNat = v9_48.toInt.toNat + 1 := by omega
      rw [← hee] at h1_r_18
      have hcla := @y_cl ((v9_48 * r_16 + v9_16) + v9_17) (by omega)
      have hHn : y_H C (v9_48 + (1 : Int32)).toInt v9_17.toInt r_17 := y_H_new (N := v9_48.toNatClampNeg) (i := Int32.toNatClampNeg ((v9_48 * r_16 + v9_16) + v9_17)) hH hN (by rw [← hat]; exact h1_r_17) (by omega) (by omega) (by omega) (by omega)
      have hfit3 := hfit2.mono (n2 := (v9_48 + (1 : Int32)).toInt) (by omega)
      have e24 : (1 : Int32).toInt = 1 := rfl
      try have e25 : y_RI v9_48.toInt 0 mn (upd g9_43 (Int32.toNatClampNeg v9_48) l1) := y_RIu hsat (by omega) (by omega) (by omega) (by omega) (Or.inl (by omega))
      try have e26 : y_RI v9_48.toInt 0 B (upd g9_44 (Int32.toNatClampNeg v9_48) l2) := y_RIu hctx (by omega) (by omega) (by omega) (by omega) (Or.inl (by omega))
      try have e27 := @y_cl l1 (by omega)
      try have e28 := hhead.at (Int32.toNatClampNeg l1) (by omega)
      try have e30 : y_RI (mn + 1) (-1) (v9_48.toInt - 1) (upd g9_46 (Int32.toNatClampNeg l1) v9_48) := y_RIu hhead (by omega) (by omega) (by omega) (by omega) (Or.inl (by omega))
      refine y_some ?_
      try dsimp only
      refine ⟨?_, ?_⟩
      · (first | with_reducible assumption | omega | ((with_reducible refine y_Vl ?_ ?_) <;> omega) | (unfold y_Le; omega) | ((with_reducible refine y_RIm (by with_reducible assumption) ?_ ?_ ?_) <;> omega) | ((with_reducible refine y_RIu (by with_reducible assumption) ?_ ?_ ?_ ?_ ?_) <;> omega) | ((with_reducible refine y_DIu (by with_reducible assumption) ?_ ?_ ?_) <;> omega))
      · (refine Or.inr ⟨?_, ?_, ?_, ?_, ?_, ?_, ?_, ?_, ?_, ?_, ?_, ?_, ?_⟩ <;> (first | with_reducible assumption | omega | ((with_reducible refine y_Vl ?_ ?_) <;> omega) | (unfold y_Le; omega) | ((with_reducible refine y_RIm (by with_reducible assumption) ?_ ?_ ?_) <;> omega) | ((with_reducible refine y_RIu (by with_reducible assumption) ?_ ?_ ?_ ?_ ?_) <;> omega) | ((with_reducible refine y_DIu (by with_reducible assumption) ?_ ?_ ?_) <;> omega)))
    · skip
      try have e31 := @y_addL v9_48 (1 : Int32) (1) rfl (by omega) (by omega)
      try have e32 := @y_add v9_16 v9_17 (by omega) (by omega)
      try have e33 := @y_addL (v9_16 + v9_17) (1 : Int32) (1) rfl (by omega) (by omega)
      try have e34 := @y_mulB (v9_48 + (1 : Int32)) ((v9_16 + v9_17) + (1 : Int32)) 20010 402 ⟨by omega, by omega⟩ ⟨by omega, by omega⟩ (by decide)
      have e35 : (20000 : Int32).toInt = 20000 := rfl
      have c15' := c15
      rw [Int32.le_iff_toInt_le] at c15'
      refine y_some ?_
      try dsimp only
      refine ⟨?_, ?_⟩
      · (first | with_reducible assumption | omega | ((with_reducible refine y_Vl ?_ ?_) <;> omega) | (unfold y_Le; omega) | ((with_reducible refine y_RIm (by with_reducible assumption) ?_ ?_ ?_) <;> omega) | ((with_reducible refine y_RIu (by with_reducible assumption) ?_ ?_ ?_ ?_ ?_) <;> omega) | ((with_reducible refine y_DIu (by with_reducible assumption) ?_ ?_ ?_) <;> omega))
      · exact Or.inl rfl
set_option maxHeartbeats 4000000 in
theorem y_X9_comes_L_0_i {v9_16 : Int32} {v9_17 : Int32} {v9_35 : Int32} {v9_36 : Int32} {v9_54 : Int32} {g9_4 : Nat → Int32} {g9_5 : Nat → Int32} {g9_33 : Nat → Int32} {g9_34 : Nat → Int32} {v9_48 : Int32} {v9_55 : Int32} {g9_43 : Nat → Int32} {g9_44 : Nat → Int32} {g9_45 : Nat → Int32} {g9_46 : Nat → Int32} {g9_47 : Nat → Int32} {g9_53 : Nat → Int32} {C : Nat} {mn B B2 X0 M0 : Int} {s0 L : Nat} (k0 : 0 ≤ v9_16.toInt) (k1 : v9_16.toInt ≤ 200) (k2 : 0 ≤ v9_17.toInt) (k3 : v9_17.toInt ≤ 200) (k4 : 0 ≤ v9_35.toInt) (k5 : v9_35.toInt ≤ v9_17.toInt) (k6 : 0 ≤ v9_36.toInt) (k7 : v9_36.toInt ≤ 1) (k8 : y_Up g9_4) (k9 : y_AV 202 g9_33) (k10 : y_AV 202 g9_34) (hC : (C : Int) = v9_16.toInt + v9_17.toInt) (k12 : 0 ≤ v9_48.toInt) (k13 : 0 ≤ v9_54.toInt) (k14 : v9_54.toInt < 20010) (k15 : B ≤ B2) (k16 : mn ≤ 999) (hL : L = 60600) (hfit : y_Fit v9_48.toInt C) (hsat : y_RI v9_48.toInt 0 mn g9_43) (hctx : y_RI v9_48.toInt 0 B g9_44) (hnxt : y_DI v9_48.toInt g9_45) (hhead : y_RI (mn + 1) (-1) (v9_48.toInt - 1) g9_46) (hw0 : 0 ≤ v9_55.toInt) (hwc : v9_55.toInt ≤ y_Ct v9_48.toInt.toNat g9_47) (hque : y_Q v9_54.toInt v9_55.toInt v9_48.toInt g9_53) (k31 : 0 ≤ X0) (k32 : X0 ≤ B2) : ∀ (m : Nat) {l1 : Int32} {l2 : Int32} {l3 : Int32} {l4 : Int32} {l5 : Int32} {l6 : Int32} {l7 : Int32} {l8 : Int32} {g9_57 : Nat → Int32}, (y_H C v9_48.toInt v9_17.toInt g9_57) → (y_AV 60600 g9_57) → (0 ≤ l1.toInt) → (l1.toInt ≤ mn) → (l2.toInt = X0) → (y_M L g9_57 = M0) → (-1 ≤ l3.toInt) → (l3.toInt < v9_48.toInt) → l3.toInt + 1 < m → y_Ok (f_X9_comes_L v9_16 v9_17 v9_35 v9_36 v9_54 g9_4 g9_5 g9_33 g9_34 v9_48 v9_55 g9_43 g9_44 g9_45 g9_46 g9_47 g9_53 (0, l1, l2, l3, l4, l5, l6, l7, l8, g9_57)) (fun r => (y_AV 60600 r.2.2.2.2.2.2.2.2.2) ∧ (r.1.toInt = 0 ∨ ((v9_48.toInt ≤ r.2.1.toInt) ∧ (r.2.1.toInt ≤ v9_48.toInt + 1) ∧ (y_Fit r.2.1.toInt C) ∧ (y_RI r.2.1.toInt 0 mn r.2.2.2.1) ∧ (y_RI r.2.1.toInt 0 B2 r.2.2.2.2.1) ∧ (y_DI r.2.1.toInt r.2.2.2.2.2.1) ∧ (y_RI (mn + 1) (-1) (r.2.1.toInt - 1) r.2.2.2.2.2.2.1) ∧ (0 ≤ r.2.2.1.toInt) ∧ (r.2.2.1.toInt ≤ y_Ct r.2.1.toInt.toNat r.2.2.2.2.2.2.2.1) ∧ (y_Q v9_54.toInt r.2.2.1.toInt r.2.1.toInt r.2.2.2.2.2.2.2.2.1) ∧ (y_H C r.2.1.toInt v9_17.toInt r.2.2.2.2.2.2.2.2.2) ∧ (y_Le v9_48.toInt M0 v9_55.toInt r.2.1.toInt (y_M L r.2.2.2.2.2.2.2.2.2) r.2.2.1.toInt) ∧ (r.2.1.toInt = v9_48.toInt + 1 ∨ X0 ≤ B)))) := by
  intro m
  induction m with
  | zero => intro l1 l2 l3 l4 l5 l6 l7 l8 g9_57 hH hfr k28 k29 k30 k33 k34 k35 hm; exfalso; omega
  | succ m ih =>
    intro l1 l2 l3 l4 l5 l6 l7 l8 g9_57 hH hfr k28 k29 k30 k33 k34 k35 hm
    have hle := hfit.le (by omega)
    rw [f_X9_comes_L]
    refine y_ip rfl ?_
    refine y_if (fun c1 => ?_) (fun c1 => ?_)
    · skip
      have e2 : (0 : Int32).toInt = 0 := rfl
      have c1' := c1
      rw [Int32.lt_iff_toInt_lt] at c1'
      refine y_Ok.mono (y_X9_comes_L_1 (C := C) (mn := mn) (B := B) (B2 := B2) (X0 := X0) (M0 := M0) (s0 := s0) (L := L) (l1 := l1) (l2 := l2) (l3 := l3) (l4 := 0) (l5 := 0) (l6 := 0) (l7 := 0) (l8 := 0) (g9_57 := g9_57) (by omega) (by omega) (by omega) (by omega) (by omega) (by omega) (by omega) (by omega) (by first | with_reducible assumption | omega | ((with_reducible refine y_Vl ?_ ?_) <;> omega) | (unfold y_Le; omega) | ((with_reducible refine y_RIm (by with_reducible assumption) ?_ ?_ ?_) <;> omega) | ((with_reducible refine y_RIu (by with_reducible assumption) ?_ ?_ ?_ ?_ ?_) <;> omega) | ((with_reducible refine y_DIu (by with_reducible assumption) ?_ ?_ ?_) <;> omega)) (by first | with_reducible assumption | omega | ((with_reducible refine y_Vl ?_ ?_) <;> omega) | (unfold y_Le; omega) | ((with_reducible refine y_RIm (by with_reducible assumption) ?_ ?_ ?_) <;> omega) | ((with_reducible refine y_RIu (by with_reducible assumption) ?_ ?_ ?_ ?_ ?_) <;> omega) | ((with_reducible refine y_DIu (by with_reducible assumption) ?_ ?_ ?_) <;> omega)) (by first | with_reducible assumption | omega | ((with_reducible refine y_Vl ?_ ?_) <;> omega) | (unfold y_Le; omega) | ((with_reducible refine y_RIm (by with_reducible assumption) ?_ ?_ ?_) <;> omega) | ((with_reducible refine y_RIu (by with_reducible assumption) ?_ ?_ ?_ ?_ ?_) <;> omega) | ((with_reducible refine y_DIu (by with_reducible assumption) ?_ ?_ ?_) <;> omega)) (by omega) (by omega) (by omega) (by omega) (by omega) (by omega) (by first | with_reducible assumption | omega | ((with_reducible refine y_Vl ?_ ?_) <;> omega) | (unfold y_Le; omega) | ((with_reducible refine y_RIm (by with_reducible assumption) ?_ ?_ ?_) <;> omega) | ((with_reducible refine y_RIu (by with_reducible assumption) ?_ ?_ ?_ ?_ ?_) <;> omega) | ((with_reducible refine y_DIu (by with_reducible assumption) ?_ ?_ ?_) <;> omega)) (by first | with_reducible assumption | omega | ((with_reducible refine y_Vl ?_ ?_) <;> omega) | (unfold y_Le; omega) | ((with_reducible refine y_RIm (by with_reducible assumption) ?_ ?_ ?_) <;> omega) | ((with_reducible refine y_RIu (by with_reducible assumption) ?_ ?_ ?_ ?_ ?_) <;> omega) | ((with_reducible refine y_DIu (by with_reducible assumption) ?_ ?_ ?_) <;> omega)) (by first | with_reducible assumption | omega | ((with_reducible refine y_Vl ?_ ?_) <;> omega) | (unfold y_Le; omega) | ((with_reducible refine y_RIm (by with_reducible assumption) ?_ ?_ ?_) <;> omega) | ((with_reducible refine y_RIu (by with_reducible assumption) ?_ ?_ ?_ ?_ ?_) <;> omega) | ((with_reducible refine y_DIu (by with_reducible assumption) ?_ ?_ ?_) <;> omega)) (by first | with_reducible assumption | omega | ((with_reducible refine y_Vl ?_ ?_) <;> omega) | (unfold y_Le; omega) | ((with_reducible refine y_RIm (by with_reducible assumption) ?_ ?_ ?_) <;> omega) | ((with_reducible refine y_RIu (by with_reducible assumption) ?_ ?_ ?_ ?_ ?_) <;> omega) | ((with_reducible refine y_DIu (by with_reducible assumption) ?_ ?_ ?_) <;> omega)) (by first | with_reducible assumption | omega | ((with_reducible refine y_Vl ?_ ?_) <;> omega) | (unfold y_Le; omega) | ((with_reducible refine y_RIm (by with_reducible assumption) ?_ ?_ ?_) <;> omega) | ((with_reducible refine y_RIu (by with_reducible assumption) ?_ ?_ ?_ ?_ ?_) <;> omega) | ((with_reducible refine y_DIu (by with_reducible assumption) ?_ ?_ ?_) <;> omega)) (by first | with_reducible assumption | omega | ((with_reducible refine y_Vl ?_ ?_) <;> omega) | (unfold y_Le; omega) | ((with_reducible refine y_RIm (by with_reducible assumption) ?_ ?_ ?_) <;> omega) | ((with_reducible refine y_RIu (by with_reducible assumption) ?_ ?_ ?_ ?_ ?_) <;> omega) | ((with_reducible refine y_DIu (by with_reducible assumption) ?_ ?_ ?_) <;> omega)) (by omega) (by omega) (by first | with_reducible assumption | omega | ((with_reducible refine y_Vl ?_ ?_) <;> omega) | (unfold y_Le; omega) | ((with_reducible refine y_RIm (by with_reducible assumption) ?_ ?_ ?_) <;> omega) | ((with_reducible refine y_RIu (by with_reducible assumption) ?_ ?_ ?_ ?_ ?_) <;> omega) | ((with_reducible refine y_DIu (by with_reducible assumption) ?_ ?_ ?_) <;> omega)) (by first | with_reducible assumption | omega | ((with_reducible refine y_Vl ?_ ?_) <;> omega) | (unfold y_Le; omega) | ((with_reducible refine y_RIm (by with_reducible assumption) ?_ ?_ ?_) <;> omega) | ((with_reducible refine y_RIu (by with_reducible assumption) ?_ ?_ ?_ ?_ ?_) <;> omega) | ((with_reducible refine y_DIu (by with_reducible assumption) ?_ ?_ ?_) <;> omega)) (by first | with_reducible assumption | omega | ((with_reducible refine y_Vl ?_ ?_) <;> omega) | (unfold y_Le; omega) | ((with_reducible refine y_RIm (by with_reducible assumption) ?_ ?_ ?_) <;> omega) | ((with_reducible refine y_RIu (by with_reducible assumption) ?_ ?_ ?_ ?_ ?_) <;> omega) | ((with_reducible refine y_DIu (by with_reducible assumption) ?_ ?_ ?_) <;> omega)) (by omega) (by omega) (by omega) (by omega) (by omega) (by omega) (by omega) (by omega) (by omega)) (fun r_t2 h_r_t2 => ?_)
      obtain ⟨h0_r_t2, h1_r_t2⟩ := h_r_t2
      refine ⟨?_, ?_⟩
      · (first | with_reducible assumption | omega | ((with_reducible refine y_Vl ?_ ?_) <;> omega) | (unfold y_Le; omega) | ((with_reducible refine y_RIm (by with_reducible assumption) ?_ ?_ ?_) <;> omega) | ((with_reducible refine y_RIu (by with_reducible assumption) ?_ ?_ ?_ ?_ ?_) <;> omega) | ((with_reducible refine y_DIu (by with_reducible assumption) ?_ ?_ ?_) <;> omega))
      · rcases h1_r_t2 with hz | hz
        · exact Or.inl hz
        · obtain ⟨g0_r_t2, g1_r_t2, g2_r_t2, g3_r_t2, g4_r_t2, g5_r_t2, g6_r_t2, g7_r_t2, g8_r_t2, g9_r_t2, g10_r_t2, g11_r_t2, g12_r_t2⟩ := hz
          (refine Or.inr ⟨?_, ?_, ?_, ?_, ?_, ?_, ?_, ?_, ?_, ?_, ?_, ?_, ?_⟩ <;> (first | with_reducible assumption | omega | ((with_reducible refine y_Vl ?_ ?_) <;> omega) | (unfold y_Le; omega) | ((with_reducible refine y_RIm (by with_reducible assumption) ?_ ?_ ?_) <;> omega) | ((with_reducible refine y_RIu (by with_reducible assumption) ?_ ?_ ?_ ?_ ?_) <;> omega) | ((with_reducible refine y_DIu (by with_reducible assumption) ?_ ?_ ?_) <;> omega)))
    · skip
      have e4 : (0 : Int32).toInt = 0 := rfl
      have c1' := c1
      rw [Int32.lt_iff_toInt_lt] at c1'
      refine y_gd (y_gdI (by omega) (by omega)) ?_
      refine y_if (fun c5 => ?_) (fun c5 => ?_)
      · skip
        try have e6 := @y_cl l3 (by omega)
        try have e7 := hctx.at (Int32.toNatClampNeg l3) (by omega)
        have c5' := c5
        rw [← Int32.toInt_inj] at c5'
        refine y_Ok.mono (y_X9_comes_L_1 (C := C) (mn := mn) (B := B) (B2 := B2) (X0 := X0) (M0 := M0) (s0 := s0) (L := L) (l1 := l1) (l2 := l2) (l3 := l3) (l4 := 0) (l5 := 0) (l6 := 0) (l7 := 0) (l8 := 0) (g9_57 := g9_57) (by omega) (by omega) (by omega) (by omega) (by omega) (by omega) (by omega) (by omega) (by first | with_reducible assumption | omega | ((with_reducible refine y_Vl ?_ ?_) <;> omega) | (unfold y_Le; omega) | ((with_reducible refine y_RIm (by with_reducible assumption) ?_ ?_ ?_) <;> omega) | ((with_reducible refine y_RIu (by with_reducible assumption) ?_ ?_ ?_ ?_ ?_) <;> omega) | ((with_reducible refine y_DIu (by with_reducible assumption) ?_ ?_ ?_) <;> omega)) (by first | with_reducible assumption | omega | ((with_reducible refine y_Vl ?_ ?_) <;> omega) | (unfold y_Le; omega) | ((with_reducible refine y_RIm (by with_reducible assumption) ?_ ?_ ?_) <;> omega) | ((with_reducible refine y_RIu (by with_reducible assumption) ?_ ?_ ?_ ?_ ?_) <;> omega) | ((with_reducible refine y_DIu (by with_reducible assumption) ?_ ?_ ?_) <;> omega)) (by first | with_reducible assumption | omega | ((with_reducible refine y_Vl ?_ ?_) <;> omega) | (unfold y_Le; omega) | ((with_reducible refine y_RIm (by with_reducible assumption) ?_ ?_ ?_) <;> omega) | ((with_reducible refine y_RIu (by with_reducible assumption) ?_ ?_ ?_ ?_ ?_) <;> omega) | ((with_reducible refine y_DIu (by with_reducible assumption) ?_ ?_ ?_) <;> omega)) (by omega) (by omega) (by omega) (by omega) (by omega) (by omega) (by first | with_reducible assumption | omega | ((with_reducible refine y_Vl ?_ ?_) <;> omega) | (unfold y_Le; omega) | ((with_reducible refine y_RIm (by with_reducible assumption) ?_ ?_ ?_) <;> omega) | ((with_reducible refine y_RIu (by with_reducible assumption) ?_ ?_ ?_ ?_ ?_) <;> omega) | ((with_reducible refine y_DIu (by with_reducible assumption) ?_ ?_ ?_) <;> omega)) (by first | with_reducible assumption | omega | ((with_reducible refine y_Vl ?_ ?_) <;> omega) | (unfold y_Le; omega) | ((with_reducible refine y_RIm (by with_reducible assumption) ?_ ?_ ?_) <;> omega) | ((with_reducible refine y_RIu (by with_reducible assumption) ?_ ?_ ?_ ?_ ?_) <;> omega) | ((with_reducible refine y_DIu (by with_reducible assumption) ?_ ?_ ?_) <;> omega)) (by first | with_reducible assumption | omega | ((with_reducible refine y_Vl ?_ ?_) <;> omega) | (unfold y_Le; omega) | ((with_reducible refine y_RIm (by with_reducible assumption) ?_ ?_ ?_) <;> omega) | ((with_reducible refine y_RIu (by with_reducible assumption) ?_ ?_ ?_ ?_ ?_) <;> omega) | ((with_reducible refine y_DIu (by with_reducible assumption) ?_ ?_ ?_) <;> omega)) (by first | with_reducible assumption | omega | ((with_reducible refine y_Vl ?_ ?_) <;> omega) | (unfold y_Le; omega) | ((with_reducible refine y_RIm (by with_reducible assumption) ?_ ?_ ?_) <;> omega) | ((with_reducible refine y_RIu (by with_reducible assumption) ?_ ?_ ?_ ?_ ?_) <;> omega) | ((with_reducible refine y_DIu (by with_reducible assumption) ?_ ?_ ?_) <;> omega)) (by first | with_reducible assumption | omega | ((with_reducible refine y_Vl ?_ ?_) <;> omega) | (unfold y_Le; omega) | ((with_reducible refine y_RIm (by with_reducible assumption) ?_ ?_ ?_) <;> omega) | ((with_reducible refine y_RIu (by with_reducible assumption) ?_ ?_ ?_ ?_ ?_) <;> omega) | ((with_reducible refine y_DIu (by with_reducible assumption) ?_ ?_ ?_) <;> omega)) (by first | with_reducible assumption | omega | ((with_reducible refine y_Vl ?_ ?_) <;> omega) | (unfold y_Le; omega) | ((with_reducible refine y_RIm (by with_reducible assumption) ?_ ?_ ?_) <;> omega) | ((with_reducible refine y_RIu (by with_reducible assumption) ?_ ?_ ?_ ?_ ?_) <;> omega) | ((with_reducible refine y_DIu (by with_reducible assumption) ?_ ?_ ?_) <;> omega)) (by omega) (by omega) (by first | with_reducible assumption | omega | ((with_reducible refine y_Vl ?_ ?_) <;> omega) | (unfold y_Le; omega) | ((with_reducible refine y_RIm (by with_reducible assumption) ?_ ?_ ?_) <;> omega) | ((with_reducible refine y_RIu (by with_reducible assumption) ?_ ?_ ?_ ?_ ?_) <;> omega) | ((with_reducible refine y_DIu (by with_reducible assumption) ?_ ?_ ?_) <;> omega)) (by first | with_reducible assumption | omega | ((with_reducible refine y_Vl ?_ ?_) <;> omega) | (unfold y_Le; omega) | ((with_reducible refine y_RIm (by with_reducible assumption) ?_ ?_ ?_) <;> omega) | ((with_reducible refine y_RIu (by with_reducible assumption) ?_ ?_ ?_ ?_ ?_) <;> omega) | ((with_reducible refine y_DIu (by with_reducible assumption) ?_ ?_ ?_) <;> omega)) (by first | with_reducible assumption | omega | ((with_reducible refine y_Vl ?_ ?_) <;> omega) | (unfold y_Le; omega) | ((with_reducible refine y_RIm (by with_reducible assumption) ?_ ?_ ?_) <;> omega) | ((with_reducible refine y_RIu (by with_reducible assumption) ?_ ?_ ?_ ?_ ?_) <;> omega) | ((with_reducible refine y_DIu (by with_reducible assumption) ?_ ?_ ?_) <;> omega)) (by omega) (by omega) (by omega) (by omega) (by omega) (by omega) (by omega) (by omega) (by omega)) (fun r_t7 h_r_t7 => ?_)
        obtain ⟨h0_r_t7, h1_r_t7⟩ := h_r_t7
        refine ⟨?_, ?_⟩
        · (first | with_reducible assumption | omega | ((with_reducible refine y_Vl ?_ ?_) <;> omega) | (unfold y_Le; omega) | ((with_reducible refine y_RIm (by with_reducible assumption) ?_ ?_ ?_) <;> omega) | ((with_reducible refine y_RIu (by with_reducible assumption) ?_ ?_ ?_ ?_ ?_) <;> omega) | ((with_reducible refine y_DIu (by with_reducible assumption) ?_ ?_ ?_) <;> omega))
        · rcases h1_r_t7 with hz | hz
          · exact Or.inl hz
          · obtain ⟨g0_r_t7, g1_r_t7, g2_r_t7, g3_r_t7, g4_r_t7, g5_r_t7, g6_r_t7, g7_r_t7, g8_r_t7, g9_r_t7, g10_r_t7, g11_r_t7, g12_r_t7⟩ := hz
            (refine Or.inr ⟨?_, ?_, ?_, ?_, ?_, ?_, ?_, ?_, ?_, ?_, ?_, ?_, ?_⟩ <;> (first | with_reducible assumption | omega | ((with_reducible refine y_Vl ?_ ?_) <;> omega) | (unfold y_Le; omega) | ((with_reducible refine y_RIm (by with_reducible assumption) ?_ ?_ ?_) <;> omega) | ((with_reducible refine y_RIu (by with_reducible assumption) ?_ ?_ ?_ ?_ ?_) <;> omega) | ((with_reducible refine y_DIu (by with_reducible assumption) ?_ ?_ ?_) <;> omega)))
      · skip
        try have e9 := @y_cl l3 (by omega)
        try have e10 := hctx.at (Int32.toNatClampNeg l3) (by omega)
        have c5' := c5
        rw [← Int32.toInt_inj] at c5'
        refine y_gd (y_gdI (by omega) (by omega)) ?_
        try have e11 := hnxt.at (Int32.toNatClampNeg l3) (by omega)
        exact ih (l1 := l1) (l2 := l2) (l3 := (g9_45 (Int32.toNatClampNeg l3))) (l4 := 0) (l5 := 0) (l6 := 0) (l7 := 0) (l8 := 0) (g9_57 := g9_57) (by first | with_reducible assumption | omega | ((with_reducible refine y_Vl ?_ ?_) <;> omega) | (unfold y_Le; omega) | ((with_reducible refine y_RIm (by with_reducible assumption) ?_ ?_ ?_) <;> omega) | ((with_reducible refine y_RIu (by with_reducible assumption) ?_ ?_ ?_ ?_ ?_) <;> omega) | ((with_reducible refine y_DIu (by with_reducible assumption) ?_ ?_ ?_) <;> omega)) (by first | with_reducible assumption | omega | ((with_reducible refine y_Vl ?_ ?_) <;> omega) | (unfold y_Le; omega) | ((with_reducible refine y_RIm (by with_reducible assumption) ?_ ?_ ?_) <;> omega) | ((with_reducible refine y_RIu (by with_reducible assumption) ?_ ?_ ?_ ?_ ?_) <;> omega) | ((with_reducible refine y_DIu (by with_reducible assumption) ?_ ?_ ?_) <;> omega)) (by omega) (by omega) (by omega) (by omega) (by omega) (by omega) (by omega)
theorem y_X9_comes_L_0 {v9_16 : Int32} {v9_17 : Int32} {v9_35 : Int32} {v9_36 : Int32} {v9_54 : Int32} {g9_4 : Nat → Int32} {g9_5 : Nat → Int32} {g9_33 : Nat → Int32} {g9_34 : Nat → Int32} {v9_48 : Int32} {v9_55 : Int32} {g9_43 : Nat → Int32} {g9_44 : Nat → Int32} {g9_45 : Nat → Int32} {g9_46 : Nat → Int32} {g9_47 : Nat → Int32} {g9_53 : Nat → Int32} {C : Nat} {mn B B2 X0 M0 : Int} {s0 L : Nat} {l1 : Int32} {l2 : Int32} {l3 : Int32} {l4 : Int32} {l5 : Int32} {l6 : Int32} {l7 : Int32} {l8 : Int32} {g9_57 : Nat → Int32} (k0 : 0 ≤ v9_16.toInt) (k1 : v9_16.toInt ≤ 200) (k2 : 0 ≤ v9_17.toInt) (k3 : v9_17.toInt ≤ 200) (k4 : 0 ≤ v9_35.toInt) (k5 : v9_35.toInt ≤ v9_17.toInt) (k6 : 0 ≤ v9_36.toInt) (k7 : v9_36.toInt ≤ 1) (k8 : y_Up g9_4) (k9 : y_AV 202 g9_33) (k10 : y_AV 202 g9_34) (hC : (C : Int) = v9_16.toInt + v9_17.toInt) (k12 : 0 ≤ v9_48.toInt) (k13 : 0 ≤ v9_54.toInt) (k14 : v9_54.toInt < 20010) (k15 : B ≤ B2) (k16 : mn ≤ 999) (hL : L = 60600) (hfit : y_Fit v9_48.toInt C) (hsat : y_RI v9_48.toInt 0 mn g9_43) (hctx : y_RI v9_48.toInt 0 B g9_44) (hnxt : y_DI v9_48.toInt g9_45) (hhead : y_RI (mn + 1) (-1) (v9_48.toInt - 1) g9_46) (hw0 : 0 ≤ v9_55.toInt) (hwc : v9_55.toInt ≤ y_Ct v9_48.toInt.toNat g9_47) (hque : y_Q v9_54.toInt v9_55.toInt v9_48.toInt g9_53) (hH : y_H C v9_48.toInt v9_17.toInt g9_57) (hfr : y_AV 60600 g9_57) (k28 : 0 ≤ l1.toInt) (k29 : l1.toInt ≤ mn) (k30 : l2.toInt = X0) (k31 : 0 ≤ X0) (k32 : X0 ≤ B2) (k33 : y_M L g9_57 = M0) (k34 : -1 ≤ l3.toInt) (k35 : l3.toInt < v9_48.toInt) : y_Ok (f_X9_comes_L v9_16 v9_17 v9_35 v9_36 v9_54 g9_4 g9_5 g9_33 g9_34 v9_48 v9_55 g9_43 g9_44 g9_45 g9_46 g9_47 g9_53 (0, l1, l2, l3, l4, l5, l6, l7, l8, g9_57)) (fun r => (y_AV 60600 r.2.2.2.2.2.2.2.2.2) ∧ (r.1.toInt = 0 ∨ ((v9_48.toInt ≤ r.2.1.toInt) ∧ (r.2.1.toInt ≤ v9_48.toInt + 1) ∧ (y_Fit r.2.1.toInt C) ∧ (y_RI r.2.1.toInt 0 mn r.2.2.2.1) ∧ (y_RI r.2.1.toInt 0 B2 r.2.2.2.2.1) ∧ (y_DI r.2.1.toInt r.2.2.2.2.2.1) ∧ (y_RI (mn + 1) (-1) (r.2.1.toInt - 1) r.2.2.2.2.2.2.1) ∧ (0 ≤ r.2.2.1.toInt) ∧ (r.2.2.1.toInt ≤ y_Ct r.2.1.toInt.toNat r.2.2.2.2.2.2.2.1) ∧ (y_Q v9_54.toInt r.2.2.1.toInt r.2.1.toInt r.2.2.2.2.2.2.2.2.1) ∧ (y_H C r.2.1.toInt v9_17.toInt r.2.2.2.2.2.2.2.2.2) ∧ (y_Le v9_48.toInt M0 v9_55.toInt r.2.1.toInt (y_M L r.2.2.2.2.2.2.2.2.2) r.2.2.1.toInt) ∧ (r.2.1.toInt = v9_48.toInt + 1 ∨ X0 ≤ B)))) := y_X9_comes_L_0_i (C := C) (mn := mn) (B := B) (B2 := B2) (X0 := X0) (M0 := M0) (s0 := s0) (L := L) k0 k1 k2 k3 k4 k5 k6 k7 k8 k9 k10 hC k12 k13 k14 k15 k16 hL hfit hsat hctx hnxt hhead hw0 hwc hque k31 k32 (l3.toInt + 1 + 1).toNat hH hfr k28 k29 k30 k33 k34 k35 (by omega)
set_option maxHeartbeats 4000000 in
theorem y_X9_comes {v9_16 : Int32} {v9_17 : Int32} {v9_35 : Int32} {v9_36 : Int32} {v9_48 : Int32} {v9_54 : Int32} {v9_55 : Int32} {g9_4 : Nat → Int32} {g9_5 : Nat → Int32} {g9_33 : Nat → Int32} {g9_34 : Nat → Int32} {g9_43 : Nat → Int32} {g9_44 : Nat → Int32} {g9_45 : Nat → Int32} {g9_46 : Nat → Int32} {g9_47 : Nat → Int32} {g9_53 : Nat → Int32} {g9_57 : Nat → Int32} {p1 : Int32} {p2 : Int32} {C L : Nat} {mn B B2 : Int} (k0 : 0 ≤ v9_16.toInt) (k1 : v9_16.toInt ≤ 200) (k2 : 0 ≤ v9_17.toInt) (k3 : v9_17.toInt ≤ 200) (k4 : 0 ≤ v9_35.toInt) (k5 : v9_35.toInt ≤ v9_17.toInt) (k6 : 0 ≤ v9_36.toInt) (k7 : v9_36.toInt ≤ 1) (k8 : y_Up g9_4) (k9 : y_AV 202 g9_33) (k10 : y_AV 202 g9_34) (hC : (C : Int) = v9_16.toInt + v9_17.toInt) (k12 : 0 ≤ v9_48.toInt) (k13 : 0 ≤ v9_54.toInt) (k14 : v9_54.toInt < 20010) (k15 : B ≤ B2) (k16 : mn ≤ 999) (hL : L = 60600) (hfit : y_Fit v9_48.toInt C) (hsat : y_RI v9_48.toInt 0 mn g9_43) (hctx : y_RI v9_48.toInt 0 B g9_44) (hnxt : y_DI v9_48.toInt g9_45) (hhead : y_RI (mn + 1) (-1) (v9_48.toInt - 1) g9_46) (hw0 : 0 ≤ v9_55.toInt) (hwc : v9_55.toInt ≤ y_Ct v9_48.toInt.toNat g9_47) (hque : y_Q v9_54.toInt v9_55.toInt v9_48.toInt g9_53) (hH : y_H C v9_48.toInt v9_17.toInt g9_57) (hfr : y_AV 60600 g9_57) (k28 : 0 ≤ p1.toInt) (k29 : p1.toInt ≤ mn) (k30 : 0 ≤ p2.toInt) (k31 : p2.toInt ≤ B2) : y_Ok (f_X9_comes v9_16 v9_17 v9_35 v9_36 v9_48 v9_54 v9_55 g9_4 g9_5 g9_33 g9_34 g9_43 g9_44 g9_45 g9_46 g9_47 g9_53 g9_57 p1 p2) (fun r => (y_AV 60600 r.2.2.2.2.2.2.2.2.2) ∧ (r.1.toInt = 0 ∨ ((v9_48.toInt ≤ r.2.1.toInt) ∧ (r.2.1.toInt ≤ v9_48.toInt + 1) ∧ (y_Fit r.2.1.toInt C) ∧ (y_RI r.2.1.toInt 0 mn r.2.2.2.1) ∧ (y_RI r.2.1.toInt 0 B2 r.2.2.2.2.1) ∧ (y_DI r.2.1.toInt r.2.2.2.2.2.1) ∧ (y_RI (mn + 1) (-1) (r.2.1.toInt - 1) r.2.2.2.2.2.2.1) ∧ (0 ≤ r.2.2.1.toInt) ∧ (r.2.2.1.toInt ≤ y_Ct r.2.1.toInt.toNat r.2.2.2.2.2.2.2.1) ∧ (y_Q v9_54.toInt r.2.2.1.toInt r.2.1.toInt r.2.2.2.2.2.2.2.2.1) ∧ (y_H C r.2.1.toInt v9_17.toInt r.2.2.2.2.2.2.2.2.2) ∧ (y_Le v9_48.toInt (y_M L g9_57) v9_55.toInt r.2.1.toInt (y_M L r.2.2.2.2.2.2.2.2.2) r.2.2.1.toInt) ∧ (r.2.1.toInt = v9_48.toInt + 1 ∨ p2.toInt ≤ B)))) := by
  unfold f_X9_comes
  refine y_gd (y_gdI (by omega) (by omega)) ?_
  try have e1 := @y_cl p1 (by omega)
  try have e2 := hhead.at (Int32.toNatClampNeg p1) (by omega)
  have e3 : (0 : Int32).toInt = 0 := rfl
  refine y_Ok.mono (y_X9_comes_L_0 (C := C) (mn := mn) (B := B) (B2 := B2) (X0 := p2.toInt) (M0 := (y_M L g9_57)) (s0 := 0) (L := L) (l1 := p1) (l2 := p2) (l3 := (g9_46 (Int32.toNatClampNeg p1))) (l4 := 0) (l5 := 0) (l6 := 0) (l7 := 0) (l8 := 0) (g9_57 := g9_57) (by omega) (by omega) (by omega) (by omega) (by omega) (by omega) (by omega) (by omega) (by first | with_reducible assumption | omega | ((with_reducible refine y_Vl ?_ ?_) <;> omega) | (unfold y_Le; omega) | ((with_reducible refine y_RIm (by with_reducible assumption) ?_ ?_ ?_) <;> omega) | ((with_reducible refine y_RIu (by with_reducible assumption) ?_ ?_ ?_ ?_ ?_) <;> omega) | ((with_reducible refine y_DIu (by with_reducible assumption) ?_ ?_ ?_) <;> omega)) (by first | with_reducible assumption | omega | ((with_reducible refine y_Vl ?_ ?_) <;> omega) | (unfold y_Le; omega) | ((with_reducible refine y_RIm (by with_reducible assumption) ?_ ?_ ?_) <;> omega) | ((with_reducible refine y_RIu (by with_reducible assumption) ?_ ?_ ?_ ?_ ?_) <;> omega) | ((with_reducible refine y_DIu (by with_reducible assumption) ?_ ?_ ?_) <;> omega)) (by first | with_reducible assumption | omega | ((with_reducible refine y_Vl ?_ ?_) <;> omega) | (unfold y_Le; omega) | ((with_reducible refine y_RIm (by with_reducible assumption) ?_ ?_ ?_) <;> omega) | ((with_reducible refine y_RIu (by with_reducible assumption) ?_ ?_ ?_ ?_ ?_) <;> omega) | ((with_reducible refine y_DIu (by with_reducible assumption) ?_ ?_ ?_) <;> omega)) (by omega) (by omega) (by omega) (by omega) (by omega) (by omega) (by first | with_reducible assumption | omega | ((with_reducible refine y_Vl ?_ ?_) <;> omega) | (unfold y_Le; omega) | ((with_reducible refine y_RIm (by with_reducible assumption) ?_ ?_ ?_) <;> omega) | ((with_reducible refine y_RIu (by with_reducible assumption) ?_ ?_ ?_ ?_ ?_) <;> omega) | ((with_reducible refine y_DIu (by with_reducible assumption) ?_ ?_ ?_) <;> omega)) (by first | with_reducible assumption | omega | ((with_reducible refine y_Vl ?_ ?_) <;> omega) | (unfold y_Le; omega) | ((with_reducible refine y_RIm (by with_reducible assumption) ?_ ?_ ?_) <;> omega) | ((with_reducible refine y_RIu (by with_reducible assumption) ?_ ?_ ?_ ?_ ?_) <;> omega) | ((with_reducible refine y_DIu (by with_reducible assumption) ?_ ?_ ?_) <;> omega)) (by first | with_reducible assumption | omega | ((with_reducible refine y_Vl ?_ ?_) <;> omega) | (unfold y_Le; omega) | ((with_reducible refine y_RIm (by with_reducible assumption) ?_ ?_ ?_) <;> omega) | ((with_reducible refine y_RIu (by with_reducible assumption) ?_ ?_ ?_ ?_ ?_) <;> omega) | ((with_reducible refine y_DIu (by with_reducible assumption) ?_ ?_ ?_) <;> omega)) (by first | with_reducible assumption | omega | ((with_reducible refine y_Vl ?_ ?_) <;> omega) | (unfold y_Le; omega) | ((with_reducible refine y_RIm (by with_reducible assumption) ?_ ?_ ?_) <;> omega) | ((with_reducible refine y_RIu (by with_reducible assumption) ?_ ?_ ?_ ?_ ?_) <;> omega) | ((with_reducible refine y_DIu (by with_reducible assumption) ?_ ?_ ?_) <;> omega)) (by first | with_reducible assumption | omega | ((with_reducible refine y_Vl ?_ ?_) <;> omega) | (unfold y_Le; omega) | ((with_reducible refine y_RIm (by with_reducible assumption) ?_ ?_ ?_) <;> omega) | ((with_reducible refine y_RIu (by with_reducible assumption) ?_ ?_ ?_ ?_ ?_) <;> omega) | ((with_reducible refine y_DIu (by with_reducible assumption) ?_ ?_ ?_) <;> omega)) (by first | with_reducible assumption | omega | ((with_reducible refine y_Vl ?_ ?_) <;> omega) | (unfold y_Le; omega) | ((with_reducible refine y_RIm (by with_reducible assumption) ?_ ?_ ?_) <;> omega) | ((with_reducible refine y_RIu (by with_reducible assumption) ?_ ?_ ?_ ?_ ?_) <;> omega) | ((with_reducible refine y_DIu (by with_reducible assumption) ?_ ?_ ?_) <;> omega)) (by omega) (by omega) (by first | with_reducible assumption | omega | ((with_reducible refine y_Vl ?_ ?_) <;> omega) | (unfold y_Le; omega) | ((with_reducible refine y_RIm (by with_reducible assumption) ?_ ?_ ?_) <;> omega) | ((with_reducible refine y_RIu (by with_reducible assumption) ?_ ?_ ?_ ?_ ?_) <;> omega) | ((with_reducible refine y_DIu (by with_reducible assumption) ?_ ?_ ?_) <;> omega)) (by first | with_reducible assumption | omega | ((with_reducible refine y_Vl ?_ ?_) <;> omega) | (unfold y_Le; omega) | ((with_reducible refine y_RIm (by with_reducible assumption) ?_ ?_ ?_) <;> omega) | ((with_reducible refine y_RIu (by with_reducible assumption) ?_ ?_ ?_ ?_ ?_) <;> omega) | ((with_reducible refine y_DIu (by with_reducible assumption) ?_ ?_ ?_) <;> omega)) (by first | with_reducible assumption | omega | ((with_reducible refine y_Vl ?_ ?_) <;> omega) | (unfold y_Le; omega) | ((with_reducible refine y_RIm (by with_reducible assumption) ?_ ?_ ?_) <;> omega) | ((with_reducible refine y_RIu (by with_reducible assumption) ?_ ?_ ?_ ?_ ?_) <;> omega) | ((with_reducible refine y_DIu (by with_reducible assumption) ?_ ?_ ?_) <;> omega)) (by omega) (by omega) (by omega) (by omega) (by omega) (by omega) (by omega) (by omega)) (fun r_t3 h_r_t3 => ?_)
  obtain ⟨h0_r_t3, h1_r_t3⟩ := h_r_t3
  refine ⟨?_, ?_⟩
  · (first | with_reducible assumption | omega | ((with_reducible refine y_Vl ?_ ?_) <;> omega) | (unfold y_Le; omega) | ((with_reducible refine y_RIm (by with_reducible assumption) ?_ ?_ ?_) <;> omega) | ((with_reducible refine y_RIu (by with_reducible assumption) ?_ ?_ ?_ ?_ ?_) <;> omega) | ((with_reducible refine y_DIu (by with_reducible assumption) ?_ ?_ ?_) <;> omega))
  · rcases h1_r_t3 with hz | hz
    · exact Or.inl hz
    · obtain ⟨g0_r_t3, g1_r_t3, g2_r_t3, g3_r_t3, g4_r_t3, g5_r_t3, g6_r_t3, g7_r_t3, g8_r_t3, g9_r_t3, g10_r_t3, g11_r_t3, g12_r_t3⟩ := hz
      (refine Or.inr ⟨?_, ?_, ?_, ?_, ?_, ?_, ?_, ?_, ?_, ?_, ?_, ?_, ?_⟩ <;> (first | with_reducible assumption | omega | ((with_reducible refine y_Vl ?_ ?_) <;> omega) | (unfold y_Le; omega) | ((with_reducible refine y_RIm (by with_reducible assumption) ?_ ?_ ?_) <;> omega) | ((with_reducible refine y_RIu (by with_reducible assumption) ?_ ?_ ?_ ?_ ?_) <;> omega) | ((with_reducible refine y_DIu (by with_reducible assumption) ?_ ?_ ?_) <;> omega)))
