def f_X5_setLocal (v5_2 : Int32) (v5_6 : Int32) (v5_7 : Int32) (g5_1 : Nat → Int32) (p1 : Int32) (p2 : Int32) : Option (Int32 × Int32 × (Nat → Int32)) := (f_X5_isWide p2) >>= (fun r_1 => if r_1 = (0 : Int32) then if p1 < (0 : Int32) then some (1, v5_7, g5_1) else if p1 < v5_2 then if p1 ≤ (0 : Int32) then if v5_2 ≤ (p1 + (1 : Int32)) then if x_gd p1 400 = true then if p1 ≤ p1 then some (v5_6, 1, upd g5_1 (Int32.toNatClampNeg p1) p2) else if x_gd p1 400 = true then some (v5_6, 1, upd (upd g5_1 (Int32.toNatClampNeg p1) p2) (Int32.toNatClampNeg p1) 7) else none else none else if x_gd (p1 + (1 : Int32)) 400 = true then if (g5_1 (Int32.toNatClampNeg (p1 + (1 : Int32)))) = (7 : Int32) then if x_gd (p1 + (1 : Int32)) 400 = true then if x_gd p1 400 = true then if p1 ≤ p1 then some (v5_6, 1, upd (upd g5_1 (Int32.toNatClampNeg (p1 + (1 : Int32))) 0) (Int32.toNatClampNeg p1) p2) else if x_gd p1 400 = true then some (v5_6, 1, upd (upd (upd g5_1 (Int32.toNatClampNeg (p1 + (1 : Int32))) 0) (Int32.toNatClampNeg p1) p2) (Int32.toNatClampNeg p1) 7) else none else none else none else if x_gd p1 400 = true then if p1 ≤ p1 then some (v5_6, 1, upd g5_1 (Int32.toNatClampNeg p1) p2) else if x_gd p1 400 = true then some (v5_6, 1, upd (upd g5_1 (Int32.toNatClampNeg p1) p2) (Int32.toNatClampNeg p1) 7) else none else none else none else if x_gd p1 400 = true then if (g5_1 (Int32.toNatClampNeg p1)) = (7 : Int32) then if x_gd (p1 - (1 : Int32)) 400 = true then if v5_2 ≤ (p1 + (1 : Int32)) then if x_gd p1 400 = true then if p1 ≤ p1 then some (v5_6, 1, upd (upd g5_1 (Int32.toNatClampNeg (p1 - (1 : Int32))) 0) (Int32.toNatClampNeg p1) p2) else if x_gd p1 400 = true then some (v5_6, 1, upd (upd (upd g5_1 (Int32.toNatClampNeg (p1 - (1 : Int32))) 0) (Int32.toNatClampNeg p1) p2) (Int32.toNatClampNeg p1) 7) else none else none else if x_gd (p1 + (1 : Int32)) 400 = true then if ((upd g5_1 (Int32.toNatClampNeg (p1 - (1 : Int32))) 0) (Int32.toNatClampNeg (p1 + (1 : Int32)))) = (7 : Int32) then if x_gd (p1 + (1 : Int32)) 400 = true then if x_gd p1 400 = true then if p1 ≤ p1 then some (v5_6, 1, upd (upd (upd g5_1 (Int32.toNatClampNeg (p1 - (1 : Int32))) 0) (Int32.toNatClampNeg (p1 + (1 : Int32))) 0) (Int32.toNatClampNeg p1) p2) else if x_gd p1 400 = true then some (v5_6, 1, upd (upd (upd (upd g5_1 (Int32.toNatClampNeg (p1 - (1 : Int32))) 0) (Int32.toNatClampNeg (p1 + (1 : Int32))) 0) (Int32.toNatClampNeg p1) p2) (Int32.toNatClampNeg p1) 7) else none else none else none else if x_gd p1 400 = true then if p1 ≤ p1 then some (v5_6, 1, upd (upd g5_1 (Int32.toNatClampNeg (p1 - (1 : Int32))) 0) (Int32.toNatClampNeg p1) p2) else if x_gd p1 400 = true then some (v5_6, 1, upd (upd (upd g5_1 (Int32.toNatClampNeg (p1 - (1 : Int32))) 0) (Int32.toNatClampNeg p1) p2) (Int32.toNatClampNeg p1) 7) else none else none else none else none else if v5_2 ≤ (p1 + (1 : Int32)) then if x_gd p1 400 = true then if p1 ≤ p1 then some (v5_6, 1, upd g5_1 (Int32.toNatClampNeg p1) p2) else if x_gd p1 400 = true then some (v5_6, 1, upd (upd g5_1 (Int32.toNatClampNeg p1) p2) (Int32.toNatClampNeg p1) 7) else none else none else if x_gd (p1 + (1 : Int32)) 400 = true then if (g5_1 (Int32.toNatClampNeg (p1 + (1 : Int32)))) = (7 : Int32) then if x_gd (p1 + (1 : Int32)) 400 = true then if x_gd p1 400 = true then if p1 ≤ p1 then some (v5_6, 1, upd (upd g5_1 (Int32.toNatClampNeg (p1 + (1 : Int32))) 0) (Int32.toNatClampNeg p1) p2) else if x_gd p1 400 = true then some (v5_6, 1, upd (upd (upd g5_1 (Int32.toNatClampNeg (p1 + (1 : Int32))) 0) (Int32.toNatClampNeg p1) p2) (Int32.toNatClampNeg p1) 7) else none else none else none else if x_gd p1 400 = true then if p1 ≤ p1 then some (v5_6, 1, upd g5_1 (Int32.toNatClampNeg p1) p2) else if x_gd p1 400 = true then some (v5_6, 1, upd (upd g5_1 (Int32.toNatClampNeg p1) p2) (Int32.toNatClampNeg p1) 7) else none else none else none else none else some (1, v5_7, g5_1) else if p1 < (0 : Int32) then some (1, v5_7, g5_1) else if (p1 + (1 : Int32)) < v5_2 then if p1 ≤ (0 : Int32) then if v5_2 ≤ ((p1 + (1 : Int32)) + (1 : Int32)) then if x_gd p1 400 = true then if (p1 + (1 : Int32)) ≤ p1 then some (v5_6, 1, upd g5_1 (Int32.toNatClampNeg p1) p2) else if x_gd (p1 + (1 : Int32)) 400 = true then some (v5_6, 1, upd (upd g5_1 (Int32.toNatClampNeg p1) p2) (Int32.toNatClampNeg (p1 + (1 : Int32))) 7) else none else none else if x_gd ((p1 + (1 : Int32)) + (1 : Int32)) 400 = true then if (g5_1 (Int32.toNatClampNeg ((p1 + (1 : Int32)) + (1 : Int32)))) = (7 : Int32) then if x_gd ((p1 + (1 : Int32)) + (1 : Int32)) 400 = true then if x_gd p1 400 = true then if (p1 + (1 : Int32)) ≤ p1 then some (v5_6, 1, upd (upd g5_1 (Int32.toNatClampNeg ((p1 + (1 : Int32)) + (1 : Int32))) 0) (Int32.toNatClampNeg p1) p2) else if x_gd (p1 + (1 : Int32)) 400 = true then some (v5_6, 1, upd (upd (upd g5_1 (Int32.toNatClampNeg ((p1 + (1 : Int32)) + (1 : Int32))) 0) (Int32.toNatClampNeg p1) p2) (Int32.toNatClampNeg (p1 + (1 : Int32))) 7) else none else none else none else if x_gd p1 400 = true then if (p1 + (1 : Int32)) ≤ p1 then some (v5_6, 1, upd g5_1 (Int32.toNatClampNeg p1) p2) else if x_gd (p1 + (1 : Int32)) 400 = true then some (v5_6, 1, upd (upd g5_1 (Int32.toNatClampNeg p1) p2) (Int32.toNatClampNeg (p1 + (1 : Int32))) 7) else none else none else none else if x_gd p1 400 = true then if (g5_1 (Int32.toNatClampNeg p1)) = (7 : Int32) then if x_gd (p1 - (1 : Int32)) 400 = true then if v5_2 ≤ ((p1 + (1 : Int32)) + (1 : Int32)) then if x_gd p1 400 = true then if (p1 + (1 : Int32)) ≤ p1 then some (v5_6, 1, upd (upd g5_1 (Int32.toNatClampNeg (p1 - (1 : Int32))) 0) (Int32.toNatClampNeg p1) p2) else if x_gd (p1 + (1 : Int32)) 400 = true then some (v5_6, 1, upd (upd (upd g5_1 (Int32.toNatClampNeg (p1 - (1 : Int32))) 0) (Int32.toNatClampNeg p1) p2) (Int32.toNatClampNeg (p1 + (1 : Int32))) 7) else none else none else if x_gd ((p1 + (1 : Int32)) + (1 : Int32)) 400 = true then if ((upd g5_1 (Int32.toNatClampNeg (p1 - (1 : Int32))) 0) (Int32.toNatClampNeg ((p1 + (1 : Int32)) + (1 : Int32)))) = (7 : Int32) then if x_gd ((p1 + (1 : Int32)) + (1 : Int32)) 400 = true then if x_gd p1 400 = true then if (p1 + (1 : Int32)) ≤ p1 then some (v5_6, 1, upd (upd (upd g5_1 (Int32.toNatClampNeg (p1 - (1 : Int32))) 0) (Int32.toNatClampNeg ((p1 + (1 : Int32)) + (1 : Int32))) 0) (Int32.toNatClampNeg p1) p2) else if x_gd (p1 + (1 : Int32)) 400 = true then some (v5_6, 1, upd (upd (upd (upd g5_1 (Int32.toNatClampNeg (p1 - (1 : Int32))) 0) (Int32.toNatClampNeg ((p1 + (1 : Int32)) + (1 : Int32))) 0) (Int32.toNatClampNeg p1) p2) (Int32.toNatClampNeg (p1 + (1 : Int32))) 7) else none else none else none else if x_gd p1 400 = true then if (p1 + (1 : Int32)) ≤ p1 then some (v5_6, 1, upd (upd g5_1 (Int32.toNatClampNeg (p1 - (1 : Int32))) 0) (Int32.toNatClampNeg p1) p2) else if x_gd (p1 + (1 : Int32)) 400 = true then some (v5_6, 1, upd (upd (upd g5_1 (Int32.toNatClampNeg (p1 - (1 : Int32))) 0) (Int32.toNatClampNeg p1) p2) (Int32.toNatClampNeg (p1 + (1 : Int32))) 7) else none else none else none else none else if v5_2 ≤ ((p1 + (1 : Int32)) + (1 : Int32)) then if x_gd p1 400 = true then if (p1 + (1 : Int32)) ≤ p1 then some (v5_6, 1, upd g5_1 (Int32.toNatClampNeg p1) p2) else if x_gd (p1 + (1 : Int32)) 400 = true then some (v5_6, 1, upd (upd g5_1 (Int32.toNatClampNeg p1) p2) (Int32.toNatClampNeg (p1 + (1 : Int32))) 7) else none else none else if x_gd ((p1 + (1 : Int32)) + (1 : Int32)) 400 = true then if (g5_1 (Int32.toNatClampNeg ((p1 + (1 : Int32)) + (1 : Int32)))) = (7 : Int32) then if x_gd ((p1 + (1 : Int32)) + (1 : Int32)) 400 = true then if x_gd p1 400 = true then if (p1 + (1 : Int32)) ≤ p1 then some (v5_6, 1, upd (upd g5_1 (Int32.toNatClampNeg ((p1 + (1 : Int32)) + (1 : Int32))) 0) (Int32.toNatClampNeg p1) p2) else if x_gd (p1 + (1 : Int32)) 400 = true then some (v5_6, 1, upd (upd (upd g5_1 (Int32.toNatClampNeg ((p1 + (1 : Int32)) + (1 : Int32))) 0) (Int32.toNatClampNeg p1) p2) (Int32.toNatClampNeg (p1 + (1 : Int32))) 7) else none else none else none else if x_gd p1 400 = true then if (p1 + (1 : Int32)) ≤ p1 then some (v5_6, 1, upd g5_1 (Int32.toNatClampNeg p1) p2) else if x_gd (p1 + (1 : Int32)) 400 = true then some (v5_6, 1, upd (upd g5_1 (Int32.toNatClampNeg p1) p2) (Int32.toNatClampNeg (p1 + (1 : Int32))) 7) else none else none else none else none else some (1, v5_7, g5_1))
theorem i_X5_setLocal_X5 : ∀ w ∈ wsX50, w ∈ wsX5_setLocal := by decide +kernel
set_option maxHeartbeats 4000000 in
set_option maxRecDepth 100000 in
theorem c_X5_setLocal (l : Launch) (dC : Nat → ClassId) (dI : Nat → Nat → Nat) (cyI cyZ cyJ : ClassId) (sz : Nat) (o5 : Nat) (o7 : Nat) (a5_1 : Nat) (v5_2 : Int32) (v5_3 : Int32) (v5_4 : Int32) (v5_5 : Int32) (v5_6 : Int32) (v5_7 : Int32) (v5_8 : Int32) (v5_9 : Int32) (g5_1 : Nat → Int32) (p1 : Int32) (p2 : Int32) (R : Int32 × Int32 × (Nat → Int32)) (hf : f_X5_setLocal v5_2 v5_6 v5_7 g5_1 p1 p2 = some R) : Met l yX5_setLocal wsX5_setLocal ({ frames := 1, cells := 0, slots := 0, locals := 20 }) (va_Pc [.ref o5, .int p1, .int p2] (x_PreD (dC, dI) (x_T cyI cyZ cyJ) [(o5, .inr (5, [.ref o7, .ref a5_1, .int v5_2, .int v5_3, .int v5_4, .int v5_5, .int v5_6, .int v5_7, .int v5_8, .int v5_9])), (a5_1, .inl (cyI, 400, .inl g5_1))] sz)) (va_Qv (fun _ : Unit => True) (fun (_ : Unit) (t : State) => va_P (dC, dI) vwCl [(o5, .inr (5, [.ref o7, .ref a5_1, .int v5_2, .int v5_3, .int v5_4, .int v5_5, .int (R.1), .int (R.2.1), .int v5_8, .int v5_9])), (a5_1, .inl (cyI, 400, .inl R.2.2))] t.heap ∧ va_K (dC, dI) vwCl (x_T cyI cyZ cyJ) t ∧ va_D (va_A [(o5, .inr (5, [.ref o7, .ref a5_1, .int v5_2, .int v5_3, .int v5_4, .int v5_5, .int v5_6, .int v5_7, .int v5_8, .int v5_9])), (a5_1, .inl (cyI, 400, .inl g5_1))] sz) [(o5, .inr (5, [.ref o7, .ref a5_1, .int v5_2, .int v5_3, .int v5_4, .int v5_5, .int (R.1), .int (R.2.1), .int v5_8, .int v5_9])), (a5_1, .inl (cyI, 400, .inl R.2.2))]) (va_A [(o5, .inr (5, [.ref o7, .ref a5_1, .int v5_2, .int v5_3, .int v5_4, .int v5_5, .int v5_6, .int v5_7, .int v5_8, .int v5_9])), (a5_1, .inl (cyI, 400, .inl g5_1))] sz)) 0 0 (va_A [(o5, .inr (5, [.ref o7, .ref a5_1, .int v5_2, .int v5_3, .int v5_4, .int v5_5, .int v5_6, .int v5_7, .int v5_8, .int v5_9])), (a5_1, .inl (cyI, 400, .inl g5_1))] sz) := by
  refine Met.ofW (cc := cX5_setLocal) (maxL := 4) (ret := none) (by decide) rfl ?_
  intro p e s m args below meth c s₁ B hml hv
  obtain ⟨rfl, ⟨hsz, hP, hK, hN⟩, hD0⟩ := hv
  have hx := B.exec
  have hb := B.bytes
  have hr := B.returns
  have hts := atoms_spec (ws := wsX5_setLocal) B.pre
  have hown : s.vm.findClass RX5 = some m.cls := findClass_of_methodNamed B.named
  have k_1 := hts (.fieldLink RX5 38 "FlowJudge$Places" "refused" "Z") (by decide +kernel)
  have k_2 := hts (.fieldLink RX5 25 "FlowJudge$Places" "locals" "I") (by decide +kernel)
  have k_3 := hts (.fieldLink RX5 9 "FlowJudge$Places" "cells" "[I") (by decide +kernel)
  have k_4 := hts (.fieldLink RX5 80 "FlowJudge$Places" "moved" "Z") (by decide +kernel)
  subst hsz
  have hD := hD0.self (sz := s.heap.size)
  generalize hAe : va_A [(o5, .inr (5, [.ref o7, .ref a5_1, .int v5_2, .int v5_3, .int v5_4, .int v5_5, .int v5_6, .int v5_7, .int v5_8, .int v5_9])), (a5_1, .inl (cyI, 400, .inl g5_1))] s.heap.size = A at hD ⊢
  have hA : ∀ q : Nat, s.heap.size ≤ q → A q := fun q h => by rw [← hAe]; exact Or.inr h
  have hP : va_P (dC, dI) vwCl [(o5, .inr (5, [.ref o7, .ref a5_1, .int v5_2, .int v5_3, .int v5_4, .int v5_5, .int v5_6, .int v5_7, .int v5_8, .int v5_9])), (a5_1, .inl (cyI, 400, .inl g5_1))] s.heap := hP
  have hl := lv_entry ([.ref o5, .int p1, .int p2]) (n := 4) (Nat.le_of_ble_eq_true rfl)
  rw [lg_entry_eq]
  generalize (lg_sl ([.ref o5, .int p1, .int p2]) ++ List.replicate (4 - (lg_sl ([.ref o5, .int p1, .int p2])).length) Slot.unset).toArray = ls at hl ⊢
  have hl : lv_has ls 4 [(0, .ref o5), (1, .int p1), (2, .int p2)] := hl
  obtain ⟨H, hH⟩ : ∃ z, z = s.heap := ⟨_, rfl⟩
  refine x_here hH ?_
  have hP : va_P (dC, dI) vwCl [(o5, .inr (5, [.ref o7, .ref a5_1, .int v5_2, .int v5_3, .int v5_4, .int v5_5, .int v5_6, .int v5_7, .int v5_8, .int v5_9])), (a5_1, .inl (cyI, 400, .inl g5_1))] H := by rw [hH]; exact hP
  have hS : va_S A s.heap H [] := by rw [hH]; exact va_S.rf
  clear hH
  obtain ⟨locs, hlo⟩ : ∃ z : List Loc, z = [] := ⟨_, rfl⟩
  refine x_herl hlo ?_
  have hS : va_S A s.heap H locs := by rw [hlo]; exact hS
  clear hlo
  unfold f_X5_setLocal at hf
  refine lv_iload_n hx hb dX5_setLocal_0 rfl (lv_at hl 2 rfl) ?_
  obtain ⟨r_1, h_1, hf⟩ := x_bi hf
  have hPc := hP.sub (ws' := []) [] rfl
  refine va_calli (va_runS (As := [.int p2]) (rest := []) ⟨hx, hb, hml, hown, hts⟩ (c_X5_isWide l dC dI cyI cyZ cyJ H.size p2 r_1 h_1) (va_cwS 1 hts gX5_setLocal_X5_isWide rfl rfl rfl (by decide +kernel) ⟨Nat.le_of_ble_eq_true rfl, Nat.le_of_ble_eq_true rfl⟩) (x_pS hN hK hPc) rfl rfl hl.1 rfl (lv_room (Nat.le_of_ble_eq_true rfl)) dX5_setLocal_1 ⟨Nat.le_of_ble_eq_true rfl, Nat.le_of_ble_eq_true rfl⟩) hS x_nA (x_nf hA hS) (fun q_1 u t H1 locs ht hvm hw hB hz1 hk1 hS => ?_)
  have hP := x_kp hP hk1
  clear ht hvm hB hz1 hk1 t u hPc
  generalize H1 = H at hP hS ⊢
  obtain ⟨hw, b_1⟩ := hw
  obtain rfl := hw.symm
  refine lv_if_eq (tgt := 13) hx hb dX5_setLocal_4 (by decide) (fun c_2 => ?_) (fun c_2 => ?_)
  · replace hf := x_ip c_2 hf
    refine lv_iload_n hx hb dX5_setLocal_13 rfl (lv_at hl 1 rfl) ?_
    refine lv_istore_n (lv' := [(3, .int p1), (0, .ref o5), (1, .int p1), (2, .int p2)]) hx hb dX5_setLocal_14 rfl hl (by decide) rfl (fun ls hl => ?_)
    refine lv_iload_n hx hb dX5_setLocal_15 rfl (lv_at hl 2 rfl) ?_
    refine lv_if_lt (tgt := 27) hx hb dX5_setLocal_16 (by decide) (fun c_3 => ?_) (fun c_3 => ?_)
    · replace hf := x_ip c_3 hf
      refine lv_aload_n hx hb dX5_setLocal_27 rfl (lv_at hl 1 rfl) ?_
      refine lv_iconst (v := 1) hx hb dX5_setLocal_28 (by decide) ?_
      refine va_put (D := (dC, dI)) (ci := 5) (v := .int 1) (ty := .boolean) (C := RX5) (T := TX5) (N := 10) hx hb hts i_X5_setLocal_X5 tyX5 tyX5_ok nmX5 hown hK hP hD hS 0 rfl rfl 6 (by decide) k_1 (fun _ h9 => h9) rfl (by decide +kernel) rfl rfl (Nat.le_of_ble_eq_true rfl) dX5_setLocal_29 (fun H locs hP hD hS => ?_)
      have hP : va_P (dC, dI) vwCl [(o5, .inr (5, [.ref o7, .ref a5_1, .int v5_2, .int v5_3, .int v5_4, .int v5_5, .int 1, .int v5_7, .int v5_8, .int v5_9])), (a5_1, .inl (cyI, 400, .inl g5_1))] H := hP
      have hD : va_D A [(o5, .inr (5, [.ref o7, .ref a5_1, .int v5_2, .int v5_3, .int v5_4, .int v5_5, .int 1, .int v5_7, .int v5_8, .int v5_9])), (a5_1, .inl (cyI, 400, .inl g5_1))] := hD
      obtain rfl := Option.some.inj hf
      have hP9 := hP.sub (ws' := [(o5, .inr (5, [.ref o7, .ref a5_1, .int v5_2, .int v5_3, .int v5_4, .int v5_5, .int 1, .int v5_7, .int v5_8, .int v5_9])), (a5_1, .inl (cyI, 400, .inl g5_1))]) [0, 1] rfl
      have hD9 := hD.sub (ws' := [(o5, .inr (5, [.ref o7, .ref a5_1, .int v5_2, .int v5_3, .int v5_4, .int v5_5, .int 1, .int v5_7, .int v5_8, .int v5_9])), (a5_1, .inl (cyI, 400, .inl g5_1))]) [0, 1] (by decide) rfl
      exact W.vret hx hb hr (fun t ht hW => ⟨⟨(), rfl, trivial, by rw [ht]; exact hP9, va_K.moved hW.alike hK, hD9⟩, hS.F ht⟩) hS.2.2 dX5_setLocal_32
    · replace hf := x_in c_3 hf
      refine lv_iload_n hx hb dX5_setLocal_19 rfl (lv_at hl 0 rfl) ?_
      refine lv_aload_n hx hb dX5_setLocal_20 rfl (lv_at hl 1 rfl) ?_
      refine va_get (D := (dC, dI)) (ci := 5) (v := .int v5_2) (C := RX5) (T := TX5) (N := 10) hx hb hts i_X5_setLocal_X5 hown hK hP 0 rfl rfl 2 (by decide) k_2 (fun _ h9 => h9) rfl dX5_setLocal_21 ?_
      refine lv_icmp_lt (tgt := 33) hx hb dX5_setLocal_24 (by decide) (fun c_4 => ?_) (fun c_4 => ?_)
      · replace hf := x_ip c_4 hf
        refine lv_iload_n hx hb dX5_setLocal_33 rfl (lv_at hl 2 rfl) ?_
        refine lv_if_le (tgt := 57) hx hb dX5_setLocal_34 (by decide) (fun c_5 => ?_) (fun c_5 => ?_)
        · replace hf := x_ip c_5 hf
          refine lv_iload_n hx hb dX5_setLocal_57 rfl (lv_at hl 0 rfl) ?_
          refine lv_iconst (v := 1) hx hb dX5_setLocal_58 (by decide) ?_
          refine lv_iadd hx hb dX5_setLocal_59 ?_
          refine lv_aload_n hx hb dX5_setLocal_60 rfl (lv_at hl 1 rfl) ?_
          refine va_get (D := (dC, dI)) (ci := 5) (v := .int v5_2) (C := RX5) (T := TX5) (N := 10) hx hb hts i_X5_setLocal_X5 hown hK hP 0 rfl rfl 2 (by decide) k_2 (fun _ h9 => h9) rfl dX5_setLocal_61 ?_
          refine lv_icmp_ge (tgt := 89) hx hb dX5_setLocal_64 (by decide) (fun c_6 => ?_) (fun c_6 => ?_)
          · replace hf := x_ip c_6 hf
            refine lv_aload_n hx hb dX5_setLocal_89 rfl (lv_at hl 1 rfl) ?_
            refine va_get (D := (dC, dI)) (ci := 5) (v := .ref a5_1) (C := RX5) (T := TX5) (N := 10) hx hb hts i_X5_setLocal_X5 hown hK hP 0 rfl rfl 1 (by decide) k_3 (fun _ h9 => h9) rfl dX5_setLocal_90 ?_
            refine lv_iload_n hx hb dX5_setLocal_93 rfl (lv_at hl 2 rfl) ?_
            refine lv_iload_n hx hb dX5_setLocal_94 rfl (lv_at hl 3 rfl) ?_
            obtain ⟨g_7, hf⟩ := x_gu hf
            refine va_iast hx hb hK hP hD hS 1 0 rfl rfl (x_gdin g_7) dX5_setLocal_95 (fun H locs hP hD hS => ?_)
            have hP : va_P (dC, dI) vwCl [(o5, .inr (5, [.ref o7, .ref a5_1, .int v5_2, .int v5_3, .int v5_4, .int v5_5, .int v5_6, .int v5_7, .int v5_8, .int v5_9])), (a5_1, .inl (cyI, 400, .inl (upd g5_1 (Int32.toNatClampNeg p1) p2)))] H := hP
            have hD : va_D A [(o5, .inr (5, [.ref o7, .ref a5_1, .int v5_2, .int v5_3, .int v5_4, .int v5_5, .int v5_6, .int v5_7, .int v5_8, .int v5_9])), (a5_1, .inl (cyI, 400, .inl (upd g5_1 (Int32.toNatClampNeg p1) p2)))] := hD
            refine lv_iload_n hx hb dX5_setLocal_96 rfl (lv_at hl 0 rfl) ?_
            refine lv_iload_n hx hb dX5_setLocal_97 rfl (lv_at hl 2 rfl) ?_
            refine lv_icmp_le (tgt := 109) hx hb dX5_setLocal_98 (by decide) (fun c_8 => ?_) (fun c_8 => ?_)
            · replace hf := x_ip c_8 hf
              refine lv_aload_n hx hb dX5_setLocal_109 rfl (lv_at hl 1 rfl) ?_
              refine lv_iconst (v := 1) hx hb dX5_setLocal_110 (by decide) ?_
              refine va_put (D := (dC, dI)) (ci := 5) (v := .int 1) (ty := .boolean) (C := RX5) (T := TX5) (N := 10) hx hb hts i_X5_setLocal_X5 tyX5 tyX5_ok nmX5 hown hK hP hD hS 0 rfl rfl 7 (by decide) k_4 (fun _ h9 => h9) rfl (by decide +kernel) rfl rfl (Nat.le_of_ble_eq_true rfl) dX5_setLocal_111 (fun H locs hP hD hS => ?_)
              have hP : va_P (dC, dI) vwCl [(o5, .inr (5, [.ref o7, .ref a5_1, .int v5_2, .int v5_3, .int v5_4, .int v5_5, .int v5_6, .int 1, .int v5_8, .int v5_9])), (a5_1, .inl (cyI, 400, .inl (upd g5_1 (Int32.toNatClampNeg p1) p2)))] H := hP
              have hD : va_D A [(o5, .inr (5, [.ref o7, .ref a5_1, .int v5_2, .int v5_3, .int v5_4, .int v5_5, .int v5_6, .int 1, .int v5_8, .int v5_9])), (a5_1, .inl (cyI, 400, .inl (upd g5_1 (Int32.toNatClampNeg p1) p2)))] := hD
              obtain rfl := Option.some.inj hf
              have hP9 := hP.sub (ws' := [(o5, .inr (5, [.ref o7, .ref a5_1, .int v5_2, .int v5_3, .int v5_4, .int v5_5, .int v5_6, .int 1, .int v5_8, .int v5_9])), (a5_1, .inl (cyI, 400, .inl (upd g5_1 (Int32.toNatClampNeg p1) p2)))]) [0, 1] rfl
              have hD9 := hD.sub (ws' := [(o5, .inr (5, [.ref o7, .ref a5_1, .int v5_2, .int v5_3, .int v5_4, .int v5_5, .int v5_6, .int 1, .int v5_8, .int v5_9])), (a5_1, .inl (cyI, 400, .inl (upd g5_1 (Int32.toNatClampNeg p1) p2)))]) [0, 1] (by decide) rfl
              exact W.vret hx hb hr (fun t ht hW => ⟨⟨(), rfl, trivial, by rw [ht]; exact hP9, va_K.moved hW.alike hK, hD9⟩, hS.F ht⟩) hS.2.2 dX5_setLocal_114
            · replace hf := x_in c_8 hf
              refine lv_aload_n hx hb dX5_setLocal_101 rfl (lv_at hl 1 rfl) ?_
              refine va_get (D := (dC, dI)) (ci := 5) (v := .ref a5_1) (C := RX5) (T := TX5) (N := 10) hx hb hts i_X5_setLocal_X5 hown hK hP 0 rfl rfl 1 (by decide) k_3 (fun _ h9 => h9) rfl dX5_setLocal_102 ?_
              refine lv_iload_n hx hb dX5_setLocal_105 rfl (lv_at hl 0 rfl) ?_
              refine lv_bipush (v := 7) hx hb dX5_setLocal_106 (by decide) ?_
              obtain ⟨g_9, hf⟩ := x_gu hf
              refine va_iast hx hb hK hP hD hS 1 0 rfl rfl (x_gdin g_9) dX5_setLocal_108 (fun H locs hP hD hS => ?_)
              have hP : va_P (dC, dI) vwCl [(o5, .inr (5, [.ref o7, .ref a5_1, .int v5_2, .int v5_3, .int v5_4, .int v5_5, .int v5_6, .int v5_7, .int v5_8, .int v5_9])), (a5_1, .inl (cyI, 400, .inl (upd (upd g5_1 (Int32.toNatClampNeg p1) p2) (Int32.toNatClampNeg p1) 7)))] H := hP
              have hD : va_D A [(o5, .inr (5, [.ref o7, .ref a5_1, .int v5_2, .int v5_3, .int v5_4, .int v5_5, .int v5_6, .int v5_7, .int v5_8, .int v5_9])), (a5_1, .inl (cyI, 400, .inl (upd (upd g5_1 (Int32.toNatClampNeg p1) p2) (Int32.toNatClampNeg p1) 7)))] := hD
              refine lv_aload_n hx hb dX5_setLocal_109 rfl (lv_at hl 1 rfl) ?_
              refine lv_iconst (v := 1) hx hb dX5_setLocal_110 (by decide) ?_
              refine va_put (D := (dC, dI)) (ci := 5) (v := .int 1) (ty := .boolean) (C := RX5) (T := TX5) (N := 10) hx hb hts i_X5_setLocal_X5 tyX5 tyX5_ok nmX5 hown hK hP hD hS 0 rfl rfl 7 (by decide) k_4 (fun _ h9 => h9) rfl (by decide +kernel) rfl rfl (Nat.le_of_ble_eq_true rfl) dX5_setLocal_111 (fun H locs hP hD hS => ?_)
              have hP : va_P (dC, dI) vwCl [(o5, .inr (5, [.ref o7, .ref a5_1, .int v5_2, .int v5_3, .int v5_4, .int v5_5, .int v5_6, .int 1, .int v5_8, .int v5_9])), (a5_1, .inl (cyI, 400, .inl (upd (upd g5_1 (Int32.toNatClampNeg p1) p2) (Int32.toNatClampNeg p1) 7)))] H := hP
              have hD : va_D A [(o5, .inr (5, [.ref o7, .ref a5_1, .int v5_2, .int v5_3, .int v5_4, .int v5_5, .int v5_6, .int 1, .int v5_8, .int v5_9])), (a5_1, .inl (cyI, 400, .inl (upd (upd g5_1 (Int32.toNatClampNeg p1) p2) (Int32.toNatClampNeg p1) 7)))] := hD
              obtain rfl := Option.some.inj hf
              have hP9 := hP.sub (ws' := [(o5, .inr (5, [.ref o7, .ref a5_1, .int v5_2, .int v5_3, .int v5_4, .int v5_5, .int v5_6, .int 1, .int v5_8, .int v5_9])), (a5_1, .inl (cyI, 400, .inl (upd (upd g5_1 (Int32.toNatClampNeg p1) p2) (Int32.toNatClampNeg p1) 7)))]) [0, 1] rfl
              have hD9 := hD.sub (ws' := [(o5, .inr (5, [.ref o7, .ref a5_1, .int v5_2, .int v5_3, .int v5_4, .int v5_5, .int v5_6, .int 1, .int v5_8, .int v5_9])), (a5_1, .inl (cyI, 400, .inl (upd (upd g5_1 (Int32.toNatClampNeg p1) p2) (Int32.toNatClampNeg p1) 7)))]) [0, 1] (by decide) rfl
              exact W.vret hx hb hr (fun t ht hW => ⟨⟨(), rfl, trivial, by rw [ht]; exact hP9, va_K.moved hW.alike hK, hD9⟩, hS.F ht⟩) hS.2.2 dX5_setLocal_114
          · replace hf := x_in c_6 hf
            refine lv_aload_n hx hb dX5_setLocal_67 rfl (lv_at hl 1 rfl) ?_
            refine va_get (D := (dC, dI)) (ci := 5) (v := .ref a5_1) (C := RX5) (T := TX5) (N := 10) hx hb hts i_X5_setLocal_X5 hown hK hP 0 rfl rfl 1 (by decide) k_3 (fun _ h9 => h9) rfl dX5_setLocal_68 ?_
            refine lv_iload_n hx hb dX5_setLocal_71 rfl (lv_at hl 0 rfl) ?_
            refine lv_iconst (v := 1) hx hb dX5_setLocal_72 (by decide) ?_
            refine lv_iadd hx hb dX5_setLocal_73 ?_
            obtain ⟨g_10, hf⟩ := x_gu hf
            refine va_iald hx hb hK hP 1 0 rfl rfl (x_gdin g_10) dX5_setLocal_74 ?_
            refine lv_bipush (v := 7) hx hb dX5_setLocal_75 (by decide) ?_
            refine lv_icmp_ne (tgt := 89) hx hb dX5_setLocal_77 (by decide) (fun c_11 => ?_) (fun c_11 => ?_)
            · replace hf := x_in c_11 hf
              refine lv_aload_n hx hb dX5_setLocal_89 rfl (lv_at hl 1 rfl) ?_
              refine va_get (D := (dC, dI)) (ci := 5) (v := .ref a5_1) (C := RX5) (T := TX5) (N := 10) hx hb hts i_X5_setLocal_X5 hown hK hP 0 rfl rfl 1 (by decide) k_3 (fun _ h9 => h9) rfl dX5_setLocal_90 ?_
              refine lv_iload_n hx hb dX5_setLocal_93 rfl (lv_at hl 2 rfl) ?_
              refine lv_iload_n hx hb dX5_setLocal_94 rfl (lv_at hl 3 rfl) ?_
              obtain ⟨g_12, hf⟩ := x_gu hf
              refine va_iast hx hb hK hP hD hS 1 0 rfl rfl (x_gdin g_12) dX5_setLocal_95 (fun H locs hP hD hS => ?_)
              have hP : va_P (dC, dI) vwCl [(o5, .inr (5, [.ref o7, .ref a5_1, .int v5_2, .int v5_3, .int v5_4, .int v5_5, .int v5_6, .int v5_7, .int v5_8, .int v5_9])), (a5_1, .inl (cyI, 400, .inl (upd g5_1 (Int32.toNatClampNeg p1) p2)))] H := hP
              have hD : va_D A [(o5, .inr (5, [.ref o7, .ref a5_1, .int v5_2, .int v5_3, .int v5_4, .int v5_5, .int v5_6, .int v5_7, .int v5_8, .int v5_9])), (a5_1, .inl (cyI, 400, .inl (upd g5_1 (Int32.toNatClampNeg p1) p2)))] := hD
              refine lv_iload_n hx hb dX5_setLocal_96 rfl (lv_at hl 0 rfl) ?_
              refine lv_iload_n hx hb dX5_setLocal_97 rfl (lv_at hl 2 rfl) ?_
              refine lv_icmp_le (tgt := 109) hx hb dX5_setLocal_98 (by decide) (fun c_13 => ?_) (fun c_13 => ?_)
              · replace hf := x_ip c_13 hf
                refine lv_aload_n hx hb dX5_setLocal_109 rfl (lv_at hl 1 rfl) ?_
                refine lv_iconst (v := 1) hx hb dX5_setLocal_110 (by decide) ?_
                refine va_put (D := (dC, dI)) (ci := 5) (v := .int 1) (ty := .boolean) (C := RX5) (T := TX5) (N := 10) hx hb hts i_X5_setLocal_X5 tyX5 tyX5_ok nmX5 hown hK hP hD hS 0 rfl rfl 7 (by decide) k_4 (fun _ h9 => h9) rfl (by decide +kernel) rfl rfl (Nat.le_of_ble_eq_true rfl) dX5_setLocal_111 (fun H locs hP hD hS => ?_)
                have hP : va_P (dC, dI) vwCl [(o5, .inr (5, [.ref o7, .ref a5_1, .int v5_2, .int v5_3, .int v5_4, .int v5_5, .int v5_6, .int 1, .int v5_8, .int v5_9])), (a5_1, .inl (cyI, 400, .inl (upd g5_1 (Int32.toNatClampNeg p1) p2)))] H := hP
                have hD : va_D A [(o5, .inr (5, [.ref o7, .ref a5_1, .int v5_2, .int v5_3, .int v5_4, .int v5_5, .int v5_6, .int 1, .int v5_8, .int v5_9])), (a5_1, .inl (cyI, 400, .inl (upd g5_1 (Int32.toNatClampNeg p1) p2)))] := hD
                obtain rfl := Option.some.inj hf
                have hP9 := hP.sub (ws' := [(o5, .inr (5, [.ref o7, .ref a5_1, .int v5_2, .int v5_3, .int v5_4, .int v5_5, .int v5_6, .int 1, .int v5_8, .int v5_9])), (a5_1, .inl (cyI, 400, .inl (upd g5_1 (Int32.toNatClampNeg p1) p2)))]) [0, 1] rfl
                have hD9 := hD.sub (ws' := [(o5, .inr (5, [.ref o7, .ref a5_1, .int v5_2, .int v5_3, .int v5_4, .int v5_5, .int v5_6, .int 1, .int v5_8, .int v5_9])), (a5_1, .inl (cyI, 400, .inl (upd g5_1 (Int32.toNatClampNeg p1) p2)))]) [0, 1] (by decide) rfl
                exact W.vret hx hb hr (fun t ht hW => ⟨⟨(), rfl, trivial, by rw [ht]; exact hP9, va_K.moved hW.alike hK, hD9⟩, hS.F ht⟩) hS.2.2 dX5_setLocal_114
              · replace hf := x_in c_13 hf
                refine lv_aload_n hx hb dX5_setLocal_101 rfl (lv_at hl 1 rfl) ?_
                refine va_get (D := (dC, dI)) (ci := 5) (v := .ref a5_1) (C := RX5) (T := TX5) (N := 10) hx hb hts i_X5_setLocal_X5 hown hK hP 0 rfl rfl 1 (by decide) k_3 (fun _ h9 => h9) rfl dX5_setLocal_102 ?_
                refine lv_iload_n hx hb dX5_setLocal_105 rfl (lv_at hl 0 rfl) ?_
                refine lv_bipush (v := 7) hx hb dX5_setLocal_106 (by decide) ?_
                obtain ⟨g_14, hf⟩ := x_gu hf
                refine va_iast hx hb hK hP hD hS 1 0 rfl rfl (x_gdin g_14) dX5_setLocal_108 (fun H locs hP hD hS => ?_)
                have hP : va_P (dC, dI) vwCl [(o5, .inr (5, [.ref o7, .ref a5_1, .int v5_2, .int v5_3, .int v5_4, .int v5_5, .int v5_6, .int v5_7, .int v5_8, .int v5_9])), (a5_1, .inl (cyI, 400, .inl (upd (upd g5_1 (Int32.toNatClampNeg p1) p2) (Int32.toNatClampNeg p1) 7)))] H := hP
                have hD : va_D A [(o5, .inr (5, [.ref o7, .ref a5_1, .int v5_2, .int v5_3, .int v5_4, .int v5_5, .int v5_6, .int v5_7, .int v5_8, .int v5_9])), (a5_1, .inl (cyI, 400, .inl (upd (upd g5_1 (Int32.toNatClampNeg p1) p2) (Int32.toNatClampNeg p1) 7)))] := hD
                refine lv_aload_n hx hb dX5_setLocal_109 rfl (lv_at hl 1 rfl) ?_
                refine lv_iconst (v := 1) hx hb dX5_setLocal_110 (by decide) ?_
                refine va_put (D := (dC, dI)) (ci := 5) (v := .int 1) (ty := .boolean) (C := RX5) (T := TX5) (N := 10) hx hb hts i_X5_setLocal_X5 tyX5 tyX5_ok nmX5 hown hK hP hD hS 0 rfl rfl 7 (by decide) k_4 (fun _ h9 => h9) rfl (by decide +kernel) rfl rfl (Nat.le_of_ble_eq_true rfl) dX5_setLocal_111 (fun H locs hP hD hS => ?_)
                have hP : va_P (dC, dI) vwCl [(o5, .inr (5, [.ref o7, .ref a5_1, .int v5_2, .int v5_3, .int v5_4, .int v5_5, .int v5_6, .int 1, .int v5_8, .int v5_9])), (a5_1, .inl (cyI, 400, .inl (upd (upd g5_1 (Int32.toNatClampNeg p1) p2) (Int32.toNatClampNeg p1) 7)))] H := hP
                have hD : va_D A [(o5, .inr (5, [.ref o7, .ref a5_1, .int v5_2, .int v5_3, .int v5_4, .int v5_5, .int v5_6, .int 1, .int v5_8, .int v5_9])), (a5_1, .inl (cyI, 400, .inl (upd (upd g5_1 (Int32.toNatClampNeg p1) p2) (Int32.toNatClampNeg p1) 7)))] := hD
                obtain rfl := Option.some.inj hf
                have hP9 := hP.sub (ws' := [(o5, .inr (5, [.ref o7, .ref a5_1, .int v5_2, .int v5_3, .int v5_4, .int v5_5, .int v5_6, .int 1, .int v5_8, .int v5_9])), (a5_1, .inl (cyI, 400, .inl (upd (upd g5_1 (Int32.toNatClampNeg p1) p2) (Int32.toNatClampNeg p1) 7)))]) [0, 1] rfl
                have hD9 := hD.sub (ws' := [(o5, .inr (5, [.ref o7, .ref a5_1, .int v5_2, .int v5_3, .int v5_4, .int v5_5, .int v5_6, .int 1, .int v5_8, .int v5_9])), (a5_1, .inl (cyI, 400, .inl (upd (upd g5_1 (Int32.toNatClampNeg p1) p2) (Int32.toNatClampNeg p1) 7)))]) [0, 1] (by decide) rfl
                exact W.vret hx hb hr (fun t ht hW => ⟨⟨(), rfl, trivial, by rw [ht]; exact hP9, va_K.moved hW.alike hK, hD9⟩, hS.F ht⟩) hS.2.2 dX5_setLocal_114
            · replace hf := x_ip c_11 hf
              refine lv_aload_n hx hb dX5_setLocal_80 rfl (lv_at hl 1 rfl) ?_
              refine va_get (D := (dC, dI)) (ci := 5) (v := .ref a5_1) (C := RX5) (T := TX5) (N := 10) hx hb hts i_X5_setLocal_X5 hown hK hP 0 rfl rfl 1 (by decide) k_3 (fun _ h9 => h9) rfl dX5_setLocal_81 ?_
              refine lv_iload_n hx hb dX5_setLocal_84 rfl (lv_at hl 0 rfl) ?_
              refine lv_iconst (v := 1) hx hb dX5_setLocal_85 (by decide) ?_
              refine lv_iadd hx hb dX5_setLocal_86 ?_
              refine lv_iconst (v := 0) hx hb dX5_setLocal_87 (by decide) ?_
              obtain ⟨g_15, hf⟩ := x_gu hf
              refine va_iast hx hb hK hP hD hS 1 0 rfl rfl (x_gdin g_15) dX5_setLocal_88 (fun H locs hP hD hS => ?_)
              have hP : va_P (dC, dI) vwCl [(o5, .inr (5, [.ref o7, .ref a5_1, .int v5_2, .int v5_3, .int v5_4, .int v5_5, .int v5_6, .int v5_7, .int v5_8, .int v5_9])), (a5_1, .inl (cyI, 400, .inl (upd g5_1 (Int32.toNatClampNeg (p1 + (1 : Int32))) 0)))] H := hP
              have hD : va_D A [(o5, .inr (5, [.ref o7, .ref a5_1, .int v5_2, .int v5_3, .int v5_4, .int v5_5, .int v5_6, .int v5_7, .int v5_8, .int v5_9])), (a5_1, .inl (cyI, 400, .inl (upd g5_1 (Int32.toNatClampNeg (p1 + (1 : Int32))) 0)))] := hD
              refine lv_aload_n hx hb dX5_setLocal_89 rfl (lv_at hl 1 rfl) ?_
              refine va_get (D := (dC, dI)) (ci := 5) (v := .ref a5_1) (C := RX5) (T := TX5) (N := 10) hx hb hts i_X5_setLocal_X5 hown hK hP 0 rfl rfl 1 (by decide) k_3 (fun _ h9 => h9) rfl dX5_setLocal_90 ?_
              refine lv_iload_n hx hb dX5_setLocal_93 rfl (lv_at hl 2 rfl) ?_
              refine lv_iload_n hx hb dX5_setLocal_94 rfl (lv_at hl 3 rfl) ?_
              obtain ⟨g_16, hf⟩ := x_gu hf
              refine va_iast hx hb hK hP hD hS 1 0 rfl rfl (x_gdin g_16) dX5_setLocal_95 (fun H locs hP hD hS => ?_)
              have hP : va_P (dC, dI) vwCl [(o5, .inr (5, [.ref o7, .ref a5_1, .int v5_2, .int v5_3, .int v5_4, .int v5_5, .int v5_6, .int v5_7, .int v5_8, .int v5_9])), (a5_1, .inl (cyI, 400, .inl (upd (upd g5_1 (Int32.toNatClampNeg (p1 + (1 : Int32))) 0) (Int32.toNatClampNeg p1) p2)))] H := hP
              have hD : va_D A [(o5, .inr (5, [.ref o7, .ref a5_1, .int v5_2, .int v5_3, .int v5_4, .int v5_5, .int v5_6, .int v5_7, .int v5_8, .int v5_9])), (a5_1, .inl (cyI, 400, .inl (upd (upd g5_1 (Int32.toNatClampNeg (p1 + (1 : Int32))) 0) (Int32.toNatClampNeg p1) p2)))] := hD
              refine lv_iload_n hx hb dX5_setLocal_96 rfl (lv_at hl 0 rfl) ?_
              refine lv_iload_n hx hb dX5_setLocal_97 rfl (lv_at hl 2 rfl) ?_
              refine lv_icmp_le (tgt := 109) hx hb dX5_setLocal_98 (by decide) (fun c_17 => ?_) (fun c_17 => ?_)
              · replace hf := x_ip c_17 hf
                refine lv_aload_n hx hb dX5_setLocal_109 rfl (lv_at hl 1 rfl) ?_
                refine lv_iconst (v := 1) hx hb dX5_setLocal_110 (by decide) ?_
                refine va_put (D := (dC, dI)) (ci := 5) (v := .int 1) (ty := .boolean) (C := RX5) (T := TX5) (N := 10) hx hb hts i_X5_setLocal_X5 tyX5 tyX5_ok nmX5 hown hK hP hD hS 0 rfl rfl 7 (by decide) k_4 (fun _ h9 => h9) rfl (by decide +kernel) rfl rfl (Nat.le_of_ble_eq_true rfl) dX5_setLocal_111 (fun H locs hP hD hS => ?_)
                have hP : va_P (dC, dI) vwCl [(o5, .inr (5, [.ref o7, .ref a5_1, .int v5_2, .int v5_3, .int v5_4, .int v5_5, .int v5_6, .int 1, .int v5_8, .int v5_9])), (a5_1, .inl (cyI, 400, .inl (upd (upd g5_1 (Int32.toNatClampNeg (p1 + (1 : Int32))) 0) (Int32.toNatClampNeg p1) p2)))] H := hP
                have hD : va_D A [(o5, .inr (5, [.ref o7, .ref a5_1, .int v5_2, .int v5_3, .int v5_4, .int v5_5, .int v5_6, .int 1, .int v5_8, .int v5_9])), (a5_1, .inl (cyI, 400, .inl (upd (upd g5_1 (Int32.toNatClampNeg (p1 + (1 : Int32))) 0) (Int32.toNatClampNeg p1) p2)))] := hD
                obtain rfl := Option.some.inj hf
                have hP9 := hP.sub (ws' := [(o5, .inr (5, [.ref o7, .ref a5_1, .int v5_2, .int v5_3, .int v5_4, .int v5_5, .int v5_6, .int 1, .int v5_8, .int v5_9])), (a5_1, .inl (cyI, 400, .inl (upd (upd g5_1 (Int32.toNatClampNeg (p1 + (1 : Int32))) 0) (Int32.toNatClampNeg p1) p2)))]) [0, 1] rfl
                have hD9 := hD.sub (ws' := [(o5, .inr (5, [.ref o7, .ref a5_1, .int v5_2, .int v5_3, .int v5_4, .int v5_5, .int v5_6, .int 1, .int v5_8, .int v5_9])), (a5_1, .inl (cyI, 400, .inl (upd (upd g5_1 (Int32.toNatClampNeg (p1 + (1 : Int32))) 0) (Int32.toNatClampNeg p1) p2)))]) [0, 1] (by decide) rfl
                exact W.vret hx hb hr (fun t ht hW => ⟨⟨(), rfl, trivial, by rw [ht]; exact hP9, va_K.moved hW.alike hK, hD9⟩, hS.F ht⟩) hS.2.2 dX5_setLocal_114
              · replace hf := x_in c_17 hf
                refine lv_aload_n hx hb dX5_setLocal_101 rfl (lv_at hl 1 rfl) ?_
                refine va_get (D := (dC, dI)) (ci := 5) (v := .ref a5_1) (C := RX5) (T := TX5) (N := 10) hx hb hts i_X5_setLocal_X5 hown hK hP 0 rfl rfl 1 (by decide) k_3 (fun _ h9 => h9) rfl dX5_setLocal_102 ?_
                refine lv_iload_n hx hb dX5_setLocal_105 rfl (lv_at hl 0 rfl) ?_
                refine lv_bipush (v := 7) hx hb dX5_setLocal_106 (by decide) ?_
                obtain ⟨g_18, hf⟩ := x_gu hf
                refine va_iast hx hb hK hP hD hS 1 0 rfl rfl (x_gdin g_18) dX5_setLocal_108 (fun H locs hP hD hS => ?_)
                have hP : va_P (dC, dI) vwCl [(o5, .inr (5, [.ref o7, .ref a5_1, .int v5_2, .int v5_3, .int v5_4, .int v5_5, .int v5_6, .int v5_7, .int v5_8, .int v5_9])), (a5_1, .inl (cyI, 400, .inl (upd (upd (upd g5_1 (Int32.toNatClampNeg (p1 + (1 : Int32))) 0) (Int32.toNatClampNeg p1) p2) (Int32.toNatClampNeg p1) 7)))] H := hP
                have hD : va_D A [(o5, .inr (5, [.ref o7, .ref a5_1, .int v5_2, .int v5_3, .int v5_4, .int v5_5, .int v5_6, .int v5_7, .int v5_8, .int v5_9])), (a5_1, .inl (cyI, 400, .inl (upd (upd (upd g5_1 (Int32.toNatClampNeg (p1 + (1 : Int32))) 0) (Int32.toNatClampNeg p1) p2) (Int32.toNatClampNeg p1) 7)))] := hD
                refine lv_aload_n hx hb dX5_setLocal_109 rfl (lv_at hl 1 rfl) ?_
                refine lv_iconst (v := 1) hx hb dX5_setLocal_110 (by decide) ?_
                refine va_put (D := (dC, dI)) (ci := 5) (v := .int 1) (ty := .boolean) (C := RX5) (T := TX5) (N := 10) hx hb hts i_X5_setLocal_X5 tyX5 tyX5_ok nmX5 hown hK hP hD hS 0 rfl rfl 7 (by decide) k_4 (fun _ h9 => h9) rfl (by decide +kernel) rfl rfl (Nat.le_of_ble_eq_true rfl) dX5_setLocal_111 (fun H locs hP hD hS => ?_)
                have hP : va_P (dC, dI) vwCl [(o5, .inr (5, [.ref o7, .ref a5_1, .int v5_2, .int v5_3, .int v5_4, .int v5_5, .int v5_6, .int 1, .int v5_8, .int v5_9])), (a5_1, .inl (cyI, 400, .inl (upd (upd (upd g5_1 (Int32.toNatClampNeg (p1 + (1 : Int32))) 0) (Int32.toNatClampNeg p1) p2) (Int32.toNatClampNeg p1) 7)))] H := hP
                have hD : va_D A [(o5, .inr (5, [.ref o7, .ref a5_1, .int v5_2, .int v5_3, .int v5_4, .int v5_5, .int v5_6, .int 1, .int v5_8, .int v5_9])), (a5_1, .inl (cyI, 400, .inl (upd (upd (upd g5_1 (Int32.toNatClampNeg (p1 + (1 : Int32))) 0) (Int32.toNatClampNeg p1) p2) (Int32.toNatClampNeg p1) 7)))] := hD
                obtain rfl := Option.some.inj hf
                have hP9 := hP.sub (ws' := [(o5, .inr (5, [.ref o7, .ref a5_1, .int v5_2, .int v5_3, .int v5_4, .int v5_5, .int v5_6, .int 1, .int v5_8, .int v5_9])), (a5_1, .inl (cyI, 400, .inl (upd (upd (upd g5_1 (Int32.toNatClampNeg (p1 + (1 : Int32))) 0) (Int32.toNatClampNeg p1) p2) (Int32.toNatClampNeg p1) 7)))]) [0, 1] rfl
                have hD9 := hD.sub (ws' := [(o5, .inr (5, [.ref o7, .ref a5_1, .int v5_2, .int v5_3, .int v5_4, .int v5_5, .int v5_6, .int 1, .int v5_8, .int v5_9])), (a5_1, .inl (cyI, 400, .inl (upd (upd (upd g5_1 (Int32.toNatClampNeg (p1 + (1 : Int32))) 0) (Int32.toNatClampNeg p1) p2) (Int32.toNatClampNeg p1) 7)))]) [0, 1] (by decide) rfl
                exact W.vret hx hb hr (fun t ht hW => ⟨⟨(), rfl, trivial, by rw [ht]; exact hP9, va_K.moved hW.alike hK, hD9⟩, hS.F ht⟩) hS.2.2 dX5_setLocal_114
        · replace hf := x_in c_5 hf
          refine lv_aload_n hx hb dX5_setLocal_37 rfl (lv_at hl 1 rfl) ?_
          refine va_get (D := (dC, dI)) (ci := 5) (v := .ref a5_1) (C := RX5) (T := TX5) (N := 10) hx hb hts i_X5_setLocal_X5 hown hK hP 0 rfl rfl 1 (by decide) k_3 (fun _ h9 => h9) rfl dX5_setLocal_38 ?_
          refine lv_iload_n hx hb dX5_setLocal_41 rfl (lv_at hl 2 rfl) ?_
          obtain ⟨g_19, hf⟩ := x_gu hf
          refine va_iald hx hb hK hP 1 0 rfl rfl (x_gdin g_19) dX5_setLocal_42 ?_
          refine lv_bipush (v := 7) hx hb dX5_setLocal_43 (by decide) ?_
          refine lv_icmp_ne (tgt := 57) hx hb dX5_setLocal_45 (by decide) (fun c_20 => ?_) (fun c_20 => ?_)
          · replace hf := x_in c_20 hf
            refine lv_iload_n hx hb dX5_setLocal_57 rfl (lv_at hl 0 rfl) ?_
            refine lv_iconst (v := 1) hx hb dX5_setLocal_58 (by decide) ?_
            refine lv_iadd hx hb dX5_setLocal_59 ?_
            refine lv_aload_n hx hb dX5_setLocal_60 rfl (lv_at hl 1 rfl) ?_
            refine va_get (D := (dC, dI)) (ci := 5) (v := .int v5_2) (C := RX5) (T := TX5) (N := 10) hx hb hts i_X5_setLocal_X5 hown hK hP 0 rfl rfl 2 (by decide) k_2 (fun _ h9 => h9) rfl dX5_setLocal_61 ?_
            refine lv_icmp_ge (tgt := 89) hx hb dX5_setLocal_64 (by decide) (fun c_21 => ?_) (fun c_21 => ?_)
            · replace hf := x_ip c_21 hf
              refine lv_aload_n hx hb dX5_setLocal_89 rfl (lv_at hl 1 rfl) ?_
              refine va_get (D := (dC, dI)) (ci := 5) (v := .ref a5_1) (C := RX5) (T := TX5) (N := 10) hx hb hts i_X5_setLocal_X5 hown hK hP 0 rfl rfl 1 (by decide) k_3 (fun _ h9 => h9) rfl dX5_setLocal_90 ?_
              refine lv_iload_n hx hb dX5_setLocal_93 rfl (lv_at hl 2 rfl) ?_
              refine lv_iload_n hx hb dX5_setLocal_94 rfl (lv_at hl 3 rfl) ?_
              obtain ⟨g_22, hf⟩ := x_gu hf
              refine va_iast hx hb hK hP hD hS 1 0 rfl rfl (x_gdin g_22) dX5_setLocal_95 (fun H locs hP hD hS => ?_)
              have hP : va_P (dC, dI) vwCl [(o5, .inr (5, [.ref o7, .ref a5_1, .int v5_2, .int v5_3, .int v5_4, .int v5_5, .int v5_6, .int v5_7, .int v5_8, .int v5_9])), (a5_1, .inl (cyI, 400, .inl (upd g5_1 (Int32.toNatClampNeg p1) p2)))] H := hP
              have hD : va_D A [(o5, .inr (5, [.ref o7, .ref a5_1, .int v5_2, .int v5_3, .int v5_4, .int v5_5, .int v5_6, .int v5_7, .int v5_8, .int v5_9])), (a5_1, .inl (cyI, 400, .inl (upd g5_1 (Int32.toNatClampNeg p1) p2)))] := hD
              refine lv_iload_n hx hb dX5_setLocal_96 rfl (lv_at hl 0 rfl) ?_
              refine lv_iload_n hx hb dX5_setLocal_97 rfl (lv_at hl 2 rfl) ?_
              refine lv_icmp_le (tgt := 109) hx hb dX5_setLocal_98 (by decide) (fun c_23 => ?_) (fun c_23 => ?_)
              · replace hf := x_ip c_23 hf
                refine lv_aload_n hx hb dX5_setLocal_109 rfl (lv_at hl 1 rfl) ?_
                refine lv_iconst (v := 1) hx hb dX5_setLocal_110 (by decide) ?_
                refine va_put (D := (dC, dI)) (ci := 5) (v := .int 1) (ty := .boolean) (C := RX5) (T := TX5) (N := 10) hx hb hts i_X5_setLocal_X5 tyX5 tyX5_ok nmX5 hown hK hP hD hS 0 rfl rfl 7 (by decide) k_4 (fun _ h9 => h9) rfl (by decide +kernel) rfl rfl (Nat.le_of_ble_eq_true rfl) dX5_setLocal_111 (fun H locs hP hD hS => ?_)
                have hP : va_P (dC, dI) vwCl [(o5, .inr (5, [.ref o7, .ref a5_1, .int v5_2, .int v5_3, .int v5_4, .int v5_5, .int v5_6, .int 1, .int v5_8, .int v5_9])), (a5_1, .inl (cyI, 400, .inl (upd g5_1 (Int32.toNatClampNeg p1) p2)))] H := hP
                have hD : va_D A [(o5, .inr (5, [.ref o7, .ref a5_1, .int v5_2, .int v5_3, .int v5_4, .int v5_5, .int v5_6, .int 1, .int v5_8, .int v5_9])), (a5_1, .inl (cyI, 400, .inl (upd g5_1 (Int32.toNatClampNeg p1) p2)))] := hD
                obtain rfl := Option.some.inj hf
                have hP9 := hP.sub (ws' := [(o5, .inr (5, [.ref o7, .ref a5_1, .int v5_2, .int v5_3, .int v5_4, .int v5_5, .int v5_6, .int 1, .int v5_8, .int v5_9])), (a5_1, .inl (cyI, 400, .inl (upd g5_1 (Int32.toNatClampNeg p1) p2)))]) [0, 1] rfl
                have hD9 := hD.sub (ws' := [(o5, .inr (5, [.ref o7, .ref a5_1, .int v5_2, .int v5_3, .int v5_4, .int v5_5, .int v5_6, .int 1, .int v5_8, .int v5_9])), (a5_1, .inl (cyI, 400, .inl (upd g5_1 (Int32.toNatClampNeg p1) p2)))]) [0, 1] (by decide) rfl
                exact W.vret hx hb hr (fun t ht hW => ⟨⟨(), rfl, trivial, by rw [ht]; exact hP9, va_K.moved hW.alike hK, hD9⟩, hS.F ht⟩) hS.2.2 dX5_setLocal_114
              · replace hf := x_in c_23 hf
                refine lv_aload_n hx hb dX5_setLocal_101 rfl (lv_at hl 1 rfl) ?_
                refine va_get (D := (dC, dI)) (ci := 5) (v := .ref a5_1) (C := RX5) (T := TX5) (N := 10) hx hb hts i_X5_setLocal_X5 hown hK hP 0 rfl rfl 1 (by decide) k_3 (fun _ h9 => h9) rfl dX5_setLocal_102 ?_
                refine lv_iload_n hx hb dX5_setLocal_105 rfl (lv_at hl 0 rfl) ?_
                refine lv_bipush (v := 7) hx hb dX5_setLocal_106 (by decide) ?_
                obtain ⟨g_24, hf⟩ := x_gu hf
                refine va_iast hx hb hK hP hD hS 1 0 rfl rfl (x_gdin g_24) dX5_setLocal_108 (fun H locs hP hD hS => ?_)
                have hP : va_P (dC, dI) vwCl [(o5, .inr (5, [.ref o7, .ref a5_1, .int v5_2, .int v5_3, .int v5_4, .int v5_5, .int v5_6, .int v5_7, .int v5_8, .int v5_9])), (a5_1, .inl (cyI, 400, .inl (upd (upd g5_1 (Int32.toNatClampNeg p1) p2) (Int32.toNatClampNeg p1) 7)))] H := hP
                have hD : va_D A [(o5, .inr (5, [.ref o7, .ref a5_1, .int v5_2, .int v5_3, .int v5_4, .int v5_5, .int v5_6, .int v5_7, .int v5_8, .int v5_9])), (a5_1, .inl (cyI, 400, .inl (upd (upd g5_1 (Int32.toNatClampNeg p1) p2) (Int32.toNatClampNeg p1) 7)))] := hD
                refine lv_aload_n hx hb dX5_setLocal_109 rfl (lv_at hl 1 rfl) ?_
                refine lv_iconst (v := 1) hx hb dX5_setLocal_110 (by decide) ?_
                refine va_put (D := (dC, dI)) (ci := 5) (v := .int 1) (ty := .boolean) (C := RX5) (T := TX5) (N := 10) hx hb hts i_X5_setLocal_X5 tyX5 tyX5_ok nmX5 hown hK hP hD hS 0 rfl rfl 7 (by decide) k_4 (fun _ h9 => h9) rfl (by decide +kernel) rfl rfl (Nat.le_of_ble_eq_true rfl) dX5_setLocal_111 (fun H locs hP hD hS => ?_)
                have hP : va_P (dC, dI) vwCl [(o5, .inr (5, [.ref o7, .ref a5_1, .int v5_2, .int v5_3, .int v5_4, .int v5_5, .int v5_6, .int 1, .int v5_8, .int v5_9])), (a5_1, .inl (cyI, 400, .inl (upd (upd g5_1 (Int32.toNatClampNeg p1) p2) (Int32.toNatClampNeg p1) 7)))] H := hP
                have hD : va_D A [(o5, .inr (5, [.ref o7, .ref a5_1, .int v5_2, .int v5_3, .int v5_4, .int v5_5, .int v5_6, .int 1, .int v5_8, .int v5_9])), (a5_1, .inl (cyI, 400, .inl (upd (upd g5_1 (Int32.toNatClampNeg p1) p2) (Int32.toNatClampNeg p1) 7)))] := hD
                obtain rfl := Option.some.inj hf
                have hP9 := hP.sub (ws' := [(o5, .inr (5, [.ref o7, .ref a5_1, .int v5_2, .int v5_3, .int v5_4, .int v5_5, .int v5_6, .int 1, .int v5_8, .int v5_9])), (a5_1, .inl (cyI, 400, .inl (upd (upd g5_1 (Int32.toNatClampNeg p1) p2) (Int32.toNatClampNeg p1) 7)))]) [0, 1] rfl
                have hD9 := hD.sub (ws' := [(o5, .inr (5, [.ref o7, .ref a5_1, .int v5_2, .int v5_3, .int v5_4, .int v5_5, .int v5_6, .int 1, .int v5_8, .int v5_9])), (a5_1, .inl (cyI, 400, .inl (upd (upd g5_1 (Int32.toNatClampNeg p1) p2) (Int32.toNatClampNeg p1) 7)))]) [0, 1] (by decide) rfl
                exact W.vret hx hb hr (fun t ht hW => ⟨⟨(), rfl, trivial, by rw [ht]; exact hP9, va_K.moved hW.alike hK, hD9⟩, hS.F ht⟩) hS.2.2 dX5_setLocal_114
            · replace hf := x_in c_21 hf
              refine lv_aload_n hx hb dX5_setLocal_67 rfl (lv_at hl 1 rfl) ?_
              refine va_get (D := (dC, dI)) (ci := 5) (v := .ref a5_1) (C := RX5) (T := TX5) (N := 10) hx hb hts i_X5_setLocal_X5 hown hK hP 0 rfl rfl 1 (by decide) k_3 (fun _ h9 => h9) rfl dX5_setLocal_68 ?_
              refine lv_iload_n hx hb dX5_setLocal_71 rfl (lv_at hl 0 rfl) ?_
              refine lv_iconst (v := 1) hx hb dX5_setLocal_72 (by decide) ?_
              refine lv_iadd hx hb dX5_setLocal_73 ?_
              obtain ⟨g_25, hf⟩ := x_gu hf
              refine va_iald hx hb hK hP 1 0 rfl rfl (x_gdin g_25) dX5_setLocal_74 ?_
              refine lv_bipush (v := 7) hx hb dX5_setLocal_75 (by decide) ?_
              refine lv_icmp_ne (tgt := 89) hx hb dX5_setLocal_77 (by decide) (fun c_26 => ?_) (fun c_26 => ?_)
              · replace hf := x_in c_26 hf
                refine lv_aload_n hx hb dX5_setLocal_89 rfl (lv_at hl 1 rfl) ?_
                refine va_get (D := (dC, dI)) (ci := 5) (v := .ref a5_1) (C := RX5) (T := TX5) (N := 10) hx hb hts i_X5_setLocal_X5 hown hK hP 0 rfl rfl 1 (by decide) k_3 (fun _ h9 => h9) rfl dX5_setLocal_90 ?_
                refine lv_iload_n hx hb dX5_setLocal_93 rfl (lv_at hl 2 rfl) ?_
                refine lv_iload_n hx hb dX5_setLocal_94 rfl (lv_at hl 3 rfl) ?_
                obtain ⟨g_27, hf⟩ := x_gu hf
                refine va_iast hx hb hK hP hD hS 1 0 rfl rfl (x_gdin g_27) dX5_setLocal_95 (fun H locs hP hD hS => ?_)
                have hP : va_P (dC, dI) vwCl [(o5, .inr (5, [.ref o7, .ref a5_1, .int v5_2, .int v5_3, .int v5_4, .int v5_5, .int v5_6, .int v5_7, .int v5_8, .int v5_9])), (a5_1, .inl (cyI, 400, .inl (upd g5_1 (Int32.toNatClampNeg p1) p2)))] H := hP
                have hD : va_D A [(o5, .inr (5, [.ref o7, .ref a5_1, .int v5_2, .int v5_3, .int v5_4, .int v5_5, .int v5_6, .int v5_7, .int v5_8, .int v5_9])), (a5_1, .inl (cyI, 400, .inl (upd g5_1 (Int32.toNatClampNeg p1) p2)))] := hD
                refine lv_iload_n hx hb dX5_setLocal_96 rfl (lv_at hl 0 rfl) ?_
                refine lv_iload_n hx hb dX5_setLocal_97 rfl (lv_at hl 2 rfl) ?_
                refine lv_icmp_le (tgt := 109) hx hb dX5_setLocal_98 (by decide) (fun c_28 => ?_) (fun c_28 => ?_)
                · replace hf := x_ip c_28 hf
                  refine lv_aload_n hx hb dX5_setLocal_109 rfl (lv_at hl 1 rfl) ?_
                  refine lv_iconst (v := 1) hx hb dX5_setLocal_110 (by decide) ?_
                  refine va_put (D := (dC, dI)) (ci := 5) (v := .int 1) (ty := .boolean) (C := RX5) (T := TX5) (N := 10) hx hb hts i_X5_setLocal_X5 tyX5 tyX5_ok nmX5 hown hK hP hD hS 0 rfl rfl 7 (by decide) k_4 (fun _ h9 => h9) rfl (by decide +kernel) rfl rfl (Nat.le_of_ble_eq_true rfl) dX5_setLocal_111 (fun H locs hP hD hS => ?_)
                  have hP : va_P (dC, dI) vwCl [(o5, .inr (5, [.ref o7, .ref a5_1, .int v5_2, .int v5_3, .int v5_4, .int v5_5, .int v5_6, .int 1, .int v5_8, .int v5_9])), (a5_1, .inl (cyI, 400, .inl (upd g5_1 (Int32.toNatClampNeg p1) p2)))] H := hP
                  have hD : va_D A [(o5, .inr (5, [.ref o7, .ref a5_1, .int v5_2, .int v5_3, .int v5_4, .int v5_5, .int v5_6, .int 1, .int v5_8, .int v5_9])), (a5_1, .inl (cyI, 400, .inl (upd g5_1 (Int32.toNatClampNeg p1) p2)))] := hD
                  obtain rfl := Option.some.inj hf
                  have hP9 := hP.sub (ws' := [(o5, .inr (5, [.ref o7, .ref a5_1, .int v5_2, .int v5_3, .int v5_4, .int v5_5, .int v5_6, .int 1, .int v5_8, .int v5_9])), (a5_1, .inl (cyI, 400, .inl (upd g5_1 (Int32.toNatClampNeg p1) p2)))]) [0, 1] rfl
                  have hD9 := hD.sub (ws' := [(o5, .inr (5, [.ref o7, .ref a5_1, .int v5_2, .int v5_3, .int v5_4, .int v5_5, .int v5_6, .int 1, .int v5_8, .int v5_9])), (a5_1, .inl (cyI, 400, .inl (upd g5_1 (Int32.toNatClampNeg p1) p2)))]) [0, 1] (by decide) rfl
                  exact W.vret hx hb hr (fun t ht hW => ⟨⟨(), rfl, trivial, by rw [ht]; exact hP9, va_K.moved hW.alike hK, hD9⟩, hS.F ht⟩) hS.2.2 dX5_setLocal_114
                · replace hf := x_in c_28 hf
                  refine lv_aload_n hx hb dX5_setLocal_101 rfl (lv_at hl 1 rfl) ?_
                  refine va_get (D := (dC, dI)) (ci := 5) (v := .ref a5_1) (C := RX5) (T := TX5) (N := 10) hx hb hts i_X5_setLocal_X5 hown hK hP 0 rfl rfl 1 (by decide) k_3 (fun _ h9 => h9) rfl dX5_setLocal_102 ?_
                  refine lv_iload_n hx hb dX5_setLocal_105 rfl (lv_at hl 0 rfl) ?_
                  refine lv_bipush (v := 7) hx hb dX5_setLocal_106 (by decide) ?_
                  obtain ⟨g_29, hf⟩ := x_gu hf
                  refine va_iast hx hb hK hP hD hS 1 0 rfl rfl (x_gdin g_29) dX5_setLocal_108 (fun H locs hP hD hS => ?_)
                  have hP : va_P (dC, dI) vwCl [(o5, .inr (5, [.ref o7, .ref a5_1, .int v5_2, .int v5_3, .int v5_4, .int v5_5, .int v5_6, .int v5_7, .int v5_8, .int v5_9])), (a5_1, .inl (cyI, 400, .inl (upd (upd g5_1 (Int32.toNatClampNeg p1) p2) (Int32.toNatClampNeg p1) 7)))] H := hP
                  have hD : va_D A [(o5, .inr (5, [.ref o7, .ref a5_1, .int v5_2, .int v5_3, .int v5_4, .int v5_5, .int v5_6, .int v5_7, .int v5_8, .int v5_9])), (a5_1, .inl (cyI, 400, .inl (upd (upd g5_1 (Int32.toNatClampNeg p1) p2) (Int32.toNatClampNeg p1) 7)))] := hD
                  refine lv_aload_n hx hb dX5_setLocal_109 rfl (lv_at hl 1 rfl) ?_
                  refine lv_iconst (v := 1) hx hb dX5_setLocal_110 (by decide) ?_
                  refine va_put (D := (dC, dI)) (ci := 5) (v := .int 1) (ty := .boolean) (C := RX5) (T := TX5) (N := 10) hx hb hts i_X5_setLocal_X5 tyX5 tyX5_ok nmX5 hown hK hP hD hS 0 rfl rfl 7 (by decide) k_4 (fun _ h9 => h9) rfl (by decide +kernel) rfl rfl (Nat.le_of_ble_eq_true rfl) dX5_setLocal_111 (fun H locs hP hD hS => ?_)
                  have hP : va_P (dC, dI) vwCl [(o5, .inr (5, [.ref o7, .ref a5_1, .int v5_2, .int v5_3, .int v5_4, .int v5_5, .int v5_6, .int 1, .int v5_8, .int v5_9])), (a5_1, .inl (cyI, 400, .inl (upd (upd g5_1 (Int32.toNatClampNeg p1) p2) (Int32.toNatClampNeg p1) 7)))] H := hP
                  have hD : va_D A [(o5, .inr (5, [.ref o7, .ref a5_1, .int v5_2, .int v5_3, .int v5_4, .int v5_5, .int v5_6, .int 1, .int v5_8, .int v5_9])), (a5_1, .inl (cyI, 400, .inl (upd (upd g5_1 (Int32.toNatClampNeg p1) p2) (Int32.toNatClampNeg p1) 7)))] := hD
                  obtain rfl := Option.some.inj hf
                  have hP9 := hP.sub (ws' := [(o5, .inr (5, [.ref o7, .ref a5_1, .int v5_2, .int v5_3, .int v5_4, .int v5_5, .int v5_6, .int 1, .int v5_8, .int v5_9])), (a5_1, .inl (cyI, 400, .inl (upd (upd g5_1 (Int32.toNatClampNeg p1) p2) (Int32.toNatClampNeg p1) 7)))]) [0, 1] rfl
                  have hD9 := hD.sub (ws' := [(o5, .inr (5, [.ref o7, .ref a5_1, .int v5_2, .int v5_3, .int v5_4, .int v5_5, .int v5_6, .int 1, .int v5_8, .int v5_9])), (a5_1, .inl (cyI, 400, .inl (upd (upd g5_1 (Int32.toNatClampNeg p1) p2) (Int32.toNatClampNeg p1) 7)))]) [0, 1] (by decide) rfl
                  exact W.vret hx hb hr (fun t ht hW => ⟨⟨(), rfl, trivial, by rw [ht]; exact hP9, va_K.moved hW.alike hK, hD9⟩, hS.F ht⟩) hS.2.2 dX5_setLocal_114
              · replace hf := x_ip c_26 hf
                refine lv_aload_n hx hb dX5_setLocal_80 rfl (lv_at hl 1 rfl) ?_
                refine va_get (D := (dC, dI)) (ci := 5) (v := .ref a5_1) (C := RX5) (T := TX5) (N := 10) hx hb hts i_X5_setLocal_X5 hown hK hP 0 rfl rfl 1 (by decide) k_3 (fun _ h9 => h9) rfl dX5_setLocal_81 ?_
                refine lv_iload_n hx hb dX5_setLocal_84 rfl (lv_at hl 0 rfl) ?_
                refine lv_iconst (v := 1) hx hb dX5_setLocal_85 (by decide) ?_
                refine lv_iadd hx hb dX5_setLocal_86 ?_
                refine lv_iconst (v := 0) hx hb dX5_setLocal_87 (by decide) ?_
                obtain ⟨g_30, hf⟩ := x_gu hf
                refine va_iast hx hb hK hP hD hS 1 0 rfl rfl (x_gdin g_30) dX5_setLocal_88 (fun H locs hP hD hS => ?_)
                have hP : va_P (dC, dI) vwCl [(o5, .inr (5, [.ref o7, .ref a5_1, .int v5_2, .int v5_3, .int v5_4, .int v5_5, .int v5_6, .int v5_7, .int v5_8, .int v5_9])), (a5_1, .inl (cyI, 400, .inl (upd g5_1 (Int32.toNatClampNeg (p1 + (1 : Int32))) 0)))] H := hP
                have hD : va_D A [(o5, .inr (5, [.ref o7, .ref a5_1, .int v5_2, .int v5_3, .int v5_4, .int v5_5, .int v5_6, .int v5_7, .int v5_8, .int v5_9])), (a5_1, .inl (cyI, 400, .inl (upd g5_1 (Int32.toNatClampNeg (p1 + (1 : Int32))) 0)))] := hD
                refine lv_aload_n hx hb dX5_setLocal_89 rfl (lv_at hl 1 rfl) ?_
                refine va_get (D := (dC, dI)) (ci := 5) (v := .ref a5_1) (C := RX5) (T := TX5) (N := 10) hx hb hts i_X5_setLocal_X5 hown hK hP 0 rfl rfl 1 (by decide) k_3 (fun _ h9 => h9) rfl dX5_setLocal_90 ?_
                refine lv_iload_n hx hb dX5_setLocal_93 rfl (lv_at hl 2 rfl) ?_
                refine lv_iload_n hx hb dX5_setLocal_94 rfl (lv_at hl 3 rfl) ?_
                obtain ⟨g_31, hf⟩ := x_gu hf
                refine va_iast hx hb hK hP hD hS 1 0 rfl rfl (x_gdin g_31) dX5_setLocal_95 (fun H locs hP hD hS => ?_)
                have hP : va_P (dC, dI) vwCl [(o5, .inr (5, [.ref o7, .ref a5_1, .int v5_2, .int v5_3, .int v5_4, .int v5_5, .int v5_6, .int v5_7, .int v5_8, .int v5_9])), (a5_1, .inl (cyI, 400, .inl (upd (upd g5_1 (Int32.toNatClampNeg (p1 + (1 : Int32))) 0) (Int32.toNatClampNeg p1) p2)))] H := hP
                have hD : va_D A [(o5, .inr (5, [.ref o7, .ref a5_1, .int v5_2, .int v5_3, .int v5_4, .int v5_5, .int v5_6, .int v5_7, .int v5_8, .int v5_9])), (a5_1, .inl (cyI, 400, .inl (upd (upd g5_1 (Int32.toNatClampNeg (p1 + (1 : Int32))) 0) (Int32.toNatClampNeg p1) p2)))] := hD
                refine lv_iload_n hx hb dX5_setLocal_96 rfl (lv_at hl 0 rfl) ?_
                refine lv_iload_n hx hb dX5_setLocal_97 rfl (lv_at hl 2 rfl) ?_
                refine lv_icmp_le (tgt := 109) hx hb dX5_setLocal_98 (by decide) (fun c_32 => ?_) (fun c_32 => ?_)
                · replace hf := x_ip c_32 hf
                  refine lv_aload_n hx hb dX5_setLocal_109 rfl (lv_at hl 1 rfl) ?_
                  refine lv_iconst (v := 1) hx hb dX5_setLocal_110 (by decide) ?_
                  refine va_put (D := (dC, dI)) (ci := 5) (v := .int 1) (ty := .boolean) (C := RX5) (T := TX5) (N := 10) hx hb hts i_X5_setLocal_X5 tyX5 tyX5_ok nmX5 hown hK hP hD hS 0 rfl rfl 7 (by decide) k_4 (fun _ h9 => h9) rfl (by decide +kernel) rfl rfl (Nat.le_of_ble_eq_true rfl) dX5_setLocal_111 (fun H locs hP hD hS => ?_)
                  have hP : va_P (dC, dI) vwCl [(o5, .inr (5, [.ref o7, .ref a5_1, .int v5_2, .int v5_3, .int v5_4, .int v5_5, .int v5_6, .int 1, .int v5_8, .int v5_9])), (a5_1, .inl (cyI, 400, .inl (upd (upd g5_1 (Int32.toNatClampNeg (p1 + (1 : Int32))) 0) (Int32.toNatClampNeg p1) p2)))] H := hP
                  have hD : va_D A [(o5, .inr (5, [.ref o7, .ref a5_1, .int v5_2, .int v5_3, .int v5_4, .int v5_5, .int v5_6, .int 1, .int v5_8, .int v5_9])), (a5_1, .inl (cyI, 400, .inl (upd (upd g5_1 (Int32.toNatClampNeg (p1 + (1 : Int32))) 0) (Int32.toNatClampNeg p1) p2)))] := hD
                  obtain rfl := Option.some.inj hf
                  have hP9 := hP.sub (ws' := [(o5, .inr (5, [.ref o7, .ref a5_1, .int v5_2, .int v5_3, .int v5_4, .int v5_5, .int v5_6, .int 1, .int v5_8, .int v5_9])), (a5_1, .inl (cyI, 400, .inl (upd (upd g5_1 (Int32.toNatClampNeg (p1 + (1 : Int32))) 0) (Int32.toNatClampNeg p1) p2)))]) [0, 1] rfl
                  have hD9 := hD.sub (ws' := [(o5, .inr (5, [.ref o7, .ref a5_1, .int v5_2, .int v5_3, .int v5_4, .int v5_5, .int v5_6, .int 1, .int v5_8, .int v5_9])), (a5_1, .inl (cyI, 400, .inl (upd (upd g5_1 (Int32.toNatClampNeg (p1 + (1 : Int32))) 0) (Int32.toNatClampNeg p1) p2)))]) [0, 1] (by decide) rfl
                  exact W.vret hx hb hr (fun t ht hW => ⟨⟨(), rfl, trivial, by rw [ht]; exact hP9, va_K.moved hW.alike hK, hD9⟩, hS.F ht⟩) hS.2.2 dX5_setLocal_114
                · replace hf := x_in c_32 hf
                  refine lv_aload_n hx hb dX5_setLocal_101 rfl (lv_at hl 1 rfl) ?_
                  refine va_get (D := (dC, dI)) (ci := 5) (v := .ref a5_1) (C := RX5) (T := TX5) (N := 10) hx hb hts i_X5_setLocal_X5 hown hK hP 0 rfl rfl 1 (by decide) k_3 (fun _ h9 => h9) rfl dX5_setLocal_102 ?_
                  refine lv_iload_n hx hb dX5_setLocal_105 rfl (lv_at hl 0 rfl) ?_
                  refine lv_bipush (v := 7) hx hb dX5_setLocal_106 (by decide) ?_
                  obtain ⟨g_33, hf⟩ := x_gu hf
                  refine va_iast hx hb hK hP hD hS 1 0 rfl rfl (x_gdin g_33) dX5_setLocal_108 (fun H locs hP hD hS => ?_)
                  have hP : va_P (dC, dI) vwCl [(o5, .inr (5, [.ref o7, .ref a5_1, .int v5_2, .int v5_3, .int v5_4, .int v5_5, .int v5_6, .int v5_7, .int v5_8, .int v5_9])), (a5_1, .inl (cyI, 400, .inl (upd (upd (upd g5_1 (Int32.toNatClampNeg (p1 + (1 : Int32))) 0) (Int32.toNatClampNeg p1) p2) (Int32.toNatClampNeg p1) 7)))] H := hP
                  have hD : va_D A [(o5, .inr (5, [.ref o7, .ref a5_1, .int v5_2, .int v5_3, .int v5_4, .int v5_5, .int v5_6, .int v5_7, .int v5_8, .int v5_9])), (a5_1, .inl (cyI, 400, .inl (upd (upd (upd g5_1 (Int32.toNatClampNeg (p1 + (1 : Int32))) 0) (Int32.toNatClampNeg p1) p2) (Int32.toNatClampNeg p1) 7)))] := hD
                  refine lv_aload_n hx hb dX5_setLocal_109 rfl (lv_at hl 1 rfl) ?_
                  refine lv_iconst (v := 1) hx hb dX5_setLocal_110 (by decide) ?_
                  refine va_put (D := (dC, dI)) (ci := 5) (v := .int 1) (ty := .boolean) (C := RX5) (T := TX5) (N := 10) hx hb hts i_X5_setLocal_X5 tyX5 tyX5_ok nmX5 hown hK hP hD hS 0 rfl rfl 7 (by decide) k_4 (fun _ h9 => h9) rfl (by decide +kernel) rfl rfl (Nat.le_of_ble_eq_true rfl) dX5_setLocal_111 (fun H locs hP hD hS => ?_)
                  have hP : va_P (dC, dI) vwCl [(o5, .inr (5, [.ref o7, .ref a5_1, .int v5_2, .int v5_3, .int v5_4, .int v5_5, .int v5_6, .int 1, .int v5_8, .int v5_9])), (a5_1, .inl (cyI, 400, .inl (upd (upd (upd g5_1 (Int32.toNatClampNeg (p1 + (1 : Int32))) 0) (Int32.toNatClampNeg p1) p2) (Int32.toNatClampNeg p1) 7)))] H := hP
                  have hD : va_D A [(o5, .inr (5, [.ref o7, .ref a5_1, .int v5_2, .int v5_3, .int v5_4, .int v5_5, .int v5_6, .int 1, .int v5_8, .int v5_9])), (a5_1, .inl (cyI, 400, .inl (upd (upd (upd g5_1 (Int32.toNatClampNeg (p1 + (1 : Int32))) 0) (Int32.toNatClampNeg p1) p2) (Int32.toNatClampNeg p1) 7)))] := hD
                  obtain rfl := Option.some.inj hf
                  have hP9 := hP.sub (ws' := [(o5, .inr (5, [.ref o7, .ref a5_1, .int v5_2, .int v5_3, .int v5_4, .int v5_5, .int v5_6, .int 1, .int v5_8, .int v5_9])), (a5_1, .inl (cyI, 400, .inl (upd (upd (upd g5_1 (Int32.toNatClampNeg (p1 + (1 : Int32))) 0) (Int32.toNatClampNeg p1) p2) (Int32.toNatClampNeg p1) 7)))]) [0, 1] rfl
                  have hD9 := hD.sub (ws' := [(o5, .inr (5, [.ref o7, .ref a5_1, .int v5_2, .int v5_3, .int v5_4, .int v5_5, .int v5_6, .int 1, .int v5_8, .int v5_9])), (a5_1, .inl (cyI, 400, .inl (upd (upd (upd g5_1 (Int32.toNatClampNeg (p1 + (1 : Int32))) 0) (Int32.toNatClampNeg p1) p2) (Int32.toNatClampNeg p1) 7)))]) [0, 1] (by decide) rfl
                  exact W.vret hx hb hr (fun t ht hW => ⟨⟨(), rfl, trivial, by rw [ht]; exact hP9, va_K.moved hW.alike hK, hD9⟩, hS.F ht⟩) hS.2.2 dX5_setLocal_114
          · replace hf := x_ip c_20 hf
            refine lv_aload_n hx hb dX5_setLocal_48 rfl (lv_at hl 1 rfl) ?_
            refine va_get (D := (dC, dI)) (ci := 5) (v := .ref a5_1) (C := RX5) (T := TX5) (N := 10) hx hb hts i_X5_setLocal_X5 hown hK hP 0 rfl rfl 1 (by decide) k_3 (fun _ h9 => h9) rfl dX5_setLocal_49 ?_
            refine lv_iload_n hx hb dX5_setLocal_52 rfl (lv_at hl 2 rfl) ?_
            refine lv_iconst (v := 1) hx hb dX5_setLocal_53 (by decide) ?_
            refine lv_isub hx hb dX5_setLocal_54 ?_
            refine lv_iconst (v := 0) hx hb dX5_setLocal_55 (by decide) ?_
            obtain ⟨g_34, hf⟩ := x_gu hf
            refine va_iast hx hb hK hP hD hS 1 0 rfl rfl (x_gdin g_34) dX5_setLocal_56 (fun H locs hP hD hS => ?_)
            have hP : va_P (dC, dI) vwCl [(o5, .inr (5, [.ref o7, .ref a5_1, .int v5_2, .int v5_3, .int v5_4, .int v5_5, .int v5_6, .int v5_7, .int v5_8, .int v5_9])), (a5_1, .inl (cyI, 400, .inl (upd g5_1 (Int32.toNatClampNeg (p1 - (1 : Int32))) 0)))] H := hP
            have hD : va_D A [(o5, .inr (5, [.ref o7, .ref a5_1, .int v5_2, .int v5_3, .int v5_4, .int v5_5, .int v5_6, .int v5_7, .int v5_8, .int v5_9])), (a5_1, .inl (cyI, 400, .inl (upd g5_1 (Int32.toNatClampNeg (p1 - (1 : Int32))) 0)))] := hD
            refine lv_iload_n hx hb dX5_setLocal_57 rfl (lv_at hl 0 rfl) ?_
            refine lv_iconst (v := 1) hx hb dX5_setLocal_58 (by decide) ?_
            refine lv_iadd hx hb dX5_setLocal_59 ?_
            refine lv_aload_n hx hb dX5_setLocal_60 rfl (lv_at hl 1 rfl) ?_
            refine va_get (D := (dC, dI)) (ci := 5) (v := .int v5_2) (C := RX5) (T := TX5) (N := 10) hx hb hts i_X5_setLocal_X5 hown hK hP 0 rfl rfl 2 (by decide) k_2 (fun _ h9 => h9) rfl dX5_setLocal_61 ?_
            refine lv_icmp_ge (tgt := 89) hx hb dX5_setLocal_64 (by decide) (fun c_35 => ?_) (fun c_35 => ?_)
            · replace hf := x_ip c_35 hf
              refine lv_aload_n hx hb dX5_setLocal_89 rfl (lv_at hl 1 rfl) ?_
              refine va_get (D := (dC, dI)) (ci := 5) (v := .ref a5_1) (C := RX5) (T := TX5) (N := 10) hx hb hts i_X5_setLocal_X5 hown hK hP 0 rfl rfl 1 (by decide) k_3 (fun _ h9 => h9) rfl dX5_setLocal_90 ?_
              refine lv_iload_n hx hb dX5_setLocal_93 rfl (lv_at hl 2 rfl) ?_
              refine lv_iload_n hx hb dX5_setLocal_94 rfl (lv_at hl 3 rfl) ?_
              obtain ⟨g_36, hf⟩ := x_gu hf
              refine va_iast hx hb hK hP hD hS 1 0 rfl rfl (x_gdin g_36) dX5_setLocal_95 (fun H locs hP hD hS => ?_)
              have hP : va_P (dC, dI) vwCl [(o5, .inr (5, [.ref o7, .ref a5_1, .int v5_2, .int v5_3, .int v5_4, .int v5_5, .int v5_6, .int v5_7, .int v5_8, .int v5_9])), (a5_1, .inl (cyI, 400, .inl (upd (upd g5_1 (Int32.toNatClampNeg (p1 - (1 : Int32))) 0) (Int32.toNatClampNeg p1) p2)))] H := hP
              have hD : va_D A [(o5, .inr (5, [.ref o7, .ref a5_1, .int v5_2, .int v5_3, .int v5_4, .int v5_5, .int v5_6, .int v5_7, .int v5_8, .int v5_9])), (a5_1, .inl (cyI, 400, .inl (upd (upd g5_1 (Int32.toNatClampNeg (p1 - (1 : Int32))) 0) (Int32.toNatClampNeg p1) p2)))] := hD
              refine lv_iload_n hx hb dX5_setLocal_96 rfl (lv_at hl 0 rfl) ?_
              refine lv_iload_n hx hb dX5_setLocal_97 rfl (lv_at hl 2 rfl) ?_
              refine lv_icmp_le (tgt := 109) hx hb dX5_setLocal_98 (by decide) (fun c_37 => ?_) (fun c_37 => ?_)
              · replace hf := x_ip c_37 hf
                refine lv_aload_n hx hb dX5_setLocal_109 rfl (lv_at hl 1 rfl) ?_
                refine lv_iconst (v := 1) hx hb dX5_setLocal_110 (by decide) ?_
                refine va_put (D := (dC, dI)) (ci := 5) (v := .int 1) (ty := .boolean) (C := RX5) (T := TX5) (N := 10) hx hb hts i_X5_setLocal_X5 tyX5 tyX5_ok nmX5 hown hK hP hD hS 0 rfl rfl 7 (by decide) k_4 (fun _ h9 => h9) rfl (by decide +kernel) rfl rfl (Nat.le_of_ble_eq_true rfl) dX5_setLocal_111 (fun H locs hP hD hS => ?_)
                have hP : va_P (dC, dI) vwCl [(o5, .inr (5, [.ref o7, .ref a5_1, .int v5_2, .int v5_3, .int v5_4, .int v5_5, .int v5_6, .int 1, .int v5_8, .int v5_9])), (a5_1, .inl (cyI, 400, .inl (upd (upd g5_1 (Int32.toNatClampNeg (p1 - (1 : Int32))) 0) (Int32.toNatClampNeg p1) p2)))] H := hP
                have hD : va_D A [(o5, .inr (5, [.ref o7, .ref a5_1, .int v5_2, .int v5_3, .int v5_4, .int v5_5, .int v5_6, .int 1, .int v5_8, .int v5_9])), (a5_1, .inl (cyI, 400, .inl (upd (upd g5_1 (Int32.toNatClampNeg (p1 - (1 : Int32))) 0) (Int32.toNatClampNeg p1) p2)))] := hD
                obtain rfl := Option.some.inj hf
                have hP9 := hP.sub (ws' := [(o5, .inr (5, [.ref o7, .ref a5_1, .int v5_2, .int v5_3, .int v5_4, .int v5_5, .int v5_6, .int 1, .int v5_8, .int v5_9])), (a5_1, .inl (cyI, 400, .inl (upd (upd g5_1 (Int32.toNatClampNeg (p1 - (1 : Int32))) 0) (Int32.toNatClampNeg p1) p2)))]) [0, 1] rfl
                have hD9 := hD.sub (ws' := [(o5, .inr (5, [.ref o7, .ref a5_1, .int v5_2, .int v5_3, .int v5_4, .int v5_5, .int v5_6, .int 1, .int v5_8, .int v5_9])), (a5_1, .inl (cyI, 400, .inl (upd (upd g5_1 (Int32.toNatClampNeg (p1 - (1 : Int32))) 0) (Int32.toNatClampNeg p1) p2)))]) [0, 1] (by decide) rfl
                exact W.vret hx hb hr (fun t ht hW => ⟨⟨(), rfl, trivial, by rw [ht]; exact hP9, va_K.moved hW.alike hK, hD9⟩, hS.F ht⟩) hS.2.2 dX5_setLocal_114
              · replace hf := x_in c_37 hf
                refine lv_aload_n hx hb dX5_setLocal_101 rfl (lv_at hl 1 rfl) ?_
                refine va_get (D := (dC, dI)) (ci := 5) (v := .ref a5_1) (C := RX5) (T := TX5) (N := 10) hx hb hts i_X5_setLocal_X5 hown hK hP 0 rfl rfl 1 (by decide) k_3 (fun _ h9 => h9) rfl dX5_setLocal_102 ?_
                refine lv_iload_n hx hb dX5_setLocal_105 rfl (lv_at hl 0 rfl) ?_
                refine lv_bipush (v := 7) hx hb dX5_setLocal_106 (by decide) ?_
                obtain ⟨g_38, hf⟩ := x_gu hf
                refine va_iast hx hb hK hP hD hS 1 0 rfl rfl (x_gdin g_38) dX5_setLocal_108 (fun H locs hP hD hS => ?_)
                have hP : va_P (dC, dI) vwCl [(o5, .inr (5, [.ref o7, .ref a5_1, .int v5_2, .int v5_3, .int v5_4, .int v5_5, .int v5_6, .int v5_7, .int v5_8, .int v5_9])), (a5_1, .inl (cyI, 400, .inl (upd (upd (upd g5_1 (Int32.toNatClampNeg (p1 - (1 : Int32))) 0) (Int32.toNatClampNeg p1) p2) (Int32.toNatClampNeg p1) 7)))] H := hP
                have hD : va_D A [(o5, .inr (5, [.ref o7, .ref a5_1, .int v5_2, .int v5_3, .int v5_4, .int v5_5, .int v5_6, .int v5_7, .int v5_8, .int v5_9])), (a5_1, .inl (cyI, 400, .inl (upd (upd (upd g5_1 (Int32.toNatClampNeg (p1 - (1 : Int32))) 0) (Int32.toNatClampNeg p1) p2) (Int32.toNatClampNeg p1) 7)))] := hD
                refine lv_aload_n hx hb dX5_setLocal_109 rfl (lv_at hl 1 rfl) ?_
                refine lv_iconst (v := 1) hx hb dX5_setLocal_110 (by decide) ?_
                refine va_put (D := (dC, dI)) (ci := 5) (v := .int 1) (ty := .boolean) (C := RX5) (T := TX5) (N := 10) hx hb hts i_X5_setLocal_X5 tyX5 tyX5_ok nmX5 hown hK hP hD hS 0 rfl rfl 7 (by decide) k_4 (fun _ h9 => h9) rfl (by decide +kernel) rfl rfl (Nat.le_of_ble_eq_true rfl) dX5_setLocal_111 (fun H locs hP hD hS => ?_)
                have hP : va_P (dC, dI) vwCl [(o5, .inr (5, [.ref o7, .ref a5_1, .int v5_2, .int v5_3, .int v5_4, .int v5_5, .int v5_6, .int 1, .int v5_8, .int v5_9])), (a5_1, .inl (cyI, 400, .inl (upd (upd (upd g5_1 (Int32.toNatClampNeg (p1 - (1 : Int32))) 0) (Int32.toNatClampNeg p1) p2) (Int32.toNatClampNeg p1) 7)))] H := hP
                have hD : va_D A [(o5, .inr (5, [.ref o7, .ref a5_1, .int v5_2, .int v5_3, .int v5_4, .int v5_5, .int v5_6, .int 1, .int v5_8, .int v5_9])), (a5_1, .inl (cyI, 400, .inl (upd (upd (upd g5_1 (Int32.toNatClampNeg (p1 - (1 : Int32))) 0) (Int32.toNatClampNeg p1) p2) (Int32.toNatClampNeg p1) 7)))] := hD
                obtain rfl := Option.some.inj hf
                have hP9 := hP.sub (ws' := [(o5, .inr (5, [.ref o7, .ref a5_1, .int v5_2, .int v5_3, .int v5_4, .int v5_5, .int v5_6, .int 1, .int v5_8, .int v5_9])), (a5_1, .inl (cyI, 400, .inl (upd (upd (upd g5_1 (Int32.toNatClampNeg (p1 - (1 : Int32))) 0) (Int32.toNatClampNeg p1) p2) (Int32.toNatClampNeg p1) 7)))]) [0, 1] rfl
                have hD9 := hD.sub (ws' := [(o5, .inr (5, [.ref o7, .ref a5_1, .int v5_2, .int v5_3, .int v5_4, .int v5_5, .int v5_6, .int 1, .int v5_8, .int v5_9])), (a5_1, .inl (cyI, 400, .inl (upd (upd (upd g5_1 (Int32.toNatClampNeg (p1 - (1 : Int32))) 0) (Int32.toNatClampNeg p1) p2) (Int32.toNatClampNeg p1) 7)))]) [0, 1] (by decide) rfl
                exact W.vret hx hb hr (fun t ht hW => ⟨⟨(), rfl, trivial, by rw [ht]; exact hP9, va_K.moved hW.alike hK, hD9⟩, hS.F ht⟩) hS.2.2 dX5_setLocal_114
            · replace hf := x_in c_35 hf
              refine lv_aload_n hx hb dX5_setLocal_67 rfl (lv_at hl 1 rfl) ?_
              refine va_get (D := (dC, dI)) (ci := 5) (v := .ref a5_1) (C := RX5) (T := TX5) (N := 10) hx hb hts i_X5_setLocal_X5 hown hK hP 0 rfl rfl 1 (by decide) k_3 (fun _ h9 => h9) rfl dX5_setLocal_68 ?_
              refine lv_iload_n hx hb dX5_setLocal_71 rfl (lv_at hl 0 rfl) ?_
              refine lv_iconst (v := 1) hx hb dX5_setLocal_72 (by decide) ?_
              refine lv_iadd hx hb dX5_setLocal_73 ?_
              obtain ⟨g_39, hf⟩ := x_gu hf
              refine va_iald hx hb hK hP 1 0 rfl rfl (x_gdin g_39) dX5_setLocal_74 ?_
              refine lv_bipush (v := 7) hx hb dX5_setLocal_75 (by decide) ?_
              refine lv_icmp_ne (tgt := 89) hx hb dX5_setLocal_77 (by decide) (fun c_40 => ?_) (fun c_40 => ?_)
              · replace hf := x_in c_40 hf
                refine lv_aload_n hx hb dX5_setLocal_89 rfl (lv_at hl 1 rfl) ?_
                refine va_get (D := (dC, dI)) (ci := 5) (v := .ref a5_1) (C := RX5) (T := TX5) (N := 10) hx hb hts i_X5_setLocal_X5 hown hK hP 0 rfl rfl 1 (by decide) k_3 (fun _ h9 => h9) rfl dX5_setLocal_90 ?_
                refine lv_iload_n hx hb dX5_setLocal_93 rfl (lv_at hl 2 rfl) ?_
                refine lv_iload_n hx hb dX5_setLocal_94 rfl (lv_at hl 3 rfl) ?_
                obtain ⟨g_41, hf⟩ := x_gu hf
                refine va_iast hx hb hK hP hD hS 1 0 rfl rfl (x_gdin g_41) dX5_setLocal_95 (fun H locs hP hD hS => ?_)
                have hP : va_P (dC, dI) vwCl [(o5, .inr (5, [.ref o7, .ref a5_1, .int v5_2, .int v5_3, .int v5_4, .int v5_5, .int v5_6, .int v5_7, .int v5_8, .int v5_9])), (a5_1, .inl (cyI, 400, .inl (upd (upd g5_1 (Int32.toNatClampNeg (p1 - (1 : Int32))) 0) (Int32.toNatClampNeg p1) p2)))] H := hP
                have hD : va_D A [(o5, .inr (5, [.ref o7, .ref a5_1, .int v5_2, .int v5_3, .int v5_4, .int v5_5, .int v5_6, .int v5_7, .int v5_8, .int v5_9])), (a5_1, .inl (cyI, 400, .inl (upd (upd g5_1 (Int32.toNatClampNeg (p1 - (1 : Int32))) 0) (Int32.toNatClampNeg p1) p2)))] := hD
                refine lv_iload_n hx hb dX5_setLocal_96 rfl (lv_at hl 0 rfl) ?_
                refine lv_iload_n hx hb dX5_setLocal_97 rfl (lv_at hl 2 rfl) ?_
                refine lv_icmp_le (tgt := 109) hx hb dX5_setLocal_98 (by decide) (fun c_42 => ?_) (fun c_42 => ?_)
                · replace hf := x_ip c_42 hf
                  refine lv_aload_n hx hb dX5_setLocal_109 rfl (lv_at hl 1 rfl) ?_
                  refine lv_iconst (v := 1) hx hb dX5_setLocal_110 (by decide) ?_
                  refine va_put (D := (dC, dI)) (ci := 5) (v := .int 1) (ty := .boolean) (C := RX5) (T := TX5) (N := 10) hx hb hts i_X5_setLocal_X5 tyX5 tyX5_ok nmX5 hown hK hP hD hS 0 rfl rfl 7 (by decide) k_4 (fun _ h9 => h9) rfl (by decide +kernel) rfl rfl (Nat.le_of_ble_eq_true rfl) dX5_setLocal_111 (fun H locs hP hD hS => ?_)
                  have hP : va_P (dC, dI) vwCl [(o5, .inr (5, [.ref o7, .ref a5_1, .int v5_2, .int v5_3, .int v5_4, .int v5_5, .int v5_6, .int 1, .int v5_8, .int v5_9])), (a5_1, .inl (cyI, 400, .inl (upd (upd g5_1 (Int32.toNatClampNeg (p1 - (1 : Int32))) 0) (Int32.toNatClampNeg p1) p2)))] H := hP
                  have hD : va_D A [(o5, .inr (5, [.ref o7, .ref a5_1, .int v5_2, .int v5_3, .int v5_4, .int v5_5, .int v5_6, .int 1, .int v5_8, .int v5_9])), (a5_1, .inl (cyI, 400, .inl (upd (upd g5_1 (Int32.toNatClampNeg (p1 - (1 : Int32))) 0) (Int32.toNatClampNeg p1) p2)))] := hD
                  obtain rfl := Option.some.inj hf
                  have hP9 := hP.sub (ws' := [(o5, .inr (5, [.ref o7, .ref a5_1, .int v5_2, .int v5_3, .int v5_4, .int v5_5, .int v5_6, .int 1, .int v5_8, .int v5_9])), (a5_1, .inl (cyI, 400, .inl (upd (upd g5_1 (Int32.toNatClampNeg (p1 - (1 : Int32))) 0) (Int32.toNatClampNeg p1) p2)))]) [0, 1] rfl
                  have hD9 := hD.sub (ws' := [(o5, .inr (5, [.ref o7, .ref a5_1, .int v5_2, .int v5_3, .int v5_4, .int v5_5, .int v5_6, .int 1, .int v5_8, .int v5_9])), (a5_1, .inl (cyI, 400, .inl (upd (upd g5_1 (Int32.toNatClampNeg (p1 - (1 : Int32))) 0) (Int32.toNatClampNeg p1) p2)))]) [0, 1] (by decide) rfl
                  exact W.vret hx hb hr (fun t ht hW => ⟨⟨(), rfl, trivial, by rw [ht]; exact hP9, va_K.moved hW.alike hK, hD9⟩, hS.F ht⟩) hS.2.2 dX5_setLocal_114
                · replace hf := x_in c_42 hf
                  refine lv_aload_n hx hb dX5_setLocal_101 rfl (lv_at hl 1 rfl) ?_
                  refine va_get (D := (dC, dI)) (ci := 5) (v := .ref a5_1) (C := RX5) (T := TX5) (N := 10) hx hb hts i_X5_setLocal_X5 hown hK hP 0 rfl rfl 1 (by decide) k_3 (fun _ h9 => h9) rfl dX5_setLocal_102 ?_
                  refine lv_iload_n hx hb dX5_setLocal_105 rfl (lv_at hl 0 rfl) ?_
                  refine lv_bipush (v := 7) hx hb dX5_setLocal_106 (by decide) ?_
                  obtain ⟨g_43, hf⟩ := x_gu hf
                  refine va_iast hx hb hK hP hD hS 1 0 rfl rfl (x_gdin g_43) dX5_setLocal_108 (fun H locs hP hD hS => ?_)
                  have hP : va_P (dC, dI) vwCl [(o5, .inr (5, [.ref o7, .ref a5_1, .int v5_2, .int v5_3, .int v5_4, .int v5_5, .int v5_6, .int v5_7, .int v5_8, .int v5_9])), (a5_1, .inl (cyI, 400, .inl (upd (upd (upd g5_1 (Int32.toNatClampNeg (p1 - (1 : Int32))) 0) (Int32.toNatClampNeg p1) p2) (Int32.toNatClampNeg p1) 7)))] H := hP
                  have hD : va_D A [(o5, .inr (5, [.ref o7, .ref a5_1, .int v5_2, .int v5_3, .int v5_4, .int v5_5, .int v5_6, .int v5_7, .int v5_8, .int v5_9])), (a5_1, .inl (cyI, 400, .inl (upd (upd (upd g5_1 (Int32.toNatClampNeg (p1 - (1 : Int32))) 0) (Int32.toNatClampNeg p1) p2) (Int32.toNatClampNeg p1) 7)))] := hD
                  refine lv_aload_n hx hb dX5_setLocal_109 rfl (lv_at hl 1 rfl) ?_
                  refine lv_iconst (v := 1) hx hb dX5_setLocal_110 (by decide) ?_
                  refine va_put (D := (dC, dI)) (ci := 5) (v := .int 1) (ty := .boolean) (C := RX5) (T := TX5) (N := 10) hx hb hts i_X5_setLocal_X5 tyX5 tyX5_ok nmX5 hown hK hP hD hS 0 rfl rfl 7 (by decide) k_4 (fun _ h9 => h9) rfl (by decide +kernel) rfl rfl (Nat.le_of_ble_eq_true rfl) dX5_setLocal_111 (fun H locs hP hD hS => ?_)
                  have hP : va_P (dC, dI) vwCl [(o5, .inr (5, [.ref o7, .ref a5_1, .int v5_2, .int v5_3, .int v5_4, .int v5_5, .int v5_6, .int 1, .int v5_8, .int v5_9])), (a5_1, .inl (cyI, 400, .inl (upd (upd (upd g5_1 (Int32.toNatClampNeg (p1 - (1 : Int32))) 0) (Int32.toNatClampNeg p1) p2) (Int32.toNatClampNeg p1) 7)))] H := hP
                  have hD : va_D A [(o5, .inr (5, [.ref o7, .ref a5_1, .int v5_2, .int v5_3, .int v5_4, .int v5_5, .int v5_6, .int 1, .int v5_8, .int v5_9])), (a5_1, .inl (cyI, 400, .inl (upd (upd (upd g5_1 (Int32.toNatClampNeg (p1 - (1 : Int32))) 0) (Int32.toNatClampNeg p1) p2) (Int32.toNatClampNeg p1) 7)))] := hD
                  obtain rfl := Option.some.inj hf
                  have hP9 := hP.sub (ws' := [(o5, .inr (5, [.ref o7, .ref a5_1, .int v5_2, .int v5_3, .int v5_4, .int v5_5, .int v5_6, .int 1, .int v5_8, .int v5_9])), (a5_1, .inl (cyI, 400, .inl (upd (upd (upd g5_1 (Int32.toNatClampNeg (p1 - (1 : Int32))) 0) (Int32.toNatClampNeg p1) p2) (Int32.toNatClampNeg p1) 7)))]) [0, 1] rfl
                  have hD9 := hD.sub (ws' := [(o5, .inr (5, [.ref o7, .ref a5_1, .int v5_2, .int v5_3, .int v5_4, .int v5_5, .int v5_6, .int 1, .int v5_8, .int v5_9])), (a5_1, .inl (cyI, 400, .inl (upd (upd (upd g5_1 (Int32.toNatClampNeg (p1 - (1 : Int32))) 0) (Int32.toNatClampNeg p1) p2) (Int32.toNatClampNeg p1) 7)))]) [0, 1] (by decide) rfl
                  exact W.vret hx hb hr (fun t ht hW => ⟨⟨(), rfl, trivial, by rw [ht]; exact hP9, va_K.moved hW.alike hK, hD9⟩, hS.F ht⟩) hS.2.2 dX5_setLocal_114
              · replace hf := x_ip c_40 hf
                refine lv_aload_n hx hb dX5_setLocal_80 rfl (lv_at hl 1 rfl) ?_
                refine va_get (D := (dC, dI)) (ci := 5) (v := .ref a5_1) (C := RX5) (T := TX5) (N := 10) hx hb hts i_X5_setLocal_X5 hown hK hP 0 rfl rfl 1 (by decide) k_3 (fun _ h9 => h9) rfl dX5_setLocal_81 ?_
                refine lv_iload_n hx hb dX5_setLocal_84 rfl (lv_at hl 0 rfl) ?_
                refine lv_iconst (v := 1) hx hb dX5_setLocal_85 (by decide) ?_
                refine lv_iadd hx hb dX5_setLocal_86 ?_
                refine lv_iconst (v := 0) hx hb dX5_setLocal_87 (by decide) ?_
                obtain ⟨g_44, hf⟩ := x_gu hf
                refine va_iast hx hb hK hP hD hS 1 0 rfl rfl (x_gdin g_44) dX5_setLocal_88 (fun H locs hP hD hS => ?_)
                have hP : va_P (dC, dI) vwCl [(o5, .inr (5, [.ref o7, .ref a5_1, .int v5_2, .int v5_3, .int v5_4, .int v5_5, .int v5_6, .int v5_7, .int v5_8, .int v5_9])), (a5_1, .inl (cyI, 400, .inl (upd (upd g5_1 (Int32.toNatClampNeg (p1 - (1 : Int32))) 0) (Int32.toNatClampNeg (p1 + (1 : Int32))) 0)))] H := hP
                have hD : va_D A [(o5, .inr (5, [.ref o7, .ref a5_1, .int v5_2, .int v5_3, .int v5_4, .int v5_5, .int v5_6, .int v5_7, .int v5_8, .int v5_9])), (a5_1, .inl (cyI, 400, .inl (upd (upd g5_1 (Int32.toNatClampNeg (p1 - (1 : Int32))) 0) (Int32.toNatClampNeg (p1 + (1 : Int32))) 0)))] := hD
                refine lv_aload_n hx hb dX5_setLocal_89 rfl (lv_at hl 1 rfl) ?_
                refine va_get (D := (dC, dI)) (ci := 5) (v := .ref a5_1) (C := RX5) (T := TX5) (N := 10) hx hb hts i_X5_setLocal_X5 hown hK hP 0 rfl rfl 1 (by decide) k_3 (fun _ h9 => h9) rfl dX5_setLocal_90 ?_
                refine lv_iload_n hx hb dX5_setLocal_93 rfl (lv_at hl 2 rfl) ?_
                refine lv_iload_n hx hb dX5_setLocal_94 rfl (lv_at hl 3 rfl) ?_
                obtain ⟨g_45, hf⟩ := x_gu hf
                refine va_iast hx hb hK hP hD hS 1 0 rfl rfl (x_gdin g_45) dX5_setLocal_95 (fun H locs hP hD hS => ?_)
                have hP : va_P (dC, dI) vwCl [(o5, .inr (5, [.ref o7, .ref a5_1, .int v5_2, .int v5_3, .int v5_4, .int v5_5, .int v5_6, .int v5_7, .int v5_8, .int v5_9])), (a5_1, .inl (cyI, 400, .inl (upd (upd (upd g5_1 (Int32.toNatClampNeg (p1 - (1 : Int32))) 0) (Int32.toNatClampNeg (p1 + (1 : Int32))) 0) (Int32.toNatClampNeg p1) p2)))] H := hP
                have hD : va_D A [(o5, .inr (5, [.ref o7, .ref a5_1, .int v5_2, .int v5_3, .int v5_4, .int v5_5, .int v5_6, .int v5_7, .int v5_8, .int v5_9])), (a5_1, .inl (cyI, 400, .inl (upd (upd (upd g5_1 (Int32.toNatClampNeg (p1 - (1 : Int32))) 0) (Int32.toNatClampNeg (p1 + (1 : Int32))) 0) (Int32.toNatClampNeg p1) p2)))] := hD
                refine lv_iload_n hx hb dX5_setLocal_96 rfl (lv_at hl 0 rfl) ?_
                refine lv_iload_n hx hb dX5_setLocal_97 rfl (lv_at hl 2 rfl) ?_
                refine lv_icmp_le (tgt := 109) hx hb dX5_setLocal_98 (by decide) (fun c_46 => ?_) (fun c_46 => ?_)
                · replace hf := x_ip c_46 hf
                  refine lv_aload_n hx hb dX5_setLocal_109 rfl (lv_at hl 1 rfl) ?_
                  refine lv_iconst (v := 1) hx hb dX5_setLocal_110 (by decide) ?_
                  refine va_put (D := (dC, dI)) (ci := 5) (v := .int 1) (ty := .boolean) (C := RX5) (T := TX5) (N := 10) hx hb hts i_X5_setLocal_X5 tyX5 tyX5_ok nmX5 hown hK hP hD hS 0 rfl rfl 7 (by decide) k_4 (fun _ h9 => h9) rfl (by decide +kernel) rfl rfl (Nat.le_of_ble_eq_true rfl) dX5_setLocal_111 (fun H locs hP hD hS => ?_)
                  have hP : va_P (dC, dI) vwCl [(o5, .inr (5, [.ref o7, .ref a5_1, .int v5_2, .int v5_3, .int v5_4, .int v5_5, .int v5_6, .int 1, .int v5_8, .int v5_9])), (a5_1, .inl (cyI, 400, .inl (upd (upd (upd g5_1 (Int32.toNatClampNeg (p1 - (1 : Int32))) 0) (Int32.toNatClampNeg (p1 + (1 : Int32))) 0) (Int32.toNatClampNeg p1) p2)))] H := hP
                  have hD : va_D A [(o5, .inr (5, [.ref o7, .ref a5_1, .int v5_2, .int v5_3, .int v5_4, .int v5_5, .int v5_6, .int 1, .int v5_8, .int v5_9])), (a5_1, .inl (cyI, 400, .inl (upd (upd (upd g5_1 (Int32.toNatClampNeg (p1 - (1 : Int32))) 0) (Int32.toNatClampNeg (p1 + (1 : Int32))) 0) (Int32.toNatClampNeg p1) p2)))] := hD
                  obtain rfl := Option.some.inj hf
                  have hP9 := hP.sub (ws' := [(o5, .inr (5, [.ref o7, .ref a5_1, .int v5_2, .int v5_3, .int v5_4, .int v5_5, .int v5_6, .int 1, .int v5_8, .int v5_9])), (a5_1, .inl (cyI, 400, .inl (upd (upd (upd g5_1 (Int32.toNatClampNeg (p1 - (1 : Int32))) 0) (Int32.toNatClampNeg (p1 + (1 : Int32))) 0) (Int32.toNatClampNeg p1) p2)))]) [0, 1] rfl
                  have hD9 := hD.sub (ws' := [(o5, .inr (5, [.ref o7, .ref a5_1, .int v5_2, .int v5_3, .int v5_4, .int v5_5, .int v5_6, .int 1, .int v5_8, .int v5_9])), (a5_1, .inl (cyI, 400, .inl (upd (upd (upd g5_1 (Int32.toNatClampNeg (p1 - (1 : Int32))) 0) (Int32.toNatClampNeg (p1 + (1 : Int32))) 0) (Int32.toNatClampNeg p1) p2)))]) [0, 1] (by decide) rfl
                  exact W.vret hx hb hr (fun t ht hW => ⟨⟨(), rfl, trivial, by rw [ht]; exact hP9, va_K.moved hW.alike hK, hD9⟩, hS.F ht⟩) hS.2.2 dX5_setLocal_114
                · replace hf := x_in c_46 hf
                  refine lv_aload_n hx hb dX5_setLocal_101 rfl (lv_at hl 1 rfl) ?_
                  refine va_get (D := (dC, dI)) (ci := 5) (v := .ref a5_1) (C := RX5) (T := TX5) (N := 10) hx hb hts i_X5_setLocal_X5 hown hK hP 0 rfl rfl 1 (by decide) k_3 (fun _ h9 => h9) rfl dX5_setLocal_102 ?_
                  refine lv_iload_n hx hb dX5_setLocal_105 rfl (lv_at hl 0 rfl) ?_
                  refine lv_bipush (v := 7) hx hb dX5_setLocal_106 (by decide) ?_
                  obtain ⟨g_47, hf⟩ := x_gu hf
                  refine va_iast hx hb hK hP hD hS 1 0 rfl rfl (x_gdin g_47) dX5_setLocal_108 (fun H locs hP hD hS => ?_)
                  have hP : va_P (dC, dI) vwCl [(o5, .inr (5, [.ref o7, .ref a5_1, .int v5_2, .int v5_3, .int v5_4, .int v5_5, .int v5_6, .int v5_7, .int v5_8, .int v5_9])), (a5_1, .inl (cyI, 400, .inl (upd (upd (upd (upd g5_1 (Int32.toNatClampNeg (p1 - (1 : Int32))) 0) (Int32.toNatClampNeg (p1 + (1 : Int32))) 0) (Int32.toNatClampNeg p1) p2) (Int32.toNatClampNeg p1) 7)))] H := hP
                  have hD : va_D A [(o5, .inr (5, [.ref o7, .ref a5_1, .int v5_2, .int v5_3, .int v5_4, .int v5_5, .int v5_6, .int v5_7, .int v5_8, .int v5_9])), (a5_1, .inl (cyI, 400, .inl (upd (upd (upd (upd g5_1 (Int32.toNatClampNeg (p1 - (1 : Int32))) 0) (Int32.toNatClampNeg (p1 + (1 : Int32))) 0) (Int32.toNatClampNeg p1) p2) (Int32.toNatClampNeg p1) 7)))] := hD
                  refine lv_aload_n hx hb dX5_setLocal_109 rfl (lv_at hl 1 rfl) ?_
                  refine lv_iconst (v := 1) hx hb dX5_setLocal_110 (by decide) ?_
                  refine va_put (D := (dC, dI)) (ci := 5) (v := .int 1) (ty := .boolean) (C := RX5) (T := TX5) (N := 10) hx hb hts i_X5_setLocal_X5 tyX5 tyX5_ok nmX5 hown hK hP hD hS 0 rfl rfl 7 (by decide) k_4 (fun _ h9 => h9) rfl (by decide +kernel) rfl rfl (Nat.le_of_ble_eq_true rfl) dX5_setLocal_111 (fun H locs hP hD hS => ?_)
                  have hP : va_P (dC, dI) vwCl [(o5, .inr (5, [.ref o7, .ref a5_1, .int v5_2, .int v5_3, .int v5_4, .int v5_5, .int v5_6, .int 1, .int v5_8, .int v5_9])), (a5_1, .inl (cyI, 400, .inl (upd (upd (upd (upd g5_1 (Int32.toNatClampNeg (p1 - (1 : Int32))) 0) (Int32.toNatClampNeg (p1 + (1 : Int32))) 0) (Int32.toNatClampNeg p1) p2) (Int32.toNatClampNeg p1) 7)))] H := hP
                  have hD : va_D A [(o5, .inr (5, [.ref o7, .ref a5_1, .int v5_2, .int v5_3, .int v5_4, .int v5_5, .int v5_6, .int 1, .int v5_8, .int v5_9])), (a5_1, .inl (cyI, 400, .inl (upd (upd (upd (upd g5_1 (Int32.toNatClampNeg (p1 - (1 : Int32))) 0) (Int32.toNatClampNeg (p1 + (1 : Int32))) 0) (Int32.toNatClampNeg p1) p2) (Int32.toNatClampNeg p1) 7)))] := hD
                  obtain rfl := Option.some.inj hf
                  have hP9 := hP.sub (ws' := [(o5, .inr (5, [.ref o7, .ref a5_1, .int v5_2, .int v5_3, .int v5_4, .int v5_5, .int v5_6, .int 1, .int v5_8, .int v5_9])), (a5_1, .inl (cyI, 400, .inl (upd (upd (upd (upd g5_1 (Int32.toNatClampNeg (p1 - (1 : Int32))) 0) (Int32.toNatClampNeg (p1 + (1 : Int32))) 0) (Int32.toNatClampNeg p1) p2) (Int32.toNatClampNeg p1) 7)))]) [0, 1] rfl
                  have hD9 := hD.sub (ws' := [(o5, .inr (5, [.ref o7, .ref a5_1, .int v5_2, .int v5_3, .int v5_4, .int v5_5, .int v5_6, .int 1, .int v5_8, .int v5_9])), (a5_1, .inl (cyI, 400, .inl (upd (upd (upd (upd g5_1 (Int32.toNatClampNeg (p1 - (1 : Int32))) 0) (Int32.toNatClampNeg (p1 + (1 : Int32))) 0) (Int32.toNatClampNeg p1) p2) (Int32.toNatClampNeg p1) 7)))]) [0, 1] (by decide) rfl
                  exact W.vret hx hb hr (fun t ht hW => ⟨⟨(), rfl, trivial, by rw [ht]; exact hP9, va_K.moved hW.alike hK, hD9⟩, hS.F ht⟩) hS.2.2 dX5_setLocal_114
      · replace hf := x_in c_4 hf
        refine lv_aload_n hx hb dX5_setLocal_27 rfl (lv_at hl 1 rfl) ?_
        refine lv_iconst (v := 1) hx hb dX5_setLocal_28 (by decide) ?_
        refine va_put (D := (dC, dI)) (ci := 5) (v := .int 1) (ty := .boolean) (C := RX5) (T := TX5) (N := 10) hx hb hts i_X5_setLocal_X5 tyX5 tyX5_ok nmX5 hown hK hP hD hS 0 rfl rfl 6 (by decide) k_1 (fun _ h9 => h9) rfl (by decide +kernel) rfl rfl (Nat.le_of_ble_eq_true rfl) dX5_setLocal_29 (fun H locs hP hD hS => ?_)
        have hP : va_P (dC, dI) vwCl [(o5, .inr (5, [.ref o7, .ref a5_1, .int v5_2, .int v5_3, .int v5_4, .int v5_5, .int 1, .int v5_7, .int v5_8, .int v5_9])), (a5_1, .inl (cyI, 400, .inl g5_1))] H := hP
        have hD : va_D A [(o5, .inr (5, [.ref o7, .ref a5_1, .int v5_2, .int v5_3, .int v5_4, .int v5_5, .int 1, .int v5_7, .int v5_8, .int v5_9])), (a5_1, .inl (cyI, 400, .inl g5_1))] := hD
        obtain rfl := Option.some.inj hf
        have hP9 := hP.sub (ws' := [(o5, .inr (5, [.ref o7, .ref a5_1, .int v5_2, .int v5_3, .int v5_4, .int v5_5, .int 1, .int v5_7, .int v5_8, .int v5_9])), (a5_1, .inl (cyI, 400, .inl g5_1))]) [0, 1] rfl
        have hD9 := hD.sub (ws' := [(o5, .inr (5, [.ref o7, .ref a5_1, .int v5_2, .int v5_3, .int v5_4, .int v5_5, .int 1, .int v5_7, .int v5_8, .int v5_9])), (a5_1, .inl (cyI, 400, .inl g5_1))]) [0, 1] (by decide) rfl
        exact W.vret hx hb hr (fun t ht hW => ⟨⟨(), rfl, trivial, by rw [ht]; exact hP9, va_K.moved hW.alike hK, hD9⟩, hS.F ht⟩) hS.2.2 dX5_setLocal_32
  · replace hf := x_in c_2 hf
    refine lv_iload_n hx hb dX5_setLocal_7 rfl (lv_at hl 1 rfl) ?_
    refine lv_iconst (v := 1) hx hb dX5_setLocal_8 (by decide) ?_
    refine lv_iadd hx hb dX5_setLocal_9 ?_
    refine lv_goto (tgt := 14) hx hb dX5_setLocal_10 (by decide) ?_
    refine lv_istore_n (lv' := [(3, .int (p1 + (1 : Int32))), (0, .ref o5), (1, .int p1), (2, .int p2)]) hx hb dX5_setLocal_14 rfl hl (by decide) rfl (fun ls hl => ?_)
    refine lv_iload_n hx hb dX5_setLocal_15 rfl (lv_at hl 2 rfl) ?_
    refine lv_if_lt (tgt := 27) hx hb dX5_setLocal_16 (by decide) (fun c_48 => ?_) (fun c_48 => ?_)
    · replace hf := x_ip c_48 hf
      refine lv_aload_n hx hb dX5_setLocal_27 rfl (lv_at hl 1 rfl) ?_
      refine lv_iconst (v := 1) hx hb dX5_setLocal_28 (by decide) ?_
      refine va_put (D := (dC, dI)) (ci := 5) (v := .int 1) (ty := .boolean) (C := RX5) (T := TX5) (N := 10) hx hb hts i_X5_setLocal_X5 tyX5 tyX5_ok nmX5 hown hK hP hD hS 0 rfl rfl 6 (by decide) k_1 (fun _ h9 => h9) rfl (by decide +kernel) rfl rfl (Nat.le_of_ble_eq_true rfl) dX5_setLocal_29 (fun H locs hP hD hS => ?_)
      have hP : va_P (dC, dI) vwCl [(o5, .inr (5, [.ref o7, .ref a5_1, .int v5_2, .int v5_3, .int v5_4, .int v5_5, .int 1, .int v5_7, .int v5_8, .int v5_9])), (a5_1, .inl (cyI, 400, .inl g5_1))] H := hP
      have hD : va_D A [(o5, .inr (5, [.ref o7, .ref a5_1, .int v5_2, .int v5_3, .int v5_4, .int v5_5, .int 1, .int v5_7, .int v5_8, .int v5_9])), (a5_1, .inl (cyI, 400, .inl g5_1))] := hD
      obtain rfl := Option.some.inj hf
      have hP9 := hP.sub (ws' := [(o5, .inr (5, [.ref o7, .ref a5_1, .int v5_2, .int v5_3, .int v5_4, .int v5_5, .int 1, .int v5_7, .int v5_8, .int v5_9])), (a5_1, .inl (cyI, 400, .inl g5_1))]) [0, 1] rfl
      have hD9 := hD.sub (ws' := [(o5, .inr (5, [.ref o7, .ref a5_1, .int v5_2, .int v5_3, .int v5_4, .int v5_5, .int 1, .int v5_7, .int v5_8, .int v5_9])), (a5_1, .inl (cyI, 400, .inl g5_1))]) [0, 1] (by decide) rfl
      exact W.vret hx hb hr (fun t ht hW => ⟨⟨(), rfl, trivial, by rw [ht]; exact hP9, va_K.moved hW.alike hK, hD9⟩, hS.F ht⟩) hS.2.2 dX5_setLocal_32
    · replace hf := x_in c_48 hf
      refine lv_iload_n hx hb dX5_setLocal_19 rfl (lv_at hl 0 rfl) ?_
      refine lv_aload_n hx hb dX5_setLocal_20 rfl (lv_at hl 1 rfl) ?_
      refine va_get (D := (dC, dI)) (ci := 5) (v := .int v5_2) (C := RX5) (T := TX5) (N := 10) hx hb hts i_X5_setLocal_X5 hown hK hP 0 rfl rfl 2 (by decide) k_2 (fun _ h9 => h9) rfl dX5_setLocal_21 ?_
      refine lv_icmp_lt (tgt := 33) hx hb dX5_setLocal_24 (by decide) (fun c_49 => ?_) (fun c_49 => ?_)
      · replace hf := x_ip c_49 hf
        refine lv_iload_n hx hb dX5_setLocal_33 rfl (lv_at hl 2 rfl) ?_
        refine lv_if_le (tgt := 57) hx hb dX5_setLocal_34 (by decide) (fun c_50 => ?_) (fun c_50 => ?_)
        · replace hf := x_ip c_50 hf
          refine lv_iload_n hx hb dX5_setLocal_57 rfl (lv_at hl 0 rfl) ?_
          refine lv_iconst (v := 1) hx hb dX5_setLocal_58 (by decide) ?_
          refine lv_iadd hx hb dX5_setLocal_59 ?_
          refine lv_aload_n hx hb dX5_setLocal_60 rfl (lv_at hl 1 rfl) ?_
          refine va_get (D := (dC, dI)) (ci := 5) (v := .int v5_2) (C := RX5) (T := TX5) (N := 10) hx hb hts i_X5_setLocal_X5 hown hK hP 0 rfl rfl 2 (by decide) k_2 (fun _ h9 => h9) rfl dX5_setLocal_61 ?_
          refine lv_icmp_ge (tgt := 89) hx hb dX5_setLocal_64 (by decide) (fun c_51 => ?_) (fun c_51 => ?_)
          · replace hf := x_ip c_51 hf
            refine lv_aload_n hx hb dX5_setLocal_89 rfl (lv_at hl 1 rfl) ?_
            refine va_get (D := (dC, dI)) (ci := 5) (v := .ref a5_1) (C := RX5) (T := TX5) (N := 10) hx hb hts i_X5_setLocal_X5 hown hK hP 0 rfl rfl 1 (by decide) k_3 (fun _ h9 => h9) rfl dX5_setLocal_90 ?_
            refine lv_iload_n hx hb dX5_setLocal_93 rfl (lv_at hl 2 rfl) ?_
            refine lv_iload_n hx hb dX5_setLocal_94 rfl (lv_at hl 3 rfl) ?_
            obtain ⟨g_52, hf⟩ := x_gu hf
            refine va_iast hx hb hK hP hD hS 1 0 rfl rfl (x_gdin g_52) dX5_setLocal_95 (fun H locs hP hD hS => ?_)
            have hP : va_P (dC, dI) vwCl [(o5, .inr (5, [.ref o7, .ref a5_1, .int v5_2, .int v5_3, .int v5_4, .int v5_5, .int v5_6, .int v5_7, .int v5_8, .int v5_9])), (a5_1, .inl (cyI, 400, .inl (upd g5_1 (Int32.toNatClampNeg p1) p2)))] H := hP
            have hD : va_D A [(o5, .inr (5, [.ref o7, .ref a5_1, .int v5_2, .int v5_3, .int v5_4, .int v5_5, .int v5_6, .int v5_7, .int v5_8, .int v5_9])), (a5_1, .inl (cyI, 400, .inl (upd g5_1 (Int32.toNatClampNeg p1) p2)))] := hD
            refine lv_iload_n hx hb dX5_setLocal_96 rfl (lv_at hl 0 rfl) ?_
            refine lv_iload_n hx hb dX5_setLocal_97 rfl (lv_at hl 2 rfl) ?_
            refine lv_icmp_le (tgt := 109) hx hb dX5_setLocal_98 (by decide) (fun c_53 => ?_) (fun c_53 => ?_)
            · replace hf := x_ip c_53 hf
              refine lv_aload_n hx hb dX5_setLocal_109 rfl (lv_at hl 1 rfl) ?_
              refine lv_iconst (v := 1) hx hb dX5_setLocal_110 (by decide) ?_
              refine va_put (D := (dC, dI)) (ci := 5) (v := .int 1) (ty := .boolean) (C := RX5) (T := TX5) (N := 10) hx hb hts i_X5_setLocal_X5 tyX5 tyX5_ok nmX5 hown hK hP hD hS 0 rfl rfl 7 (by decide) k_4 (fun _ h9 => h9) rfl (by decide +kernel) rfl rfl (Nat.le_of_ble_eq_true rfl) dX5_setLocal_111 (fun H locs hP hD hS => ?_)
              have hP : va_P (dC, dI) vwCl [(o5, .inr (5, [.ref o7, .ref a5_1, .int v5_2, .int v5_3, .int v5_4, .int v5_5, .int v5_6, .int 1, .int v5_8, .int v5_9])), (a5_1, .inl (cyI, 400, .inl (upd g5_1 (Int32.toNatClampNeg p1) p2)))] H := hP
              have hD : va_D A [(o5, .inr (5, [.ref o7, .ref a5_1, .int v5_2, .int v5_3, .int v5_4, .int v5_5, .int v5_6, .int 1, .int v5_8, .int v5_9])), (a5_1, .inl (cyI, 400, .inl (upd g5_1 (Int32.toNatClampNeg p1) p2)))] := hD
              obtain rfl := Option.some.inj hf
              have hP9 := hP.sub (ws' := [(o5, .inr (5, [.ref o7, .ref a5_1, .int v5_2, .int v5_3, .int v5_4, .int v5_5, .int v5_6, .int 1, .int v5_8, .int v5_9])), (a5_1, .inl (cyI, 400, .inl (upd g5_1 (Int32.toNatClampNeg p1) p2)))]) [0, 1] rfl
              have hD9 := hD.sub (ws' := [(o5, .inr (5, [.ref o7, .ref a5_1, .int v5_2, .int v5_3, .int v5_4, .int v5_5, .int v5_6, .int 1, .int v5_8, .int v5_9])), (a5_1, .inl (cyI, 400, .inl (upd g5_1 (Int32.toNatClampNeg p1) p2)))]) [0, 1] (by decide) rfl
              exact W.vret hx hb hr (fun t ht hW => ⟨⟨(), rfl, trivial, by rw [ht]; exact hP9, va_K.moved hW.alike hK, hD9⟩, hS.F ht⟩) hS.2.2 dX5_setLocal_114
            · replace hf := x_in c_53 hf
              refine lv_aload_n hx hb dX5_setLocal_101 rfl (lv_at hl 1 rfl) ?_
              refine va_get (D := (dC, dI)) (ci := 5) (v := .ref a5_1) (C := RX5) (T := TX5) (N := 10) hx hb hts i_X5_setLocal_X5 hown hK hP 0 rfl rfl 1 (by decide) k_3 (fun _ h9 => h9) rfl dX5_setLocal_102 ?_
              refine lv_iload_n hx hb dX5_setLocal_105 rfl (lv_at hl 0 rfl) ?_
              refine lv_bipush (v := 7) hx hb dX5_setLocal_106 (by decide) ?_
              obtain ⟨g_54, hf⟩ := x_gu hf
              refine va_iast hx hb hK hP hD hS 1 0 rfl rfl (x_gdin g_54) dX5_setLocal_108 (fun H locs hP hD hS => ?_)
              have hP : va_P (dC, dI) vwCl [(o5, .inr (5, [.ref o7, .ref a5_1, .int v5_2, .int v5_3, .int v5_4, .int v5_5, .int v5_6, .int v5_7, .int v5_8, .int v5_9])), (a5_1, .inl (cyI, 400, .inl (upd (upd g5_1 (Int32.toNatClampNeg p1) p2) (Int32.toNatClampNeg (p1 + (1 : Int32))) 7)))] H := hP
              have hD : va_D A [(o5, .inr (5, [.ref o7, .ref a5_1, .int v5_2, .int v5_3, .int v5_4, .int v5_5, .int v5_6, .int v5_7, .int v5_8, .int v5_9])), (a5_1, .inl (cyI, 400, .inl (upd (upd g5_1 (Int32.toNatClampNeg p1) p2) (Int32.toNatClampNeg (p1 + (1 : Int32))) 7)))] := hD
              refine lv_aload_n hx hb dX5_setLocal_109 rfl (lv_at hl 1 rfl) ?_
              refine lv_iconst (v := 1) hx hb dX5_setLocal_110 (by decide) ?_
              refine va_put (D := (dC, dI)) (ci := 5) (v := .int 1) (ty := .boolean) (C := RX5) (T := TX5) (N := 10) hx hb hts i_X5_setLocal_X5 tyX5 tyX5_ok nmX5 hown hK hP hD hS 0 rfl rfl 7 (by decide) k_4 (fun _ h9 => h9) rfl (by decide +kernel) rfl rfl (Nat.le_of_ble_eq_true rfl) dX5_setLocal_111 (fun H locs hP hD hS => ?_)
              have hP : va_P (dC, dI) vwCl [(o5, .inr (5, [.ref o7, .ref a5_1, .int v5_2, .int v5_3, .int v5_4, .int v5_5, .int v5_6, .int 1, .int v5_8, .int v5_9])), (a5_1, .inl (cyI, 400, .inl (upd (upd g5_1 (Int32.toNatClampNeg p1) p2) (Int32.toNatClampNeg (p1 + (1 : Int32))) 7)))] H := hP
              have hD : va_D A [(o5, .inr (5, [.ref o7, .ref a5_1, .int v5_2, .int v5_3, .int v5_4, .int v5_5, .int v5_6, .int 1, .int v5_8, .int v5_9])), (a5_1, .inl (cyI, 400, .inl (upd (upd g5_1 (Int32.toNatClampNeg p1) p2) (Int32.toNatClampNeg (p1 + (1 : Int32))) 7)))] := hD
              obtain rfl := Option.some.inj hf
              have hP9 := hP.sub (ws' := [(o5, .inr (5, [.ref o7, .ref a5_1, .int v5_2, .int v5_3, .int v5_4, .int v5_5, .int v5_6, .int 1, .int v5_8, .int v5_9])), (a5_1, .inl (cyI, 400, .inl (upd (upd g5_1 (Int32.toNatClampNeg p1) p2) (Int32.toNatClampNeg (p1 + (1 : Int32))) 7)))]) [0, 1] rfl
              have hD9 := hD.sub (ws' := [(o5, .inr (5, [.ref o7, .ref a5_1, .int v5_2, .int v5_3, .int v5_4, .int v5_5, .int v5_6, .int 1, .int v5_8, .int v5_9])), (a5_1, .inl (cyI, 400, .inl (upd (upd g5_1 (Int32.toNatClampNeg p1) p2) (Int32.toNatClampNeg (p1 + (1 : Int32))) 7)))]) [0, 1] (by decide) rfl
              exact W.vret hx hb hr (fun t ht hW => ⟨⟨(), rfl, trivial, by rw [ht]; exact hP9, va_K.moved hW.alike hK, hD9⟩, hS.F ht⟩) hS.2.2 dX5_setLocal_114
          · replace hf := x_in c_51 hf
            refine lv_aload_n hx hb dX5_setLocal_67 rfl (lv_at hl 1 rfl) ?_
            refine va_get (D := (dC, dI)) (ci := 5) (v := .ref a5_1) (C := RX5) (T := TX5) (N := 10) hx hb hts i_X5_setLocal_X5 hown hK hP 0 rfl rfl 1 (by decide) k_3 (fun _ h9 => h9) rfl dX5_setLocal_68 ?_
            refine lv_iload_n hx hb dX5_setLocal_71 rfl (lv_at hl 0 rfl) ?_
            refine lv_iconst (v := 1) hx hb dX5_setLocal_72 (by decide) ?_
            refine lv_iadd hx hb dX5_setLocal_73 ?_
            obtain ⟨g_55, hf⟩ := x_gu hf
            refine va_iald hx hb hK hP 1 0 rfl rfl (x_gdin g_55) dX5_setLocal_74 ?_
            refine lv_bipush (v := 7) hx hb dX5_setLocal_75 (by decide) ?_
            refine lv_icmp_ne (tgt := 89) hx hb dX5_setLocal_77 (by decide) (fun c_56 => ?_) (fun c_56 => ?_)
            · replace hf := x_in c_56 hf
              refine lv_aload_n hx hb dX5_setLocal_89 rfl (lv_at hl 1 rfl) ?_
              refine va_get (D := (dC, dI)) (ci := 5) (v := .ref a5_1) (C := RX5) (T := TX5) (N := 10) hx hb hts i_X5_setLocal_X5 hown hK hP 0 rfl rfl 1 (by decide) k_3 (fun _ h9 => h9) rfl dX5_setLocal_90 ?_
              refine lv_iload_n hx hb dX5_setLocal_93 rfl (lv_at hl 2 rfl) ?_
              refine lv_iload_n hx hb dX5_setLocal_94 rfl (lv_at hl 3 rfl) ?_
              obtain ⟨g_57, hf⟩ := x_gu hf
              refine va_iast hx hb hK hP hD hS 1 0 rfl rfl (x_gdin g_57) dX5_setLocal_95 (fun H locs hP hD hS => ?_)
              have hP : va_P (dC, dI) vwCl [(o5, .inr (5, [.ref o7, .ref a5_1, .int v5_2, .int v5_3, .int v5_4, .int v5_5, .int v5_6, .int v5_7, .int v5_8, .int v5_9])), (a5_1, .inl (cyI, 400, .inl (upd g5_1 (Int32.toNatClampNeg p1) p2)))] H := hP
              have hD : va_D A [(o5, .inr (5, [.ref o7, .ref a5_1, .int v5_2, .int v5_3, .int v5_4, .int v5_5, .int v5_6, .int v5_7, .int v5_8, .int v5_9])), (a5_1, .inl (cyI, 400, .inl (upd g5_1 (Int32.toNatClampNeg p1) p2)))] := hD
              refine lv_iload_n hx hb dX5_setLocal_96 rfl (lv_at hl 0 rfl) ?_
              refine lv_iload_n hx hb dX5_setLocal_97 rfl (lv_at hl 2 rfl) ?_
              refine lv_icmp_le (tgt := 109) hx hb dX5_setLocal_98 (by decide) (fun c_58 => ?_) (fun c_58 => ?_)
              · replace hf := x_ip c_58 hf
                refine lv_aload_n hx hb dX5_setLocal_109 rfl (lv_at hl 1 rfl) ?_
                refine lv_iconst (v := 1) hx hb dX5_setLocal_110 (by decide) ?_
                refine va_put (D := (dC, dI)) (ci := 5) (v := .int 1) (ty := .boolean) (C := RX5) (T := TX5) (N := 10) hx hb hts i_X5_setLocal_X5 tyX5 tyX5_ok nmX5 hown hK hP hD hS 0 rfl rfl 7 (by decide) k_4 (fun _ h9 => h9) rfl (by decide +kernel) rfl rfl (Nat.le_of_ble_eq_true rfl) dX5_setLocal_111 (fun H locs hP hD hS => ?_)
                have hP : va_P (dC, dI) vwCl [(o5, .inr (5, [.ref o7, .ref a5_1, .int v5_2, .int v5_3, .int v5_4, .int v5_5, .int v5_6, .int 1, .int v5_8, .int v5_9])), (a5_1, .inl (cyI, 400, .inl (upd g5_1 (Int32.toNatClampNeg p1) p2)))] H := hP
                have hD : va_D A [(o5, .inr (5, [.ref o7, .ref a5_1, .int v5_2, .int v5_3, .int v5_4, .int v5_5, .int v5_6, .int 1, .int v5_8, .int v5_9])), (a5_1, .inl (cyI, 400, .inl (upd g5_1 (Int32.toNatClampNeg p1) p2)))] := hD
                obtain rfl := Option.some.inj hf
                have hP9 := hP.sub (ws' := [(o5, .inr (5, [.ref o7, .ref a5_1, .int v5_2, .int v5_3, .int v5_4, .int v5_5, .int v5_6, .int 1, .int v5_8, .int v5_9])), (a5_1, .inl (cyI, 400, .inl (upd g5_1 (Int32.toNatClampNeg p1) p2)))]) [0, 1] rfl
                have hD9 := hD.sub (ws' := [(o5, .inr (5, [.ref o7, .ref a5_1, .int v5_2, .int v5_3, .int v5_4, .int v5_5, .int v5_6, .int 1, .int v5_8, .int v5_9])), (a5_1, .inl (cyI, 400, .inl (upd g5_1 (Int32.toNatClampNeg p1) p2)))]) [0, 1] (by decide) rfl
                exact W.vret hx hb hr (fun t ht hW => ⟨⟨(), rfl, trivial, by rw [ht]; exact hP9, va_K.moved hW.alike hK, hD9⟩, hS.F ht⟩) hS.2.2 dX5_setLocal_114
              · replace hf := x_in c_58 hf
                refine lv_aload_n hx hb dX5_setLocal_101 rfl (lv_at hl 1 rfl) ?_
                refine va_get (D := (dC, dI)) (ci := 5) (v := .ref a5_1) (C := RX5) (T := TX5) (N := 10) hx hb hts i_X5_setLocal_X5 hown hK hP 0 rfl rfl 1 (by decide) k_3 (fun _ h9 => h9) rfl dX5_setLocal_102 ?_
                refine lv_iload_n hx hb dX5_setLocal_105 rfl (lv_at hl 0 rfl) ?_
                refine lv_bipush (v := 7) hx hb dX5_setLocal_106 (by decide) ?_
                obtain ⟨g_59, hf⟩ := x_gu hf
                refine va_iast hx hb hK hP hD hS 1 0 rfl rfl (x_gdin g_59) dX5_setLocal_108 (fun H locs hP hD hS => ?_)
                have hP : va_P (dC, dI) vwCl [(o5, .inr (5, [.ref o7, .ref a5_1, .int v5_2, .int v5_3, .int v5_4, .int v5_5, .int v5_6, .int v5_7, .int v5_8, .int v5_9])), (a5_1, .inl (cyI, 400, .inl (upd (upd g5_1 (Int32.toNatClampNeg p1) p2) (Int32.toNatClampNeg (p1 + (1 : Int32))) 7)))] H := hP
                have hD : va_D A [(o5, .inr (5, [.ref o7, .ref a5_1, .int v5_2, .int v5_3, .int v5_4, .int v5_5, .int v5_6, .int v5_7, .int v5_8, .int v5_9])), (a5_1, .inl (cyI, 400, .inl (upd (upd g5_1 (Int32.toNatClampNeg p1) p2) (Int32.toNatClampNeg (p1 + (1 : Int32))) 7)))] := hD
                refine lv_aload_n hx hb dX5_setLocal_109 rfl (lv_at hl 1 rfl) ?_
                refine lv_iconst (v := 1) hx hb dX5_setLocal_110 (by decide) ?_
                refine va_put (D := (dC, dI)) (ci := 5) (v := .int 1) (ty := .boolean) (C := RX5) (T := TX5) (N := 10) hx hb hts i_X5_setLocal_X5 tyX5 tyX5_ok nmX5 hown hK hP hD hS 0 rfl rfl 7 (by decide) k_4 (fun _ h9 => h9) rfl (by decide +kernel) rfl rfl (Nat.le_of_ble_eq_true rfl) dX5_setLocal_111 (fun H locs hP hD hS => ?_)
                have hP : va_P (dC, dI) vwCl [(o5, .inr (5, [.ref o7, .ref a5_1, .int v5_2, .int v5_3, .int v5_4, .int v5_5, .int v5_6, .int 1, .int v5_8, .int v5_9])), (a5_1, .inl (cyI, 400, .inl (upd (upd g5_1 (Int32.toNatClampNeg p1) p2) (Int32.toNatClampNeg (p1 + (1 : Int32))) 7)))] H := hP
                have hD : va_D A [(o5, .inr (5, [.ref o7, .ref a5_1, .int v5_2, .int v5_3, .int v5_4, .int v5_5, .int v5_6, .int 1, .int v5_8, .int v5_9])), (a5_1, .inl (cyI, 400, .inl (upd (upd g5_1 (Int32.toNatClampNeg p1) p2) (Int32.toNatClampNeg (p1 + (1 : Int32))) 7)))] := hD
                obtain rfl := Option.some.inj hf
                have hP9 := hP.sub (ws' := [(o5, .inr (5, [.ref o7, .ref a5_1, .int v5_2, .int v5_3, .int v5_4, .int v5_5, .int v5_6, .int 1, .int v5_8, .int v5_9])), (a5_1, .inl (cyI, 400, .inl (upd (upd g5_1 (Int32.toNatClampNeg p1) p2) (Int32.toNatClampNeg (p1 + (1 : Int32))) 7)))]) [0, 1] rfl
                have hD9 := hD.sub (ws' := [(o5, .inr (5, [.ref o7, .ref a5_1, .int v5_2, .int v5_3, .int v5_4, .int v5_5, .int v5_6, .int 1, .int v5_8, .int v5_9])), (a5_1, .inl (cyI, 400, .inl (upd (upd g5_1 (Int32.toNatClampNeg p1) p2) (Int32.toNatClampNeg (p1 + (1 : Int32))) 7)))]) [0, 1] (by decide) rfl
                exact W.vret hx hb hr (fun t ht hW => ⟨⟨(), rfl, trivial, by rw [ht]; exact hP9, va_K.moved hW.alike hK, hD9⟩, hS.F ht⟩) hS.2.2 dX5_setLocal_114
            · replace hf := x_ip c_56 hf
              refine lv_aload_n hx hb dX5_setLocal_80 rfl (lv_at hl 1 rfl) ?_
              refine va_get (D := (dC, dI)) (ci := 5) (v := .ref a5_1) (C := RX5) (T := TX5) (N := 10) hx hb hts i_X5_setLocal_X5 hown hK hP 0 rfl rfl 1 (by decide) k_3 (fun _ h9 => h9) rfl dX5_setLocal_81 ?_
              refine lv_iload_n hx hb dX5_setLocal_84 rfl (lv_at hl 0 rfl) ?_
              refine lv_iconst (v := 1) hx hb dX5_setLocal_85 (by decide) ?_
              refine lv_iadd hx hb dX5_setLocal_86 ?_
              refine lv_iconst (v := 0) hx hb dX5_setLocal_87 (by decide) ?_
              obtain ⟨g_60, hf⟩ := x_gu hf
              refine va_iast hx hb hK hP hD hS 1 0 rfl rfl (x_gdin g_60) dX5_setLocal_88 (fun H locs hP hD hS => ?_)
              have hP : va_P (dC, dI) vwCl [(o5, .inr (5, [.ref o7, .ref a5_1, .int v5_2, .int v5_3, .int v5_4, .int v5_5, .int v5_6, .int v5_7, .int v5_8, .int v5_9])), (a5_1, .inl (cyI, 400, .inl (upd g5_1 (Int32.toNatClampNeg ((p1 + (1 : Int32)) + (1 : Int32))) 0)))] H := hP
              have hD : va_D A [(o5, .inr (5, [.ref o7, .ref a5_1, .int v5_2, .int v5_3, .int v5_4, .int v5_5, .int v5_6, .int v5_7, .int v5_8, .int v5_9])), (a5_1, .inl (cyI, 400, .inl (upd g5_1 (Int32.toNatClampNeg ((p1 + (1 : Int32)) + (1 : Int32))) 0)))] := hD
              refine lv_aload_n hx hb dX5_setLocal_89 rfl (lv_at hl 1 rfl) ?_
              refine va_get (D := (dC, dI)) (ci := 5) (v := .ref a5_1) (C := RX5) (T := TX5) (N := 10) hx hb hts i_X5_setLocal_X5 hown hK hP 0 rfl rfl 1 (by decide) k_3 (fun _ h9 => h9) rfl dX5_setLocal_90 ?_
              refine lv_iload_n hx hb dX5_setLocal_93 rfl (lv_at hl 2 rfl) ?_
              refine lv_iload_n hx hb dX5_setLocal_94 rfl (lv_at hl 3 rfl) ?_
              obtain ⟨g_61, hf⟩ := x_gu hf
              refine va_iast hx hb hK hP hD hS 1 0 rfl rfl (x_gdin g_61) dX5_setLocal_95 (fun H locs hP hD hS => ?_)
              have hP : va_P (dC, dI) vwCl [(o5, .inr (5, [.ref o7, .ref a5_1, .int v5_2, .int v5_3, .int v5_4, .int v5_5, .int v5_6, .int v5_7, .int v5_8, .int v5_9])), (a5_1, .inl (cyI, 400, .inl (upd (upd g5_1 (Int32.toNatClampNeg ((p1 + (1 : Int32)) + (1 : Int32))) 0) (Int32.toNatClampNeg p1) p2)))] H := hP
              have hD : va_D A [(o5, .inr (5, [.ref o7, .ref a5_1, .int v5_2, .int v5_3, .int v5_4, .int v5_5, .int v5_6, .int v5_7, .int v5_8, .int v5_9])), (a5_1, .inl (cyI, 400, .inl (upd (upd g5_1 (Int32.toNatClampNeg ((p1 + (1 : Int32)) + (1 : Int32))) 0) (Int32.toNatClampNeg p1) p2)))] := hD
              refine lv_iload_n hx hb dX5_setLocal_96 rfl (lv_at hl 0 rfl) ?_
              refine lv_iload_n hx hb dX5_setLocal_97 rfl (lv_at hl 2 rfl) ?_
              refine lv_icmp_le (tgt := 109) hx hb dX5_setLocal_98 (by decide) (fun c_62 => ?_) (fun c_62 => ?_)
              · replace hf := x_ip c_62 hf
                refine lv_aload_n hx hb dX5_setLocal_109 rfl (lv_at hl 1 rfl) ?_
                refine lv_iconst (v := 1) hx hb dX5_setLocal_110 (by decide) ?_
                refine va_put (D := (dC, dI)) (ci := 5) (v := .int 1) (ty := .boolean) (C := RX5) (T := TX5) (N := 10) hx hb hts i_X5_setLocal_X5 tyX5 tyX5_ok nmX5 hown hK hP hD hS 0 rfl rfl 7 (by decide) k_4 (fun _ h9 => h9) rfl (by decide +kernel) rfl rfl (Nat.le_of_ble_eq_true rfl) dX5_setLocal_111 (fun H locs hP hD hS => ?_)
                have hP : va_P (dC, dI) vwCl [(o5, .inr (5, [.ref o7, .ref a5_1, .int v5_2, .int v5_3, .int v5_4, .int v5_5, .int v5_6, .int 1, .int v5_8, .int v5_9])), (a5_1, .inl (cyI, 400, .inl (upd (upd g5_1 (Int32.toNatClampNeg ((p1 + (1 : Int32)) + (1 : Int32))) 0) (Int32.toNatClampNeg p1) p2)))] H := hP
                have hD : va_D A [(o5, .inr (5, [.ref o7, .ref a5_1, .int v5_2, .int v5_3, .int v5_4, .int v5_5, .int v5_6, .int 1, .int v5_8, .int v5_9])), (a5_1, .inl (cyI, 400, .inl (upd (upd g5_1 (Int32.toNatClampNeg ((p1 + (1 : Int32)) + (1 : Int32))) 0) (Int32.toNatClampNeg p1) p2)))] := hD
                obtain rfl := Option.some.inj hf
                have hP9 := hP.sub (ws' := [(o5, .inr (5, [.ref o7, .ref a5_1, .int v5_2, .int v5_3, .int v5_4, .int v5_5, .int v5_6, .int 1, .int v5_8, .int v5_9])), (a5_1, .inl (cyI, 400, .inl (upd (upd g5_1 (Int32.toNatClampNeg ((p1 + (1 : Int32)) + (1 : Int32))) 0) (Int32.toNatClampNeg p1) p2)))]) [0, 1] rfl
                have hD9 := hD.sub (ws' := [(o5, .inr (5, [.ref o7, .ref a5_1, .int v5_2, .int v5_3, .int v5_4, .int v5_5, .int v5_6, .int 1, .int v5_8, .int v5_9])), (a5_1, .inl (cyI, 400, .inl (upd (upd g5_1 (Int32.toNatClampNeg ((p1 + (1 : Int32)) + (1 : Int32))) 0) (Int32.toNatClampNeg p1) p2)))]) [0, 1] (by decide) rfl
                exact W.vret hx hb hr (fun t ht hW => ⟨⟨(), rfl, trivial, by rw [ht]; exact hP9, va_K.moved hW.alike hK, hD9⟩, hS.F ht⟩) hS.2.2 dX5_setLocal_114
              · replace hf := x_in c_62 hf
                refine lv_aload_n hx hb dX5_setLocal_101 rfl (lv_at hl 1 rfl) ?_
                refine va_get (D := (dC, dI)) (ci := 5) (v := .ref a5_1) (C := RX5) (T := TX5) (N := 10) hx hb hts i_X5_setLocal_X5 hown hK hP 0 rfl rfl 1 (by decide) k_3 (fun _ h9 => h9) rfl dX5_setLocal_102 ?_
                refine lv_iload_n hx hb dX5_setLocal_105 rfl (lv_at hl 0 rfl) ?_
                refine lv_bipush (v := 7) hx hb dX5_setLocal_106 (by decide) ?_
                obtain ⟨g_63, hf⟩ := x_gu hf
                refine va_iast hx hb hK hP hD hS 1 0 rfl rfl (x_gdin g_63) dX5_setLocal_108 (fun H locs hP hD hS => ?_)
                have hP : va_P (dC, dI) vwCl [(o5, .inr (5, [.ref o7, .ref a5_1, .int v5_2, .int v5_3, .int v5_4, .int v5_5, .int v5_6, .int v5_7, .int v5_8, .int v5_9])), (a5_1, .inl (cyI, 400, .inl (upd (upd (upd g5_1 (Int32.toNatClampNeg ((p1 + (1 : Int32)) + (1 : Int32))) 0) (Int32.toNatClampNeg p1) p2) (Int32.toNatClampNeg (p1 + (1 : Int32))) 7)))] H := hP
                have hD : va_D A [(o5, .inr (5, [.ref o7, .ref a5_1, .int v5_2, .int v5_3, .int v5_4, .int v5_5, .int v5_6, .int v5_7, .int v5_8, .int v5_9])), (a5_1, .inl (cyI, 400, .inl (upd (upd (upd g5_1 (Int32.toNatClampNeg ((p1 + (1 : Int32)) + (1 : Int32))) 0) (Int32.toNatClampNeg p1) p2) (Int32.toNatClampNeg (p1 + (1 : Int32))) 7)))] := hD
                refine lv_aload_n hx hb dX5_setLocal_109 rfl (lv_at hl 1 rfl) ?_
                refine lv_iconst (v := 1) hx hb dX5_setLocal_110 (by decide) ?_
                refine va_put (D := (dC, dI)) (ci := 5) (v := .int 1) (ty := .boolean) (C := RX5) (T := TX5) (N := 10) hx hb hts i_X5_setLocal_X5 tyX5 tyX5_ok nmX5 hown hK hP hD hS 0 rfl rfl 7 (by decide) k_4 (fun _ h9 => h9) rfl (by decide +kernel) rfl rfl (Nat.le_of_ble_eq_true rfl) dX5_setLocal_111 (fun H locs hP hD hS => ?_)
                have hP : va_P (dC, dI) vwCl [(o5, .inr (5, [.ref o7, .ref a5_1, .int v5_2, .int v5_3, .int v5_4, .int v5_5, .int v5_6, .int 1, .int v5_8, .int v5_9])), (a5_1, .inl (cyI, 400, .inl (upd (upd (upd g5_1 (Int32.toNatClampNeg ((p1 + (1 : Int32)) + (1 : Int32))) 0) (Int32.toNatClampNeg p1) p2) (Int32.toNatClampNeg (p1 + (1 : Int32))) 7)))] H := hP
                have hD : va_D A [(o5, .inr (5, [.ref o7, .ref a5_1, .int v5_2, .int v5_3, .int v5_4, .int v5_5, .int v5_6, .int 1, .int v5_8, .int v5_9])), (a5_1, .inl (cyI, 400, .inl (upd (upd (upd g5_1 (Int32.toNatClampNeg ((p1 + (1 : Int32)) + (1 : Int32))) 0) (Int32.toNatClampNeg p1) p2) (Int32.toNatClampNeg (p1 + (1 : Int32))) 7)))] := hD
                obtain rfl := Option.some.inj hf
                have hP9 := hP.sub (ws' := [(o5, .inr (5, [.ref o7, .ref a5_1, .int v5_2, .int v5_3, .int v5_4, .int v5_5, .int v5_6, .int 1, .int v5_8, .int v5_9])), (a5_1, .inl (cyI, 400, .inl (upd (upd (upd g5_1 (Int32.toNatClampNeg ((p1 + (1 : Int32)) + (1 : Int32))) 0) (Int32.toNatClampNeg p1) p2) (Int32.toNatClampNeg (p1 + (1 : Int32))) 7)))]) [0, 1] rfl
                have hD9 := hD.sub (ws' := [(o5, .inr (5, [.ref o7, .ref a5_1, .int v5_2, .int v5_3, .int v5_4, .int v5_5, .int v5_6, .int 1, .int v5_8, .int v5_9])), (a5_1, .inl (cyI, 400, .inl (upd (upd (upd g5_1 (Int32.toNatClampNeg ((p1 + (1 : Int32)) + (1 : Int32))) 0) (Int32.toNatClampNeg p1) p2) (Int32.toNatClampNeg (p1 + (1 : Int32))) 7)))]) [0, 1] (by decide) rfl
                exact W.vret hx hb hr (fun t ht hW => ⟨⟨(), rfl, trivial, by rw [ht]; exact hP9, va_K.moved hW.alike hK, hD9⟩, hS.F ht⟩) hS.2.2 dX5_setLocal_114
        · replace hf := x_in c_50 hf
          refine lv_aload_n hx hb dX5_setLocal_37 rfl (lv_at hl 1 rfl) ?_
          refine va_get (D := (dC, dI)) (ci := 5) (v := .ref a5_1) (C := RX5) (T := TX5) (N := 10) hx hb hts i_X5_setLocal_X5 hown hK hP 0 rfl rfl 1 (by decide) k_3 (fun _ h9 => h9) rfl dX5_setLocal_38 ?_
          refine lv_iload_n hx hb dX5_setLocal_41 rfl (lv_at hl 2 rfl) ?_
          obtain ⟨g_64, hf⟩ := x_gu hf
          refine va_iald hx hb hK hP 1 0 rfl rfl (x_gdin g_64) dX5_setLocal_42 ?_
          refine lv_bipush (v := 7) hx hb dX5_setLocal_43 (by decide) ?_
          refine lv_icmp_ne (tgt := 57) hx hb dX5_setLocal_45 (by decide) (fun c_65 => ?_) (fun c_65 => ?_)
          · replace hf := x_in c_65 hf
            refine lv_iload_n hx hb dX5_setLocal_57 rfl (lv_at hl 0 rfl) ?_
            refine lv_iconst (v := 1) hx hb dX5_setLocal_58 (by decide) ?_
            refine lv_iadd hx hb dX5_setLocal_59 ?_
            refine lv_aload_n hx hb dX5_setLocal_60 rfl (lv_at hl 1 rfl) ?_
            refine va_get (D := (dC, dI)) (ci := 5) (v := .int v5_2) (C := RX5) (T := TX5) (N := 10) hx hb hts i_X5_setLocal_X5 hown hK hP 0 rfl rfl 2 (by decide) k_2 (fun _ h9 => h9) rfl dX5_setLocal_61 ?_
            refine lv_icmp_ge (tgt := 89) hx hb dX5_setLocal_64 (by decide) (fun c_66 => ?_) (fun c_66 => ?_)
            · replace hf := x_ip c_66 hf
              refine lv_aload_n hx hb dX5_setLocal_89 rfl (lv_at hl 1 rfl) ?_
              refine va_get (D := (dC, dI)) (ci := 5) (v := .ref a5_1) (C := RX5) (T := TX5) (N := 10) hx hb hts i_X5_setLocal_X5 hown hK hP 0 rfl rfl 1 (by decide) k_3 (fun _ h9 => h9) rfl dX5_setLocal_90 ?_
              refine lv_iload_n hx hb dX5_setLocal_93 rfl (lv_at hl 2 rfl) ?_
              refine lv_iload_n hx hb dX5_setLocal_94 rfl (lv_at hl 3 rfl) ?_
              obtain ⟨g_67, hf⟩ := x_gu hf
              refine va_iast hx hb hK hP hD hS 1 0 rfl rfl (x_gdin g_67) dX5_setLocal_95 (fun H locs hP hD hS => ?_)
              have hP : va_P (dC, dI) vwCl [(o5, .inr (5, [.ref o7, .ref a5_1, .int v5_2, .int v5_3, .int v5_4, .int v5_5, .int v5_6, .int v5_7, .int v5_8, .int v5_9])), (a5_1, .inl (cyI, 400, .inl (upd g5_1 (Int32.toNatClampNeg p1) p2)))] H := hP
              have hD : va_D A [(o5, .inr (5, [.ref o7, .ref a5_1, .int v5_2, .int v5_3, .int v5_4, .int v5_5, .int v5_6, .int v5_7, .int v5_8, .int v5_9])), (a5_1, .inl (cyI, 400, .inl (upd g5_1 (Int32.toNatClampNeg p1) p2)))] := hD
              refine lv_iload_n hx hb dX5_setLocal_96 rfl (lv_at hl 0 rfl) ?_
              refine lv_iload_n hx hb dX5_setLocal_97 rfl (lv_at hl 2 rfl) ?_
              refine lv_icmp_le (tgt := 109) hx hb dX5_setLocal_98 (by decide) (fun c_68 => ?_) (fun c_68 => ?_)
              · replace hf := x_ip c_68 hf
                refine lv_aload_n hx hb dX5_setLocal_109 rfl (lv_at hl 1 rfl) ?_
                refine lv_iconst (v := 1) hx hb dX5_setLocal_110 (by decide) ?_
                refine va_put (D := (dC, dI)) (ci := 5) (v := .int 1) (ty := .boolean) (C := RX5) (T := TX5) (N := 10) hx hb hts i_X5_setLocal_X5 tyX5 tyX5_ok nmX5 hown hK hP hD hS 0 rfl rfl 7 (by decide) k_4 (fun _ h9 => h9) rfl (by decide +kernel) rfl rfl (Nat.le_of_ble_eq_true rfl) dX5_setLocal_111 (fun H locs hP hD hS => ?_)
                have hP : va_P (dC, dI) vwCl [(o5, .inr (5, [.ref o7, .ref a5_1, .int v5_2, .int v5_3, .int v5_4, .int v5_5, .int v5_6, .int 1, .int v5_8, .int v5_9])), (a5_1, .inl (cyI, 400, .inl (upd g5_1 (Int32.toNatClampNeg p1) p2)))] H := hP
                have hD : va_D A [(o5, .inr (5, [.ref o7, .ref a5_1, .int v5_2, .int v5_3, .int v5_4, .int v5_5, .int v5_6, .int 1, .int v5_8, .int v5_9])), (a5_1, .inl (cyI, 400, .inl (upd g5_1 (Int32.toNatClampNeg p1) p2)))] := hD
                obtain rfl := Option.some.inj hf
                have hP9 := hP.sub (ws' := [(o5, .inr (5, [.ref o7, .ref a5_1, .int v5_2, .int v5_3, .int v5_4, .int v5_5, .int v5_6, .int 1, .int v5_8, .int v5_9])), (a5_1, .inl (cyI, 400, .inl (upd g5_1 (Int32.toNatClampNeg p1) p2)))]) [0, 1] rfl
                have hD9 := hD.sub (ws' := [(o5, .inr (5, [.ref o7, .ref a5_1, .int v5_2, .int v5_3, .int v5_4, .int v5_5, .int v5_6, .int 1, .int v5_8, .int v5_9])), (a5_1, .inl (cyI, 400, .inl (upd g5_1 (Int32.toNatClampNeg p1) p2)))]) [0, 1] (by decide) rfl
                exact W.vret hx hb hr (fun t ht hW => ⟨⟨(), rfl, trivial, by rw [ht]; exact hP9, va_K.moved hW.alike hK, hD9⟩, hS.F ht⟩) hS.2.2 dX5_setLocal_114
              · replace hf := x_in c_68 hf
                refine lv_aload_n hx hb dX5_setLocal_101 rfl (lv_at hl 1 rfl) ?_
                refine va_get (D := (dC, dI)) (ci := 5) (v := .ref a5_1) (C := RX5) (T := TX5) (N := 10) hx hb hts i_X5_setLocal_X5 hown hK hP 0 rfl rfl 1 (by decide) k_3 (fun _ h9 => h9) rfl dX5_setLocal_102 ?_
                refine lv_iload_n hx hb dX5_setLocal_105 rfl (lv_at hl 0 rfl) ?_
                refine lv_bipush (v := 7) hx hb dX5_setLocal_106 (by decide) ?_
                obtain ⟨g_69, hf⟩ := x_gu hf
                refine va_iast hx hb hK hP hD hS 1 0 rfl rfl (x_gdin g_69) dX5_setLocal_108 (fun H locs hP hD hS => ?_)
                have hP : va_P (dC, dI) vwCl [(o5, .inr (5, [.ref o7, .ref a5_1, .int v5_2, .int v5_3, .int v5_4, .int v5_5, .int v5_6, .int v5_7, .int v5_8, .int v5_9])), (a5_1, .inl (cyI, 400, .inl (upd (upd g5_1 (Int32.toNatClampNeg p1) p2) (Int32.toNatClampNeg (p1 + (1 : Int32))) 7)))] H := hP
                have hD : va_D A [(o5, .inr (5, [.ref o7, .ref a5_1, .int v5_2, .int v5_3, .int v5_4, .int v5_5, .int v5_6, .int v5_7, .int v5_8, .int v5_9])), (a5_1, .inl (cyI, 400, .inl (upd (upd g5_1 (Int32.toNatClampNeg p1) p2) (Int32.toNatClampNeg (p1 + (1 : Int32))) 7)))] := hD
                refine lv_aload_n hx hb dX5_setLocal_109 rfl (lv_at hl 1 rfl) ?_
                refine lv_iconst (v := 1) hx hb dX5_setLocal_110 (by decide) ?_
                refine va_put (D := (dC, dI)) (ci := 5) (v := .int 1) (ty := .boolean) (C := RX5) (T := TX5) (N := 10) hx hb hts i_X5_setLocal_X5 tyX5 tyX5_ok nmX5 hown hK hP hD hS 0 rfl rfl 7 (by decide) k_4 (fun _ h9 => h9) rfl (by decide +kernel) rfl rfl (Nat.le_of_ble_eq_true rfl) dX5_setLocal_111 (fun H locs hP hD hS => ?_)
                have hP : va_P (dC, dI) vwCl [(o5, .inr (5, [.ref o7, .ref a5_1, .int v5_2, .int v5_3, .int v5_4, .int v5_5, .int v5_6, .int 1, .int v5_8, .int v5_9])), (a5_1, .inl (cyI, 400, .inl (upd (upd g5_1 (Int32.toNatClampNeg p1) p2) (Int32.toNatClampNeg (p1 + (1 : Int32))) 7)))] H := hP
                have hD : va_D A [(o5, .inr (5, [.ref o7, .ref a5_1, .int v5_2, .int v5_3, .int v5_4, .int v5_5, .int v5_6, .int 1, .int v5_8, .int v5_9])), (a5_1, .inl (cyI, 400, .inl (upd (upd g5_1 (Int32.toNatClampNeg p1) p2) (Int32.toNatClampNeg (p1 + (1 : Int32))) 7)))] := hD
                obtain rfl := Option.some.inj hf
                have hP9 := hP.sub (ws' := [(o5, .inr (5, [.ref o7, .ref a5_1, .int v5_2, .int v5_3, .int v5_4, .int v5_5, .int v5_6, .int 1, .int v5_8, .int v5_9])), (a5_1, .inl (cyI, 400, .inl (upd (upd g5_1 (Int32.toNatClampNeg p1) p2) (Int32.toNatClampNeg (p1 + (1 : Int32))) 7)))]) [0, 1] rfl
                have hD9 := hD.sub (ws' := [(o5, .inr (5, [.ref o7, .ref a5_1, .int v5_2, .int v5_3, .int v5_4, .int v5_5, .int v5_6, .int 1, .int v5_8, .int v5_9])), (a5_1, .inl (cyI, 400, .inl (upd (upd g5_1 (Int32.toNatClampNeg p1) p2) (Int32.toNatClampNeg (p1 + (1 : Int32))) 7)))]) [0, 1] (by decide) rfl
                exact W.vret hx hb hr (fun t ht hW => ⟨⟨(), rfl, trivial, by rw [ht]; exact hP9, va_K.moved hW.alike hK, hD9⟩, hS.F ht⟩) hS.2.2 dX5_setLocal_114
            · replace hf := x_in c_66 hf
              refine lv_aload_n hx hb dX5_setLocal_67 rfl (lv_at hl 1 rfl) ?_
              refine va_get (D := (dC, dI)) (ci := 5) (v := .ref a5_1) (C := RX5) (T := TX5) (N := 10) hx hb hts i_X5_setLocal_X5 hown hK hP 0 rfl rfl 1 (by decide) k_3 (fun _ h9 => h9) rfl dX5_setLocal_68 ?_
              refine lv_iload_n hx hb dX5_setLocal_71 rfl (lv_at hl 0 rfl) ?_
              refine lv_iconst (v := 1) hx hb dX5_setLocal_72 (by decide) ?_
              refine lv_iadd hx hb dX5_setLocal_73 ?_
              obtain ⟨g_70, hf⟩ := x_gu hf
              refine va_iald hx hb hK hP 1 0 rfl rfl (x_gdin g_70) dX5_setLocal_74 ?_
              refine lv_bipush (v := 7) hx hb dX5_setLocal_75 (by decide) ?_
              refine lv_icmp_ne (tgt := 89) hx hb dX5_setLocal_77 (by decide) (fun c_71 => ?_) (fun c_71 => ?_)
              · replace hf := x_in c_71 hf
                refine lv_aload_n hx hb dX5_setLocal_89 rfl (lv_at hl 1 rfl) ?_
                refine va_get (D := (dC, dI)) (ci := 5) (v := .ref a5_1) (C := RX5) (T := TX5) (N := 10) hx hb hts i_X5_setLocal_X5 hown hK hP 0 rfl rfl 1 (by decide) k_3 (fun _ h9 => h9) rfl dX5_setLocal_90 ?_
                refine lv_iload_n hx hb dX5_setLocal_93 rfl (lv_at hl 2 rfl) ?_
                refine lv_iload_n hx hb dX5_setLocal_94 rfl (lv_at hl 3 rfl) ?_
                obtain ⟨g_72, hf⟩ := x_gu hf
                refine va_iast hx hb hK hP hD hS 1 0 rfl rfl (x_gdin g_72) dX5_setLocal_95 (fun H locs hP hD hS => ?_)
                have hP : va_P (dC, dI) vwCl [(o5, .inr (5, [.ref o7, .ref a5_1, .int v5_2, .int v5_3, .int v5_4, .int v5_5, .int v5_6, .int v5_7, .int v5_8, .int v5_9])), (a5_1, .inl (cyI, 400, .inl (upd g5_1 (Int32.toNatClampNeg p1) p2)))] H := hP
                have hD : va_D A [(o5, .inr (5, [.ref o7, .ref a5_1, .int v5_2, .int v5_3, .int v5_4, .int v5_5, .int v5_6, .int v5_7, .int v5_8, .int v5_9])), (a5_1, .inl (cyI, 400, .inl (upd g5_1 (Int32.toNatClampNeg p1) p2)))] := hD
                refine lv_iload_n hx hb dX5_setLocal_96 rfl (lv_at hl 0 rfl) ?_
                refine lv_iload_n hx hb dX5_setLocal_97 rfl (lv_at hl 2 rfl) ?_
                refine lv_icmp_le (tgt := 109) hx hb dX5_setLocal_98 (by decide) (fun c_73 => ?_) (fun c_73 => ?_)
                · replace hf := x_ip c_73 hf
                  refine lv_aload_n hx hb dX5_setLocal_109 rfl (lv_at hl 1 rfl) ?_
                  refine lv_iconst (v := 1) hx hb dX5_setLocal_110 (by decide) ?_
                  refine va_put (D := (dC, dI)) (ci := 5) (v := .int 1) (ty := .boolean) (C := RX5) (T := TX5) (N := 10) hx hb hts i_X5_setLocal_X5 tyX5 tyX5_ok nmX5 hown hK hP hD hS 0 rfl rfl 7 (by decide) k_4 (fun _ h9 => h9) rfl (by decide +kernel) rfl rfl (Nat.le_of_ble_eq_true rfl) dX5_setLocal_111 (fun H locs hP hD hS => ?_)
                  have hP : va_P (dC, dI) vwCl [(o5, .inr (5, [.ref o7, .ref a5_1, .int v5_2, .int v5_3, .int v5_4, .int v5_5, .int v5_6, .int 1, .int v5_8, .int v5_9])), (a5_1, .inl (cyI, 400, .inl (upd g5_1 (Int32.toNatClampNeg p1) p2)))] H := hP
                  have hD : va_D A [(o5, .inr (5, [.ref o7, .ref a5_1, .int v5_2, .int v5_3, .int v5_4, .int v5_5, .int v5_6, .int 1, .int v5_8, .int v5_9])), (a5_1, .inl (cyI, 400, .inl (upd g5_1 (Int32.toNatClampNeg p1) p2)))] := hD
                  obtain rfl := Option.some.inj hf
                  have hP9 := hP.sub (ws' := [(o5, .inr (5, [.ref o7, .ref a5_1, .int v5_2, .int v5_3, .int v5_4, .int v5_5, .int v5_6, .int 1, .int v5_8, .int v5_9])), (a5_1, .inl (cyI, 400, .inl (upd g5_1 (Int32.toNatClampNeg p1) p2)))]) [0, 1] rfl
                  have hD9 := hD.sub (ws' := [(o5, .inr (5, [.ref o7, .ref a5_1, .int v5_2, .int v5_3, .int v5_4, .int v5_5, .int v5_6, .int 1, .int v5_8, .int v5_9])), (a5_1, .inl (cyI, 400, .inl (upd g5_1 (Int32.toNatClampNeg p1) p2)))]) [0, 1] (by decide) rfl
                  exact W.vret hx hb hr (fun t ht hW => ⟨⟨(), rfl, trivial, by rw [ht]; exact hP9, va_K.moved hW.alike hK, hD9⟩, hS.F ht⟩) hS.2.2 dX5_setLocal_114
                · replace hf := x_in c_73 hf
                  refine lv_aload_n hx hb dX5_setLocal_101 rfl (lv_at hl 1 rfl) ?_
                  refine va_get (D := (dC, dI)) (ci := 5) (v := .ref a5_1) (C := RX5) (T := TX5) (N := 10) hx hb hts i_X5_setLocal_X5 hown hK hP 0 rfl rfl 1 (by decide) k_3 (fun _ h9 => h9) rfl dX5_setLocal_102 ?_
                  refine lv_iload_n hx hb dX5_setLocal_105 rfl (lv_at hl 0 rfl) ?_
                  refine lv_bipush (v := 7) hx hb dX5_setLocal_106 (by decide) ?_
                  obtain ⟨g_74, hf⟩ := x_gu hf
                  refine va_iast hx hb hK hP hD hS 1 0 rfl rfl (x_gdin g_74) dX5_setLocal_108 (fun H locs hP hD hS => ?_)
                  have hP : va_P (dC, dI) vwCl [(o5, .inr (5, [.ref o7, .ref a5_1, .int v5_2, .int v5_3, .int v5_4, .int v5_5, .int v5_6, .int v5_7, .int v5_8, .int v5_9])), (a5_1, .inl (cyI, 400, .inl (upd (upd g5_1 (Int32.toNatClampNeg p1) p2) (Int32.toNatClampNeg (p1 + (1 : Int32))) 7)))] H := hP
                  have hD : va_D A [(o5, .inr (5, [.ref o7, .ref a5_1, .int v5_2, .int v5_3, .int v5_4, .int v5_5, .int v5_6, .int v5_7, .int v5_8, .int v5_9])), (a5_1, .inl (cyI, 400, .inl (upd (upd g5_1 (Int32.toNatClampNeg p1) p2) (Int32.toNatClampNeg (p1 + (1 : Int32))) 7)))] := hD
                  refine lv_aload_n hx hb dX5_setLocal_109 rfl (lv_at hl 1 rfl) ?_
                  refine lv_iconst (v := 1) hx hb dX5_setLocal_110 (by decide) ?_
                  refine va_put (D := (dC, dI)) (ci := 5) (v := .int 1) (ty := .boolean) (C := RX5) (T := TX5) (N := 10) hx hb hts i_X5_setLocal_X5 tyX5 tyX5_ok nmX5 hown hK hP hD hS 0 rfl rfl 7 (by decide) k_4 (fun _ h9 => h9) rfl (by decide +kernel) rfl rfl (Nat.le_of_ble_eq_true rfl) dX5_setLocal_111 (fun H locs hP hD hS => ?_)
                  have hP : va_P (dC, dI) vwCl [(o5, .inr (5, [.ref o7, .ref a5_1, .int v5_2, .int v5_3, .int v5_4, .int v5_5, .int v5_6, .int 1, .int v5_8, .int v5_9])), (a5_1, .inl (cyI, 400, .inl (upd (upd g5_1 (Int32.toNatClampNeg p1) p2) (Int32.toNatClampNeg (p1 + (1 : Int32))) 7)))] H := hP
                  have hD : va_D A [(o5, .inr (5, [.ref o7, .ref a5_1, .int v5_2, .int v5_3, .int v5_4, .int v5_5, .int v5_6, .int 1, .int v5_8, .int v5_9])), (a5_1, .inl (cyI, 400, .inl (upd (upd g5_1 (Int32.toNatClampNeg p1) p2) (Int32.toNatClampNeg (p1 + (1 : Int32))) 7)))] := hD
                  obtain rfl := Option.some.inj hf
                  have hP9 := hP.sub (ws' := [(o5, .inr (5, [.ref o7, .ref a5_1, .int v5_2, .int v5_3, .int v5_4, .int v5_5, .int v5_6, .int 1, .int v5_8, .int v5_9])), (a5_1, .inl (cyI, 400, .inl (upd (upd g5_1 (Int32.toNatClampNeg p1) p2) (Int32.toNatClampNeg (p1 + (1 : Int32))) 7)))]) [0, 1] rfl
                  have hD9 := hD.sub (ws' := [(o5, .inr (5, [.ref o7, .ref a5_1, .int v5_2, .int v5_3, .int v5_4, .int v5_5, .int v5_6, .int 1, .int v5_8, .int v5_9])), (a5_1, .inl (cyI, 400, .inl (upd (upd g5_1 (Int32.toNatClampNeg p1) p2) (Int32.toNatClampNeg (p1 + (1 : Int32))) 7)))]) [0, 1] (by decide) rfl
                  exact W.vret hx hb hr (fun t ht hW => ⟨⟨(), rfl, trivial, by rw [ht]; exact hP9, va_K.moved hW.alike hK, hD9⟩, hS.F ht⟩) hS.2.2 dX5_setLocal_114
              · replace hf := x_ip c_71 hf
                refine lv_aload_n hx hb dX5_setLocal_80 rfl (lv_at hl 1 rfl) ?_
                refine va_get (D := (dC, dI)) (ci := 5) (v := .ref a5_1) (C := RX5) (T := TX5) (N := 10) hx hb hts i_X5_setLocal_X5 hown hK hP 0 rfl rfl 1 (by decide) k_3 (fun _ h9 => h9) rfl dX5_setLocal_81 ?_
                refine lv_iload_n hx hb dX5_setLocal_84 rfl (lv_at hl 0 rfl) ?_
                refine lv_iconst (v := 1) hx hb dX5_setLocal_85 (by decide) ?_
                refine lv_iadd hx hb dX5_setLocal_86 ?_
                refine lv_iconst (v := 0) hx hb dX5_setLocal_87 (by decide) ?_
                obtain ⟨g_75, hf⟩ := x_gu hf
                refine va_iast hx hb hK hP hD hS 1 0 rfl rfl (x_gdin g_75) dX5_setLocal_88 (fun H locs hP hD hS => ?_)
                have hP : va_P (dC, dI) vwCl [(o5, .inr (5, [.ref o7, .ref a5_1, .int v5_2, .int v5_3, .int v5_4, .int v5_5, .int v5_6, .int v5_7, .int v5_8, .int v5_9])), (a5_1, .inl (cyI, 400, .inl (upd g5_1 (Int32.toNatClampNeg ((p1 + (1 : Int32)) + (1 : Int32))) 0)))] H := hP
                have hD : va_D A [(o5, .inr (5, [.ref o7, .ref a5_1, .int v5_2, .int v5_3, .int v5_4, .int v5_5, .int v5_6, .int v5_7, .int v5_8, .int v5_9])), (a5_1, .inl (cyI, 400, .inl (upd g5_1 (Int32.toNatClampNeg ((p1 + (1 : Int32)) + (1 : Int32))) 0)))] := hD
                refine lv_aload_n hx hb dX5_setLocal_89 rfl (lv_at hl 1 rfl) ?_
                refine va_get (D := (dC, dI)) (ci := 5) (v := .ref a5_1) (C := RX5) (T := TX5) (N := 10) hx hb hts i_X5_setLocal_X5 hown hK hP 0 rfl rfl 1 (by decide) k_3 (fun _ h9 => h9) rfl dX5_setLocal_90 ?_
                refine lv_iload_n hx hb dX5_setLocal_93 rfl (lv_at hl 2 rfl) ?_
                refine lv_iload_n hx hb dX5_setLocal_94 rfl (lv_at hl 3 rfl) ?_
                obtain ⟨g_76, hf⟩ := x_gu hf
                refine va_iast hx hb hK hP hD hS 1 0 rfl rfl (x_gdin g_76) dX5_setLocal_95 (fun H locs hP hD hS => ?_)
                have hP : va_P (dC, dI) vwCl [(o5, .inr (5, [.ref o7, .ref a5_1, .int v5_2, .int v5_3, .int v5_4, .int v5_5, .int v5_6, .int v5_7, .int v5_8, .int v5_9])), (a5_1, .inl (cyI, 400, .inl (upd (upd g5_1 (Int32.toNatClampNeg ((p1 + (1 : Int32)) + (1 : Int32))) 0) (Int32.toNatClampNeg p1) p2)))] H := hP
                have hD : va_D A [(o5, .inr (5, [.ref o7, .ref a5_1, .int v5_2, .int v5_3, .int v5_4, .int v5_5, .int v5_6, .int v5_7, .int v5_8, .int v5_9])), (a5_1, .inl (cyI, 400, .inl (upd (upd g5_1 (Int32.toNatClampNeg ((p1 + (1 : Int32)) + (1 : Int32))) 0) (Int32.toNatClampNeg p1) p2)))] := hD
                refine lv_iload_n hx hb dX5_setLocal_96 rfl (lv_at hl 0 rfl) ?_
                refine lv_iload_n hx hb dX5_setLocal_97 rfl (lv_at hl 2 rfl) ?_
                refine lv_icmp_le (tgt := 109) hx hb dX5_setLocal_98 (by decide) (fun c_77 => ?_) (fun c_77 => ?_)
                · replace hf := x_ip c_77 hf
                  refine lv_aload_n hx hb dX5_setLocal_109 rfl (lv_at hl 1 rfl) ?_
                  refine lv_iconst (v := 1) hx hb dX5_setLocal_110 (by decide) ?_
                  refine va_put (D := (dC, dI)) (ci := 5) (v := .int 1) (ty := .boolean) (C := RX5) (T := TX5) (N := 10) hx hb hts i_X5_setLocal_X5 tyX5 tyX5_ok nmX5 hown hK hP hD hS 0 rfl rfl 7 (by decide) k_4 (fun _ h9 => h9) rfl (by decide +kernel) rfl rfl (Nat.le_of_ble_eq_true rfl) dX5_setLocal_111 (fun H locs hP hD hS => ?_)
                  have hP : va_P (dC, dI) vwCl [(o5, .inr (5, [.ref o7, .ref a5_1, .int v5_2, .int v5_3, .int v5_4, .int v5_5, .int v5_6, .int 1, .int v5_8, .int v5_9])), (a5_1, .inl (cyI, 400, .inl (upd (upd g5_1 (Int32.toNatClampNeg ((p1 + (1 : Int32)) + (1 : Int32))) 0) (Int32.toNatClampNeg p1) p2)))] H := hP
                  have hD : va_D A [(o5, .inr (5, [.ref o7, .ref a5_1, .int v5_2, .int v5_3, .int v5_4, .int v5_5, .int v5_6, .int 1, .int v5_8, .int v5_9])), (a5_1, .inl (cyI, 400, .inl (upd (upd g5_1 (Int32.toNatClampNeg ((p1 + (1 : Int32)) + (1 : Int32))) 0) (Int32.toNatClampNeg p1) p2)))] := hD
                  obtain rfl := Option.some.inj hf
                  have hP9 := hP.sub (ws' := [(o5, .inr (5, [.ref o7, .ref a5_1, .int v5_2, .int v5_3, .int v5_4, .int v5_5, .int v5_6, .int 1, .int v5_8, .int v5_9])), (a5_1, .inl (cyI, 400, .inl (upd (upd g5_1 (Int32.toNatClampNeg ((p1 + (1 : Int32)) + (1 : Int32))) 0) (Int32.toNatClampNeg p1) p2)))]) [0, 1] rfl
                  have hD9 := hD.sub (ws' := [(o5, .inr (5, [.ref o7, .ref a5_1, .int v5_2, .int v5_3, .int v5_4, .int v5_5, .int v5_6, .int 1, .int v5_8, .int v5_9])), (a5_1, .inl (cyI, 400, .inl (upd (upd g5_1 (Int32.toNatClampNeg ((p1 + (1 : Int32)) + (1 : Int32))) 0) (Int32.toNatClampNeg p1) p2)))]) [0, 1] (by decide) rfl
                  exact W.vret hx hb hr (fun t ht hW => ⟨⟨(), rfl, trivial, by rw [ht]; exact hP9, va_K.moved hW.alike hK, hD9⟩, hS.F ht⟩) hS.2.2 dX5_setLocal_114
                · replace hf := x_in c_77 hf
                  refine lv_aload_n hx hb dX5_setLocal_101 rfl (lv_at hl 1 rfl) ?_
                  refine va_get (D := (dC, dI)) (ci := 5) (v := .ref a5_1) (C := RX5) (T := TX5) (N := 10) hx hb hts i_X5_setLocal_X5 hown hK hP 0 rfl rfl 1 (by decide) k_3 (fun _ h9 => h9) rfl dX5_setLocal_102 ?_
                  refine lv_iload_n hx hb dX5_setLocal_105 rfl (lv_at hl 0 rfl) ?_
                  refine lv_bipush (v := 7) hx hb dX5_setLocal_106 (by decide) ?_
                  obtain ⟨g_78, hf⟩ := x_gu hf
                  refine va_iast hx hb hK hP hD hS 1 0 rfl rfl (x_gdin g_78) dX5_setLocal_108 (fun H locs hP hD hS => ?_)
                  have hP : va_P (dC, dI) vwCl [(o5, .inr (5, [.ref o7, .ref a5_1, .int v5_2, .int v5_3, .int v5_4, .int v5_5, .int v5_6, .int v5_7, .int v5_8, .int v5_9])), (a5_1, .inl (cyI, 400, .inl (upd (upd (upd g5_1 (Int32.toNatClampNeg ((p1 + (1 : Int32)) + (1 : Int32))) 0) (Int32.toNatClampNeg p1) p2) (Int32.toNatClampNeg (p1 + (1 : Int32))) 7)))] H := hP
                  have hD : va_D A [(o5, .inr (5, [.ref o7, .ref a5_1, .int v5_2, .int v5_3, .int v5_4, .int v5_5, .int v5_6, .int v5_7, .int v5_8, .int v5_9])), (a5_1, .inl (cyI, 400, .inl (upd (upd (upd g5_1 (Int32.toNatClampNeg ((p1 + (1 : Int32)) + (1 : Int32))) 0) (Int32.toNatClampNeg p1) p2) (Int32.toNatClampNeg (p1 + (1 : Int32))) 7)))] := hD
                  refine lv_aload_n hx hb dX5_setLocal_109 rfl (lv_at hl 1 rfl) ?_
                  refine lv_iconst (v := 1) hx hb dX5_setLocal_110 (by decide) ?_
                  refine va_put (D := (dC, dI)) (ci := 5) (v := .int 1) (ty := .boolean) (C := RX5) (T := TX5) (N := 10) hx hb hts i_X5_setLocal_X5 tyX5 tyX5_ok nmX5 hown hK hP hD hS 0 rfl rfl 7 (by decide) k_4 (fun _ h9 => h9) rfl (by decide +kernel) rfl rfl (Nat.le_of_ble_eq_true rfl) dX5_setLocal_111 (fun H locs hP hD hS => ?_)
                  have hP : va_P (dC, dI) vwCl [(o5, .inr (5, [.ref o7, .ref a5_1, .int v5_2, .int v5_3, .int v5_4, .int v5_5, .int v5_6, .int 1, .int v5_8, .int v5_9])), (a5_1, .inl (cyI, 400, .inl (upd (upd (upd g5_1 (Int32.toNatClampNeg ((p1 + (1 : Int32)) + (1 : Int32))) 0) (Int32.toNatClampNeg p1) p2) (Int32.toNatClampNeg (p1 + (1 : Int32))) 7)))] H := hP
                  have hD : va_D A [(o5, .inr (5, [.ref o7, .ref a5_1, .int v5_2, .int v5_3, .int v5_4, .int v5_5, .int v5_6, .int 1, .int v5_8, .int v5_9])), (a5_1, .inl (cyI, 400, .inl (upd (upd (upd g5_1 (Int32.toNatClampNeg ((p1 + (1 : Int32)) + (1 : Int32))) 0) (Int32.toNatClampNeg p1) p2) (Int32.toNatClampNeg (p1 + (1 : Int32))) 7)))] := hD
                  obtain rfl := Option.some.inj hf
                  have hP9 := hP.sub (ws' := [(o5, .inr (5, [.ref o7, .ref a5_1, .int v5_2, .int v5_3, .int v5_4, .int v5_5, .int v5_6, .int 1, .int v5_8, .int v5_9])), (a5_1, .inl (cyI, 400, .inl (upd (upd (upd g5_1 (Int32.toNatClampNeg ((p1 + (1 : Int32)) + (1 : Int32))) 0) (Int32.toNatClampNeg p1) p2) (Int32.toNatClampNeg (p1 + (1 : Int32))) 7)))]) [0, 1] rfl
                  have hD9 := hD.sub (ws' := [(o5, .inr (5, [.ref o7, .ref a5_1, .int v5_2, .int v5_3, .int v5_4, .int v5_5, .int v5_6, .int 1, .int v5_8, .int v5_9])), (a5_1, .inl (cyI, 400, .inl (upd (upd (upd g5_1 (Int32.toNatClampNeg ((p1 + (1 : Int32)) + (1 : Int32))) 0) (Int32.toNatClampNeg p1) p2) (Int32.toNatClampNeg (p1 + (1 : Int32))) 7)))]) [0, 1] (by decide) rfl
                  exact W.vret hx hb hr (fun t ht hW => ⟨⟨(), rfl, trivial, by rw [ht]; exact hP9, va_K.moved hW.alike hK, hD9⟩, hS.F ht⟩) hS.2.2 dX5_setLocal_114
          · replace hf := x_ip c_65 hf
            refine lv_aload_n hx hb dX5_setLocal_48 rfl (lv_at hl 1 rfl) ?_
            refine va_get (D := (dC, dI)) (ci := 5) (v := .ref a5_1) (C := RX5) (T := TX5) (N := 10) hx hb hts i_X5_setLocal_X5 hown hK hP 0 rfl rfl 1 (by decide) k_3 (fun _ h9 => h9) rfl dX5_setLocal_49 ?_
            refine lv_iload_n hx hb dX5_setLocal_52 rfl (lv_at hl 2 rfl) ?_
            refine lv_iconst (v := 1) hx hb dX5_setLocal_53 (by decide) ?_
            refine lv_isub hx hb dX5_setLocal_54 ?_
            refine lv_iconst (v := 0) hx hb dX5_setLocal_55 (by decide) ?_
            obtain ⟨g_79, hf⟩ := x_gu hf
            refine va_iast hx hb hK hP hD hS 1 0 rfl rfl (x_gdin g_79) dX5_setLocal_56 (fun H locs hP hD hS => ?_)
            have hP : va_P (dC, dI) vwCl [(o5, .inr (5, [.ref o7, .ref a5_1, .int v5_2, .int v5_3, .int v5_4, .int v5_5, .int v5_6, .int v5_7, .int v5_8, .int v5_9])), (a5_1, .inl (cyI, 400, .inl (upd g5_1 (Int32.toNatClampNeg (p1 - (1 : Int32))) 0)))] H := hP
            have hD : va_D A [(o5, .inr (5, [.ref o7, .ref a5_1, .int v5_2, .int v5_3, .int v5_4, .int v5_5, .int v5_6, .int v5_7, .int v5_8, .int v5_9])), (a5_1, .inl (cyI, 400, .inl (upd g5_1 (Int32.toNatClampNeg (p1 - (1 : Int32))) 0)))] := hD
            refine lv_iload_n hx hb dX5_setLocal_57 rfl (lv_at hl 0 rfl) ?_
            refine lv_iconst (v := 1) hx hb dX5_setLocal_58 (by decide) ?_
            refine lv_iadd hx hb dX5_setLocal_59 ?_
            refine lv_aload_n hx hb dX5_setLocal_60 rfl (lv_at hl 1 rfl) ?_
            refine va_get (D := (dC, dI)) (ci := 5) (v := .int v5_2) (C := RX5) (T := TX5) (N := 10) hx hb hts i_X5_setLocal_X5 hown hK hP 0 rfl rfl 2 (by decide) k_2 (fun _ h9 => h9) rfl dX5_setLocal_61 ?_
            refine lv_icmp_ge (tgt := 89) hx hb dX5_setLocal_64 (by decide) (fun c_80 => ?_) (fun c_80 => ?_)
            · replace hf := x_ip c_80 hf
              refine lv_aload_n hx hb dX5_setLocal_89 rfl (lv_at hl 1 rfl) ?_
              refine va_get (D := (dC, dI)) (ci := 5) (v := .ref a5_1) (C := RX5) (T := TX5) (N := 10) hx hb hts i_X5_setLocal_X5 hown hK hP 0 rfl rfl 1 (by decide) k_3 (fun _ h9 => h9) rfl dX5_setLocal_90 ?_
              refine lv_iload_n hx hb dX5_setLocal_93 rfl (lv_at hl 2 rfl) ?_
              refine lv_iload_n hx hb dX5_setLocal_94 rfl (lv_at hl 3 rfl) ?_
              obtain ⟨g_81, hf⟩ := x_gu hf
              refine va_iast hx hb hK hP hD hS 1 0 rfl rfl (x_gdin g_81) dX5_setLocal_95 (fun H locs hP hD hS => ?_)
              have hP : va_P (dC, dI) vwCl [(o5, .inr (5, [.ref o7, .ref a5_1, .int v5_2, .int v5_3, .int v5_4, .int v5_5, .int v5_6, .int v5_7, .int v5_8, .int v5_9])), (a5_1, .inl (cyI, 400, .inl (upd (upd g5_1 (Int32.toNatClampNeg (p1 - (1 : Int32))) 0) (Int32.toNatClampNeg p1) p2)))] H := hP
              have hD : va_D A [(o5, .inr (5, [.ref o7, .ref a5_1, .int v5_2, .int v5_3, .int v5_4, .int v5_5, .int v5_6, .int v5_7, .int v5_8, .int v5_9])), (a5_1, .inl (cyI, 400, .inl (upd (upd g5_1 (Int32.toNatClampNeg (p1 - (1 : Int32))) 0) (Int32.toNatClampNeg p1) p2)))] := hD
              refine lv_iload_n hx hb dX5_setLocal_96 rfl (lv_at hl 0 rfl) ?_
              refine lv_iload_n hx hb dX5_setLocal_97 rfl (lv_at hl 2 rfl) ?_
              refine lv_icmp_le (tgt := 109) hx hb dX5_setLocal_98 (by decide) (fun c_82 => ?_) (fun c_82 => ?_)
              · replace hf := x_ip c_82 hf
                refine lv_aload_n hx hb dX5_setLocal_109 rfl (lv_at hl 1 rfl) ?_
                refine lv_iconst (v := 1) hx hb dX5_setLocal_110 (by decide) ?_
                refine va_put (D := (dC, dI)) (ci := 5) (v := .int 1) (ty := .boolean) (C := RX5) (T := TX5) (N := 10) hx hb hts i_X5_setLocal_X5 tyX5 tyX5_ok nmX5 hown hK hP hD hS 0 rfl rfl 7 (by decide) k_4 (fun _ h9 => h9) rfl (by decide +kernel) rfl rfl (Nat.le_of_ble_eq_true rfl) dX5_setLocal_111 (fun H locs hP hD hS => ?_)
                have hP : va_P (dC, dI) vwCl [(o5, .inr (5, [.ref o7, .ref a5_1, .int v5_2, .int v5_3, .int v5_4, .int v5_5, .int v5_6, .int 1, .int v5_8, .int v5_9])), (a5_1, .inl (cyI, 400, .inl (upd (upd g5_1 (Int32.toNatClampNeg (p1 - (1 : Int32))) 0) (Int32.toNatClampNeg p1) p2)))] H := hP
                have hD : va_D A [(o5, .inr (5, [.ref o7, .ref a5_1, .int v5_2, .int v5_3, .int v5_4, .int v5_5, .int v5_6, .int 1, .int v5_8, .int v5_9])), (a5_1, .inl (cyI, 400, .inl (upd (upd g5_1 (Int32.toNatClampNeg (p1 - (1 : Int32))) 0) (Int32.toNatClampNeg p1) p2)))] := hD
                obtain rfl := Option.some.inj hf
                have hP9 := hP.sub (ws' := [(o5, .inr (5, [.ref o7, .ref a5_1, .int v5_2, .int v5_3, .int v5_4, .int v5_5, .int v5_6, .int 1, .int v5_8, .int v5_9])), (a5_1, .inl (cyI, 400, .inl (upd (upd g5_1 (Int32.toNatClampNeg (p1 - (1 : Int32))) 0) (Int32.toNatClampNeg p1) p2)))]) [0, 1] rfl
                have hD9 := hD.sub (ws' := [(o5, .inr (5, [.ref o7, .ref a5_1, .int v5_2, .int v5_3, .int v5_4, .int v5_5, .int v5_6, .int 1, .int v5_8, .int v5_9])), (a5_1, .inl (cyI, 400, .inl (upd (upd g5_1 (Int32.toNatClampNeg (p1 - (1 : Int32))) 0) (Int32.toNatClampNeg p1) p2)))]) [0, 1] (by decide) rfl
                exact W.vret hx hb hr (fun t ht hW => ⟨⟨(), rfl, trivial, by rw [ht]; exact hP9, va_K.moved hW.alike hK, hD9⟩, hS.F ht⟩) hS.2.2 dX5_setLocal_114
              · replace hf := x_in c_82 hf
                refine lv_aload_n hx hb dX5_setLocal_101 rfl (lv_at hl 1 rfl) ?_
                refine va_get (D := (dC, dI)) (ci := 5) (v := .ref a5_1) (C := RX5) (T := TX5) (N := 10) hx hb hts i_X5_setLocal_X5 hown hK hP 0 rfl rfl 1 (by decide) k_3 (fun _ h9 => h9) rfl dX5_setLocal_102 ?_
                refine lv_iload_n hx hb dX5_setLocal_105 rfl (lv_at hl 0 rfl) ?_
                refine lv_bipush (v := 7) hx hb dX5_setLocal_106 (by decide) ?_
                obtain ⟨g_83, hf⟩ := x_gu hf
                refine va_iast hx hb hK hP hD hS 1 0 rfl rfl (x_gdin g_83) dX5_setLocal_108 (fun H locs hP hD hS => ?_)
                have hP : va_P (dC, dI) vwCl [(o5, .inr (5, [.ref o7, .ref a5_1, .int v5_2, .int v5_3, .int v5_4, .int v5_5, .int v5_6, .int v5_7, .int v5_8, .int v5_9])), (a5_1, .inl (cyI, 400, .inl (upd (upd (upd g5_1 (Int32.toNatClampNeg (p1 - (1 : Int32))) 0) (Int32.toNatClampNeg p1) p2) (Int32.toNatClampNeg (p1 + (1 : Int32))) 7)))] H := hP
                have hD : va_D A [(o5, .inr (5, [.ref o7, .ref a5_1, .int v5_2, .int v5_3, .int v5_4, .int v5_5, .int v5_6, .int v5_7, .int v5_8, .int v5_9])), (a5_1, .inl (cyI, 400, .inl (upd (upd (upd g5_1 (Int32.toNatClampNeg (p1 - (1 : Int32))) 0) (Int32.toNatClampNeg p1) p2) (Int32.toNatClampNeg (p1 + (1 : Int32))) 7)))] := hD
                refine lv_aload_n hx hb dX5_setLocal_109 rfl (lv_at hl 1 rfl) ?_
                refine lv_iconst (v := 1) hx hb dX5_setLocal_110 (by decide) ?_
                refine va_put (D := (dC, dI)) (ci := 5) (v := .int 1) (ty := .boolean) (C := RX5) (T := TX5) (N := 10) hx hb hts i_X5_setLocal_X5 tyX5 tyX5_ok nmX5 hown hK hP hD hS 0 rfl rfl 7 (by decide) k_4 (fun _ h9 => h9) rfl (by decide +kernel) rfl rfl (Nat.le_of_ble_eq_true rfl) dX5_setLocal_111 (fun H locs hP hD hS => ?_)
                have hP : va_P (dC, dI) vwCl [(o5, .inr (5, [.ref o7, .ref a5_1, .int v5_2, .int v5_3, .int v5_4, .int v5_5, .int v5_6, .int 1, .int v5_8, .int v5_9])), (a5_1, .inl (cyI, 400, .inl (upd (upd (upd g5_1 (Int32.toNatClampNeg (p1 - (1 : Int32))) 0) (Int32.toNatClampNeg p1) p2) (Int32.toNatClampNeg (p1 + (1 : Int32))) 7)))] H := hP
                have hD : va_D A [(o5, .inr (5, [.ref o7, .ref a5_1, .int v5_2, .int v5_3, .int v5_4, .int v5_5, .int v5_6, .int 1, .int v5_8, .int v5_9])), (a5_1, .inl (cyI, 400, .inl (upd (upd (upd g5_1 (Int32.toNatClampNeg (p1 - (1 : Int32))) 0) (Int32.toNatClampNeg p1) p2) (Int32.toNatClampNeg (p1 + (1 : Int32))) 7)))] := hD
                obtain rfl := Option.some.inj hf
                have hP9 := hP.sub (ws' := [(o5, .inr (5, [.ref o7, .ref a5_1, .int v5_2, .int v5_3, .int v5_4, .int v5_5, .int v5_6, .int 1, .int v5_8, .int v5_9])), (a5_1, .inl (cyI, 400, .inl (upd (upd (upd g5_1 (Int32.toNatClampNeg (p1 - (1 : Int32))) 0) (Int32.toNatClampNeg p1) p2) (Int32.toNatClampNeg (p1 + (1 : Int32))) 7)))]) [0, 1] rfl
                have hD9 := hD.sub (ws' := [(o5, .inr (5, [.ref o7, .ref a5_1, .int v5_2, .int v5_3, .int v5_4, .int v5_5, .int v5_6, .int 1, .int v5_8, .int v5_9])), (a5_1, .inl (cyI, 400, .inl (upd (upd (upd g5_1 (Int32.toNatClampNeg (p1 - (1 : Int32))) 0) (Int32.toNatClampNeg p1) p2) (Int32.toNatClampNeg (p1 + (1 : Int32))) 7)))]) [0, 1] (by decide) rfl
                exact W.vret hx hb hr (fun t ht hW => ⟨⟨(), rfl, trivial, by rw [ht]; exact hP9, va_K.moved hW.alike hK, hD9⟩, hS.F ht⟩) hS.2.2 dX5_setLocal_114
            · replace hf := x_in c_80 hf
              refine lv_aload_n hx hb dX5_setLocal_67 rfl (lv_at hl 1 rfl) ?_
              refine va_get (D := (dC, dI)) (ci := 5) (v := .ref a5_1) (C := RX5) (T := TX5) (N := 10) hx hb hts i_X5_setLocal_X5 hown hK hP 0 rfl rfl 1 (by decide) k_3 (fun _ h9 => h9) rfl dX5_setLocal_68 ?_
              refine lv_iload_n hx hb dX5_setLocal_71 rfl (lv_at hl 0 rfl) ?_
              refine lv_iconst (v := 1) hx hb dX5_setLocal_72 (by decide) ?_
              refine lv_iadd hx hb dX5_setLocal_73 ?_
              obtain ⟨g_84, hf⟩ := x_gu hf
              refine va_iald hx hb hK hP 1 0 rfl rfl (x_gdin g_84) dX5_setLocal_74 ?_
              refine lv_bipush (v := 7) hx hb dX5_setLocal_75 (by decide) ?_
              refine lv_icmp_ne (tgt := 89) hx hb dX5_setLocal_77 (by decide) (fun c_85 => ?_) (fun c_85 => ?_)
              · replace hf := x_in c_85 hf
                refine lv_aload_n hx hb dX5_setLocal_89 rfl (lv_at hl 1 rfl) ?_
                refine va_get (D := (dC, dI)) (ci := 5) (v := .ref a5_1) (C := RX5) (T := TX5) (N := 10) hx hb hts i_X5_setLocal_X5 hown hK hP 0 rfl rfl 1 (by decide) k_3 (fun _ h9 => h9) rfl dX5_setLocal_90 ?_
                refine lv_iload_n hx hb dX5_setLocal_93 rfl (lv_at hl 2 rfl) ?_
                refine lv_iload_n hx hb dX5_setLocal_94 rfl (lv_at hl 3 rfl) ?_
                obtain ⟨g_86, hf⟩ := x_gu hf
                refine va_iast hx hb hK hP hD hS 1 0 rfl rfl (x_gdin g_86) dX5_setLocal_95 (fun H locs hP hD hS => ?_)
                have hP : va_P (dC, dI) vwCl [(o5, .inr (5, [.ref o7, .ref a5_1, .int v5_2, .int v5_3, .int v5_4, .int v5_5, .int v5_6, .int v5_7, .int v5_8, .int v5_9])), (a5_1, .inl (cyI, 400, .inl (upd (upd g5_1 (Int32.toNatClampNeg (p1 - (1 : Int32))) 0) (Int32.toNatClampNeg p1) p2)))] H := hP
                have hD : va_D A [(o5, .inr (5, [.ref o7, .ref a5_1, .int v5_2, .int v5_3, .int v5_4, .int v5_5, .int v5_6, .int v5_7, .int v5_8, .int v5_9])), (a5_1, .inl (cyI, 400, .inl (upd (upd g5_1 (Int32.toNatClampNeg (p1 - (1 : Int32))) 0) (Int32.toNatClampNeg p1) p2)))] := hD
                refine lv_iload_n hx hb dX5_setLocal_96 rfl (lv_at hl 0 rfl) ?_
                refine lv_iload_n hx hb dX5_setLocal_97 rfl (lv_at hl 2 rfl) ?_
                refine lv_icmp_le (tgt := 109) hx hb dX5_setLocal_98 (by decide) (fun c_87 => ?_) (fun c_87 => ?_)
                · replace hf := x_ip c_87 hf
                  refine lv_aload_n hx hb dX5_setLocal_109 rfl (lv_at hl 1 rfl) ?_
                  refine lv_iconst (v := 1) hx hb dX5_setLocal_110 (by decide) ?_
                  refine va_put (D := (dC, dI)) (ci := 5) (v := .int 1) (ty := .boolean) (C := RX5) (T := TX5) (N := 10) hx hb hts i_X5_setLocal_X5 tyX5 tyX5_ok nmX5 hown hK hP hD hS 0 rfl rfl 7 (by decide) k_4 (fun _ h9 => h9) rfl (by decide +kernel) rfl rfl (Nat.le_of_ble_eq_true rfl) dX5_setLocal_111 (fun H locs hP hD hS => ?_)
                  have hP : va_P (dC, dI) vwCl [(o5, .inr (5, [.ref o7, .ref a5_1, .int v5_2, .int v5_3, .int v5_4, .int v5_5, .int v5_6, .int 1, .int v5_8, .int v5_9])), (a5_1, .inl (cyI, 400, .inl (upd (upd g5_1 (Int32.toNatClampNeg (p1 - (1 : Int32))) 0) (Int32.toNatClampNeg p1) p2)))] H := hP
                  have hD : va_D A [(o5, .inr (5, [.ref o7, .ref a5_1, .int v5_2, .int v5_3, .int v5_4, .int v5_5, .int v5_6, .int 1, .int v5_8, .int v5_9])), (a5_1, .inl (cyI, 400, .inl (upd (upd g5_1 (Int32.toNatClampNeg (p1 - (1 : Int32))) 0) (Int32.toNatClampNeg p1) p2)))] := hD
                  obtain rfl := Option.some.inj hf
                  have hP9 := hP.sub (ws' := [(o5, .inr (5, [.ref o7, .ref a5_1, .int v5_2, .int v5_3, .int v5_4, .int v5_5, .int v5_6, .int 1, .int v5_8, .int v5_9])), (a5_1, .inl (cyI, 400, .inl (upd (upd g5_1 (Int32.toNatClampNeg (p1 - (1 : Int32))) 0) (Int32.toNatClampNeg p1) p2)))]) [0, 1] rfl
                  have hD9 := hD.sub (ws' := [(o5, .inr (5, [.ref o7, .ref a5_1, .int v5_2, .int v5_3, .int v5_4, .int v5_5, .int v5_6, .int 1, .int v5_8, .int v5_9])), (a5_1, .inl (cyI, 400, .inl (upd (upd g5_1 (Int32.toNatClampNeg (p1 - (1 : Int32))) 0) (Int32.toNatClampNeg p1) p2)))]) [0, 1] (by decide) rfl
                  exact W.vret hx hb hr (fun t ht hW => ⟨⟨(), rfl, trivial, by rw [ht]; exact hP9, va_K.moved hW.alike hK, hD9⟩, hS.F ht⟩) hS.2.2 dX5_setLocal_114
                · replace hf := x_in c_87 hf
                  refine lv_aload_n hx hb dX5_setLocal_101 rfl (lv_at hl 1 rfl) ?_
                  refine va_get (D := (dC, dI)) (ci := 5) (v := .ref a5_1) (C := RX5) (T := TX5) (N := 10) hx hb hts i_X5_setLocal_X5 hown hK hP 0 rfl rfl 1 (by decide) k_3 (fun _ h9 => h9) rfl dX5_setLocal_102 ?_
                  refine lv_iload_n hx hb dX5_setLocal_105 rfl (lv_at hl 0 rfl) ?_
                  refine lv_bipush (v := 7) hx hb dX5_setLocal_106 (by decide) ?_
                  obtain ⟨g_88, hf⟩ := x_gu hf
                  refine va_iast hx hb hK hP hD hS 1 0 rfl rfl (x_gdin g_88) dX5_setLocal_108 (fun H locs hP hD hS => ?_)
                  have hP : va_P (dC, dI) vwCl [(o5, .inr (5, [.ref o7, .ref a5_1, .int v5_2, .int v5_3, .int v5_4, .int v5_5, .int v5_6, .int v5_7, .int v5_8, .int v5_9])), (a5_1, .inl (cyI, 400, .inl (upd (upd (upd g5_1 (Int32.toNatClampNeg (p1 - (1 : Int32))) 0) (Int32.toNatClampNeg p1) p2) (Int32.toNatClampNeg (p1 + (1 : Int32))) 7)))] H := hP
                  have hD : va_D A [(o5, .inr (5, [.ref o7, .ref a5_1, .int v5_2, .int v5_3, .int v5_4, .int v5_5, .int v5_6, .int v5_7, .int v5_8, .int v5_9])), (a5_1, .inl (cyI, 400, .inl (upd (upd (upd g5_1 (Int32.toNatClampNeg (p1 - (1 : Int32))) 0) (Int32.toNatClampNeg p1) p2) (Int32.toNatClampNeg (p1 + (1 : Int32))) 7)))] := hD
                  refine lv_aload_n hx hb dX5_setLocal_109 rfl (lv_at hl 1 rfl) ?_
                  refine lv_iconst (v := 1) hx hb dX5_setLocal_110 (by decide) ?_
                  refine va_put (D := (dC, dI)) (ci := 5) (v := .int 1) (ty := .boolean) (C := RX5) (T := TX5) (N := 10) hx hb hts i_X5_setLocal_X5 tyX5 tyX5_ok nmX5 hown hK hP hD hS 0 rfl rfl 7 (by decide) k_4 (fun _ h9 => h9) rfl (by decide +kernel) rfl rfl (Nat.le_of_ble_eq_true rfl) dX5_setLocal_111 (fun H locs hP hD hS => ?_)
                  have hP : va_P (dC, dI) vwCl [(o5, .inr (5, [.ref o7, .ref a5_1, .int v5_2, .int v5_3, .int v5_4, .int v5_5, .int v5_6, .int 1, .int v5_8, .int v5_9])), (a5_1, .inl (cyI, 400, .inl (upd (upd (upd g5_1 (Int32.toNatClampNeg (p1 - (1 : Int32))) 0) (Int32.toNatClampNeg p1) p2) (Int32.toNatClampNeg (p1 + (1 : Int32))) 7)))] H := hP
                  have hD : va_D A [(o5, .inr (5, [.ref o7, .ref a5_1, .int v5_2, .int v5_3, .int v5_4, .int v5_5, .int v5_6, .int 1, .int v5_8, .int v5_9])), (a5_1, .inl (cyI, 400, .inl (upd (upd (upd g5_1 (Int32.toNatClampNeg (p1 - (1 : Int32))) 0) (Int32.toNatClampNeg p1) p2) (Int32.toNatClampNeg (p1 + (1 : Int32))) 7)))] := hD
                  obtain rfl := Option.some.inj hf
                  have hP9 := hP.sub (ws' := [(o5, .inr (5, [.ref o7, .ref a5_1, .int v5_2, .int v5_3, .int v5_4, .int v5_5, .int v5_6, .int 1, .int v5_8, .int v5_9])), (a5_1, .inl (cyI, 400, .inl (upd (upd (upd g5_1 (Int32.toNatClampNeg (p1 - (1 : Int32))) 0) (Int32.toNatClampNeg p1) p2) (Int32.toNatClampNeg (p1 + (1 : Int32))) 7)))]) [0, 1] rfl
                  have hD9 := hD.sub (ws' := [(o5, .inr (5, [.ref o7, .ref a5_1, .int v5_2, .int v5_3, .int v5_4, .int v5_5, .int v5_6, .int 1, .int v5_8, .int v5_9])), (a5_1, .inl (cyI, 400, .inl (upd (upd (upd g5_1 (Int32.toNatClampNeg (p1 - (1 : Int32))) 0) (Int32.toNatClampNeg p1) p2) (Int32.toNatClampNeg (p1 + (1 : Int32))) 7)))]) [0, 1] (by decide) rfl
                  exact W.vret hx hb hr (fun t ht hW => ⟨⟨(), rfl, trivial, by rw [ht]; exact hP9, va_K.moved hW.alike hK, hD9⟩, hS.F ht⟩) hS.2.2 dX5_setLocal_114
              · replace hf := x_ip c_85 hf
                refine lv_aload_n hx hb dX5_setLocal_80 rfl (lv_at hl 1 rfl) ?_
                refine va_get (D := (dC, dI)) (ci := 5) (v := .ref a5_1) (C := RX5) (T := TX5) (N := 10) hx hb hts i_X5_setLocal_X5 hown hK hP 0 rfl rfl 1 (by decide) k_3 (fun _ h9 => h9) rfl dX5_setLocal_81 ?_
                refine lv_iload_n hx hb dX5_setLocal_84 rfl (lv_at hl 0 rfl) ?_
                refine lv_iconst (v := 1) hx hb dX5_setLocal_85 (by decide) ?_
                refine lv_iadd hx hb dX5_setLocal_86 ?_
                refine lv_iconst (v := 0) hx hb dX5_setLocal_87 (by decide) ?_
                obtain ⟨g_89, hf⟩ := x_gu hf
                refine va_iast hx hb hK hP hD hS 1 0 rfl rfl (x_gdin g_89) dX5_setLocal_88 (fun H locs hP hD hS => ?_)
                have hP : va_P (dC, dI) vwCl [(o5, .inr (5, [.ref o7, .ref a5_1, .int v5_2, .int v5_3, .int v5_4, .int v5_5, .int v5_6, .int v5_7, .int v5_8, .int v5_9])), (a5_1, .inl (cyI, 400, .inl (upd (upd g5_1 (Int32.toNatClampNeg (p1 - (1 : Int32))) 0) (Int32.toNatClampNeg ((p1 + (1 : Int32)) + (1 : Int32))) 0)))] H := hP
                have hD : va_D A [(o5, .inr (5, [.ref o7, .ref a5_1, .int v5_2, .int v5_3, .int v5_4, .int v5_5, .int v5_6, .int v5_7, .int v5_8, .int v5_9])), (a5_1, .inl (cyI, 400, .inl (upd (upd g5_1 (Int32.toNatClampNeg (p1 - (1 : Int32))) 0) (Int32.toNatClampNeg ((p1 + (1 : Int32)) + (1 : Int32))) 0)))] := hD
                refine lv_aload_n hx hb dX5_setLocal_89 rfl (lv_at hl 1 rfl) ?_
                refine va_get (D := (dC, dI)) (ci := 5) (v := .ref a5_1) (C := RX5) (T := TX5) (N := 10) hx hb hts i_X5_setLocal_X5 hown hK hP 0 rfl rfl 1 (by decide) k_3 (fun _ h9 => h9) rfl dX5_setLocal_90 ?_
                refine lv_iload_n hx hb dX5_setLocal_93 rfl (lv_at hl 2 rfl) ?_
                refine lv_iload_n hx hb dX5_setLocal_94 rfl (lv_at hl 3 rfl) ?_
                obtain ⟨g_90, hf⟩ := x_gu hf
                refine va_iast hx hb hK hP hD hS 1 0 rfl rfl (x_gdin g_90) dX5_setLocal_95 (fun H locs hP hD hS => ?_)
                have hP : va_P (dC, dI) vwCl [(o5, .inr (5, [.ref o7, .ref a5_1, .int v5_2, .int v5_3, .int v5_4, .int v5_5, .int v5_6, .int v5_7, .int v5_8, .int v5_9])), (a5_1, .inl (cyI, 400, .inl (upd (upd (upd g5_1 (Int32.toNatClampNeg (p1 - (1 : Int32))) 0) (Int32.toNatClampNeg ((p1 + (1 : Int32)) + (1 : Int32))) 0) (Int32.toNatClampNeg p1) p2)))] H := hP
                have hD : va_D A [(o5, .inr (5, [.ref o7, .ref a5_1, .int v5_2, .int v5_3, .int v5_4, .int v5_5, .int v5_6, .int v5_7, .int v5_8, .int v5_9])), (a5_1, .inl (cyI, 400, .inl (upd (upd (upd g5_1 (Int32.toNatClampNeg (p1 - (1 : Int32))) 0) (Int32.toNatClampNeg ((p1 + (1 : Int32)) + (1 : Int32))) 0) (Int32.toNatClampNeg p1) p2)))] := hD
                refine lv_iload_n hx hb dX5_setLocal_96 rfl (lv_at hl 0 rfl) ?_
                refine lv_iload_n hx hb dX5_setLocal_97 rfl (lv_at hl 2 rfl) ?_
                refine lv_icmp_le (tgt := 109) hx hb dX5_setLocal_98 (by decide) (fun c_91 => ?_) (fun c_91 => ?_)
                · replace hf := x_ip c_91 hf
                  refine lv_aload_n hx hb dX5_setLocal_109 rfl (lv_at hl 1 rfl) ?_
                  refine lv_iconst (v := 1) hx hb dX5_setLocal_110 (by decide) ?_
                  refine va_put (D := (dC, dI)) (ci := 5) (v := .int 1) (ty := .boolean) (C := RX5) (T := TX5) (N := 10) hx hb hts i_X5_setLocal_X5 tyX5 tyX5_ok nmX5 hown hK hP hD hS 0 rfl rfl 7 (by decide) k_4 (fun _ h9 => h9) rfl (by decide +kernel) rfl rfl (Nat.le_of_ble_eq_true rfl) dX5_setLocal_111 (fun H locs hP hD hS => ?_)
                  have hP : va_P (dC, dI) vwCl [(o5, .inr (5, [.ref o7, .ref a5_1, .int v5_2, .int v5_3, .int v5_4, .int v5_5, .int v5_6, .int 1, .int v5_8, .int v5_9])), (a5_1, .inl (cyI, 400, .inl (upd (upd (upd g5_1 (Int32.toNatClampNeg (p1 - (1 : Int32))) 0) (Int32.toNatClampNeg ((p1 + (1 : Int32)) + (1 : Int32))) 0) (Int32.toNatClampNeg p1) p2)))] H := hP
                  have hD : va_D A [(o5, .inr (5, [.ref o7, .ref a5_1, .int v5_2, .int v5_3, .int v5_4, .int v5_5, .int v5_6, .int 1, .int v5_8, .int v5_9])), (a5_1, .inl (cyI, 400, .inl (upd (upd (upd g5_1 (Int32.toNatClampNeg (p1 - (1 : Int32))) 0) (Int32.toNatClampNeg ((p1 + (1 : Int32)) + (1 : Int32))) 0) (Int32.toNatClampNeg p1) p2)))] := hD
                  obtain rfl := Option.some.inj hf
                  have hP9 := hP.sub (ws' := [(o5, .inr (5, [.ref o7, .ref a5_1, .int v5_2, .int v5_3, .int v5_4, .int v5_5, .int v5_6, .int 1, .int v5_8, .int v5_9])), (a5_1, .inl (cyI, 400, .inl (upd (upd (upd g5_1 (Int32.toNatClampNeg (p1 - (1 : Int32))) 0) (Int32.toNatClampNeg ((p1 + (1 : Int32)) + (1 : Int32))) 0) (Int32.toNatClampNeg p1) p2)))]) [0, 1] rfl
                  have hD9 := hD.sub (ws' := [(o5, .inr (5, [.ref o7, .ref a5_1, .int v5_2, .int v5_3, .int v5_4, .int v5_5, .int v5_6, .int 1, .int v5_8, .int v5_9])), (a5_1, .inl (cyI, 400, .inl (upd (upd (upd g5_1 (Int32.toNatClampNeg (p1 - (1 : Int32))) 0) (Int32.toNatClampNeg ((p1 + (1 : Int32)) + (1 : Int32))) 0) (Int32.toNatClampNeg p1) p2)))]) [0, 1] (by decide) rfl
                  exact W.vret hx hb hr (fun t ht hW => ⟨⟨(), rfl, trivial, by rw [ht]; exact hP9, va_K.moved hW.alike hK, hD9⟩, hS.F ht⟩) hS.2.2 dX5_setLocal_114
                · replace hf := x_in c_91 hf
                  refine lv_aload_n hx hb dX5_setLocal_101 rfl (lv_at hl 1 rfl) ?_
                  refine va_get (D := (dC, dI)) (ci := 5) (v := .ref a5_1) (C := RX5) (T := TX5) (N := 10) hx hb hts i_X5_setLocal_X5 hown hK hP 0 rfl rfl 1 (by decide) k_3 (fun _ h9 => h9) rfl dX5_setLocal_102 ?_
                  refine lv_iload_n hx hb dX5_setLocal_105 rfl (lv_at hl 0 rfl) ?_
                  refine lv_bipush (v := 7) hx hb dX5_setLocal_106 (by decide) ?_
                  obtain ⟨g_92, hf⟩ := x_gu hf
                  refine va_iast hx hb hK hP hD hS 1 0 rfl rfl (x_gdin g_92) dX5_setLocal_108 (fun H locs hP hD hS => ?_)
                  have hP : va_P (dC, dI) vwCl [(o5, .inr (5, [.ref o7, .ref a5_1, .int v5_2, .int v5_3, .int v5_4, .int v5_5, .int v5_6, .int v5_7, .int v5_8, .int v5_9])), (a5_1, .inl (cyI, 400, .inl (upd (upd (upd (upd g5_1 (Int32.toNatClampNeg (p1 - (1 : Int32))) 0) (Int32.toNatClampNeg ((p1 + (1 : Int32)) + (1 : Int32))) 0) (Int32.toNatClampNeg p1) p2) (Int32.toNatClampNeg (p1 + (1 : Int32))) 7)))] H := hP
                  have hD : va_D A [(o5, .inr (5, [.ref o7, .ref a5_1, .int v5_2, .int v5_3, .int v5_4, .int v5_5, .int v5_6, .int v5_7, .int v5_8, .int v5_9])), (a5_1, .inl (cyI, 400, .inl (upd (upd (upd (upd g5_1 (Int32.toNatClampNeg (p1 - (1 : Int32))) 0) (Int32.toNatClampNeg ((p1 + (1 : Int32)) + (1 : Int32))) 0) (Int32.toNatClampNeg p1) p2) (Int32.toNatClampNeg (p1 + (1 : Int32))) 7)))] := hD
                  refine lv_aload_n hx hb dX5_setLocal_109 rfl (lv_at hl 1 rfl) ?_
                  refine lv_iconst (v := 1) hx hb dX5_setLocal_110 (by decide) ?_
                  refine va_put (D := (dC, dI)) (ci := 5) (v := .int 1) (ty := .boolean) (C := RX5) (T := TX5) (N := 10) hx hb hts i_X5_setLocal_X5 tyX5 tyX5_ok nmX5 hown hK hP hD hS 0 rfl rfl 7 (by decide) k_4 (fun _ h9 => h9) rfl (by decide +kernel) rfl rfl (Nat.le_of_ble_eq_true rfl) dX5_setLocal_111 (fun H locs hP hD hS => ?_)
                  have hP : va_P (dC, dI) vwCl [(o5, .inr (5, [.ref o7, .ref a5_1, .int v5_2, .int v5_3, .int v5_4, .int v5_5, .int v5_6, .int 1, .int v5_8, .int v5_9])), (a5_1, .inl (cyI, 400, .inl (upd (upd (upd (upd g5_1 (Int32.toNatClampNeg (p1 - (1 : Int32))) 0) (Int32.toNatClampNeg ((p1 + (1 : Int32)) + (1 : Int32))) 0) (Int32.toNatClampNeg p1) p2) (Int32.toNatClampNeg (p1 + (1 : Int32))) 7)))] H := hP
                  have hD : va_D A [(o5, .inr (5, [.ref o7, .ref a5_1, .int v5_2, .int v5_3, .int v5_4, .int v5_5, .int v5_6, .int 1, .int v5_8, .int v5_9])), (a5_1, .inl (cyI, 400, .inl (upd (upd (upd (upd g5_1 (Int32.toNatClampNeg (p1 - (1 : Int32))) 0) (Int32.toNatClampNeg ((p1 + (1 : Int32)) + (1 : Int32))) 0) (Int32.toNatClampNeg p1) p2) (Int32.toNatClampNeg (p1 + (1 : Int32))) 7)))] := hD
                  obtain rfl := Option.some.inj hf
                  have hP9 := hP.sub (ws' := [(o5, .inr (5, [.ref o7, .ref a5_1, .int v5_2, .int v5_3, .int v5_4, .int v5_5, .int v5_6, .int 1, .int v5_8, .int v5_9])), (a5_1, .inl (cyI, 400, .inl (upd (upd (upd (upd g5_1 (Int32.toNatClampNeg (p1 - (1 : Int32))) 0) (Int32.toNatClampNeg ((p1 + (1 : Int32)) + (1 : Int32))) 0) (Int32.toNatClampNeg p1) p2) (Int32.toNatClampNeg (p1 + (1 : Int32))) 7)))]) [0, 1] rfl
                  have hD9 := hD.sub (ws' := [(o5, .inr (5, [.ref o7, .ref a5_1, .int v5_2, .int v5_3, .int v5_4, .int v5_5, .int v5_6, .int 1, .int v5_8, .int v5_9])), (a5_1, .inl (cyI, 400, .inl (upd (upd (upd (upd g5_1 (Int32.toNatClampNeg (p1 - (1 : Int32))) 0) (Int32.toNatClampNeg ((p1 + (1 : Int32)) + (1 : Int32))) 0) (Int32.toNatClampNeg p1) p2) (Int32.toNatClampNeg (p1 + (1 : Int32))) 7)))]) [0, 1] (by decide) rfl
                  exact W.vret hx hb hr (fun t ht hW => ⟨⟨(), rfl, trivial, by rw [ht]; exact hP9, va_K.moved hW.alike hK, hD9⟩, hS.F ht⟩) hS.2.2 dX5_setLocal_114
      · replace hf := x_in c_49 hf
        refine lv_aload_n hx hb dX5_setLocal_27 rfl (lv_at hl 1 rfl) ?_
        refine lv_iconst (v := 1) hx hb dX5_setLocal_28 (by decide) ?_
        refine va_put (D := (dC, dI)) (ci := 5) (v := .int 1) (ty := .boolean) (C := RX5) (T := TX5) (N := 10) hx hb hts i_X5_setLocal_X5 tyX5 tyX5_ok nmX5 hown hK hP hD hS 0 rfl rfl 6 (by decide) k_1 (fun _ h9 => h9) rfl (by decide +kernel) rfl rfl (Nat.le_of_ble_eq_true rfl) dX5_setLocal_29 (fun H locs hP hD hS => ?_)
        have hP : va_P (dC, dI) vwCl [(o5, .inr (5, [.ref o7, .ref a5_1, .int v5_2, .int v5_3, .int v5_4, .int v5_5, .int 1, .int v5_7, .int v5_8, .int v5_9])), (a5_1, .inl (cyI, 400, .inl g5_1))] H := hP
        have hD : va_D A [(o5, .inr (5, [.ref o7, .ref a5_1, .int v5_2, .int v5_3, .int v5_4, .int v5_5, .int 1, .int v5_7, .int v5_8, .int v5_9])), (a5_1, .inl (cyI, 400, .inl g5_1))] := hD
        obtain rfl := Option.some.inj hf
        have hP9 := hP.sub (ws' := [(o5, .inr (5, [.ref o7, .ref a5_1, .int v5_2, .int v5_3, .int v5_4, .int v5_5, .int 1, .int v5_7, .int v5_8, .int v5_9])), (a5_1, .inl (cyI, 400, .inl g5_1))]) [0, 1] rfl
        have hD9 := hD.sub (ws' := [(o5, .inr (5, [.ref o7, .ref a5_1, .int v5_2, .int v5_3, .int v5_4, .int v5_5, .int 1, .int v5_7, .int v5_8, .int v5_9])), (a5_1, .inl (cyI, 400, .inl g5_1))]) [0, 1] (by decide) rfl
        exact W.vret hx hb hr (fun t ht hW => ⟨⟨(), rfl, trivial, by rw [ht]; exact hP9, va_K.moved hW.alike hK, hD9⟩, hS.F ht⟩) hS.2.2 dX5_setLocal_32

def f_X5_push (v5_3 : Int32) (v5_4 : Int32) (v5_6 : Int32) (g5_1 : Nat → Int32) (p1 : Int32) : Option (Int32 × Int32 × (Nat → Int32)) := (f_X5_isWide p1) >>= (fun r_1 => if r_1 = (0 : Int32) then if (v5_3 + (1 : Int32)) ≤ v5_4 then if x_gd v5_3 400 = true then some (v5_3 + (1 : Int32), v5_6, upd g5_1 (Int32.toNatClampNeg v5_3) p1) else none else some (v5_3, 1, g5_1) else if (v5_3 + (2 : Int32)) ≤ v5_4 then if x_gd v5_3 400 = true then if x_gd (v5_3 + (1 : Int32)) 400 = true then some (v5_3 + (2 : Int32), v5_6, upd (upd g5_1 (Int32.toNatClampNeg v5_3) p1) (Int32.toNatClampNeg (v5_3 + (1 : Int32))) 7) else none else none else some (v5_3, 1, g5_1))
theorem i_X5_push_X5 : ∀ w ∈ wsX50, w ∈ wsX5_push := by decide +kernel
set_option maxHeartbeats 4000000 in
set_option maxRecDepth 100000 in
theorem c_X5_push (l : Launch) (dC : Nat → ClassId) (dI : Nat → Nat → Nat) (cyI cyZ cyJ : ClassId) (sz : Nat) (o5 : Nat) (o7 : Nat) (a5_1 : Nat) (v5_2 : Int32) (v5_3 : Int32) (v5_4 : Int32) (v5_5 : Int32) (v5_6 : Int32) (v5_7 : Int32) (v5_8 : Int32) (v5_9 : Int32) (g5_1 : Nat → Int32) (p1 : Int32) (R : Int32 × Int32 × (Nat → Int32)) (hf : f_X5_push v5_3 v5_4 v5_6 g5_1 p1 = some R) : Met l yX5_push wsX5_push ({ frames := 1, cells := 0, slots := 0, locals := 20 }) (va_Pc [.ref o5, .int p1] (x_PreD (dC, dI) (x_T cyI cyZ cyJ) [(o5, .inr (5, [.ref o7, .ref a5_1, .int v5_2, .int v5_3, .int v5_4, .int v5_5, .int v5_6, .int v5_7, .int v5_8, .int v5_9])), (a5_1, .inl (cyI, 400, .inl g5_1))] sz)) (va_Qv (fun _ : Unit => True) (fun (_ : Unit) (t : State) => va_P (dC, dI) vwCl [(o5, .inr (5, [.ref o7, .ref a5_1, .int v5_2, .int (R.1), .int v5_4, .int v5_5, .int (R.2.1), .int v5_7, .int v5_8, .int v5_9])), (a5_1, .inl (cyI, 400, .inl R.2.2))] t.heap ∧ va_K (dC, dI) vwCl (x_T cyI cyZ cyJ) t ∧ va_D (va_A [(o5, .inr (5, [.ref o7, .ref a5_1, .int v5_2, .int v5_3, .int v5_4, .int v5_5, .int v5_6, .int v5_7, .int v5_8, .int v5_9])), (a5_1, .inl (cyI, 400, .inl g5_1))] sz) [(o5, .inr (5, [.ref o7, .ref a5_1, .int v5_2, .int (R.1), .int v5_4, .int v5_5, .int (R.2.1), .int v5_7, .int v5_8, .int v5_9])), (a5_1, .inl (cyI, 400, .inl R.2.2))]) (va_A [(o5, .inr (5, [.ref o7, .ref a5_1, .int v5_2, .int v5_3, .int v5_4, .int v5_5, .int v5_6, .int v5_7, .int v5_8, .int v5_9])), (a5_1, .inl (cyI, 400, .inl g5_1))] sz)) 0 0 (va_A [(o5, .inr (5, [.ref o7, .ref a5_1, .int v5_2, .int v5_3, .int v5_4, .int v5_5, .int v5_6, .int v5_7, .int v5_8, .int v5_9])), (a5_1, .inl (cyI, 400, .inl g5_1))] sz) := by
  refine Met.ofW (cc := cX5_push) (maxL := 3) (ret := none) (by decide) rfl ?_
  intro p e s m args below meth c s₁ B hml hv
  obtain ⟨rfl, ⟨hsz, hP, hK, hN⟩, hD0⟩ := hv
  have hx := B.exec
  have hb := B.bytes
  have hr := B.returns
  have hts := atoms_spec (ws := wsX5_push) B.pre
  have hown : s.vm.findClass RX5 = some m.cls := findClass_of_methodNamed B.named
  have k_1 := hts (.fieldLink RX5 32 "FlowJudge$Places" "top" "I") (by decide +kernel)
  have k_2 := hts (.fieldLink RX5 29 "FlowJudge$Places" "end" "I") (by decide +kernel)
  have k_3 := hts (.fieldLink RX5 9 "FlowJudge$Places" "cells" "[I") (by decide +kernel)
  have k_4 := hts (.fieldLink RX5 38 "FlowJudge$Places" "refused" "Z") (by decide +kernel)
  subst hsz
  have hD := hD0.self (sz := s.heap.size)
  generalize hAe : va_A [(o5, .inr (5, [.ref o7, .ref a5_1, .int v5_2, .int v5_3, .int v5_4, .int v5_5, .int v5_6, .int v5_7, .int v5_8, .int v5_9])), (a5_1, .inl (cyI, 400, .inl g5_1))] s.heap.size = A at hD ⊢
  have hA : ∀ q : Nat, s.heap.size ≤ q → A q := fun q h => by rw [← hAe]; exact Or.inr h
  have hP : va_P (dC, dI) vwCl [(o5, .inr (5, [.ref o7, .ref a5_1, .int v5_2, .int v5_3, .int v5_4, .int v5_5, .int v5_6, .int v5_7, .int v5_8, .int v5_9])), (a5_1, .inl (cyI, 400, .inl g5_1))] s.heap := hP
  have hl := lv_entry ([.ref o5, .int p1]) (n := 3) (Nat.le_of_ble_eq_true rfl)
  rw [lg_entry_eq]
  generalize (lg_sl ([.ref o5, .int p1]) ++ List.replicate (3 - (lg_sl ([.ref o5, .int p1])).length) Slot.unset).toArray = ls at hl ⊢
  have hl : lv_has ls 3 [(0, .ref o5), (1, .int p1)] := hl
  obtain ⟨H, hH⟩ : ∃ z, z = s.heap := ⟨_, rfl⟩
  refine x_here hH ?_
  have hP : va_P (dC, dI) vwCl [(o5, .inr (5, [.ref o7, .ref a5_1, .int v5_2, .int v5_3, .int v5_4, .int v5_5, .int v5_6, .int v5_7, .int v5_8, .int v5_9])), (a5_1, .inl (cyI, 400, .inl g5_1))] H := by rw [hH]; exact hP
  have hS : va_S A s.heap H [] := by rw [hH]; exact va_S.rf
  clear hH
  obtain ⟨locs, hlo⟩ : ∃ z : List Loc, z = [] := ⟨_, rfl⟩
  refine x_herl hlo ?_
  have hS : va_S A s.heap H locs := by rw [hlo]; exact hS
  clear hlo
  unfold f_X5_push at hf
  refine lv_iload_n hx hb dX5_push_0 rfl (lv_at hl 1 rfl) ?_
  obtain ⟨r_1, h_1, hf⟩ := x_bi hf
  have hPc := hP.sub (ws' := []) [] rfl
  refine va_calli (va_runS (As := [.int p1]) (rest := []) ⟨hx, hb, hml, hown, hts⟩ (c_X5_isWide l dC dI cyI cyZ cyJ H.size p1 r_1 h_1) (va_cwS 1 hts gX5_push_X5_isWide rfl rfl rfl (by decide +kernel) ⟨Nat.le_of_ble_eq_true rfl, Nat.le_of_ble_eq_true rfl⟩) (x_pS hN hK hPc) rfl rfl hl.1 rfl (lv_room (Nat.le_of_ble_eq_true rfl)) dX5_push_1 ⟨Nat.le_of_ble_eq_true rfl, Nat.le_of_ble_eq_true rfl⟩) hS x_nA (x_nf hA hS) (fun q_1 u t H1 locs ht hvm hw hB hz1 hk1 hS => ?_)
  have hP := x_kp hP hk1
  clear ht hvm hB hz1 hk1 t u hPc
  generalize H1 = H at hP hS ⊢
  obtain ⟨hw, b_1⟩ := hw
  obtain rfl := hw.symm
  refine lv_if_eq (tgt := 11) hx hb dX5_push_4 (by decide) (fun c_2 => ?_) (fun c_2 => ?_)
  · replace hf := x_ip c_2 hf
    refine lv_iconst (v := 1) hx hb dX5_push_11 (by decide) ?_
    refine lv_istore_n (lv' := [(2, .int 1), (0, .ref o5), (1, .int p1)]) hx hb dX5_push_12 rfl hl (by decide) rfl (fun ls hl => ?_)
    refine lv_aload_n hx hb dX5_push_13 rfl (lv_at hl 1 rfl) ?_
    refine va_get (D := (dC, dI)) (ci := 5) (v := .int v5_3) (C := RX5) (T := TX5) (N := 10) hx hb hts i_X5_push_X5 hown hK hP 0 rfl rfl 3 (by decide) k_1 (fun _ h9 => h9) rfl dX5_push_14 ?_
    refine lv_iload_n hx hb dX5_push_17 rfl (lv_at hl 0 rfl) ?_
    refine lv_iadd hx hb dX5_push_18 ?_
    refine lv_aload_n hx hb dX5_push_19 rfl (lv_at hl 1 rfl) ?_
    refine va_get (D := (dC, dI)) (ci := 5) (v := .int v5_4) (C := RX5) (T := TX5) (N := 10) hx hb hts i_X5_push_X5 hown hK hP 0 rfl rfl 4 (by decide) k_2 (fun _ h9 => h9) rfl dX5_push_20 ?_
    refine lv_icmp_le (tgt := 32) hx hb dX5_push_23 (by decide) (fun c_3 => ?_) (fun c_3 => ?_)
    · replace hf := x_ip c_3 hf
      refine lv_aload_n hx hb dX5_push_32 rfl (lv_at hl 1 rfl) ?_
      refine va_get (D := (dC, dI)) (ci := 5) (v := .ref a5_1) (C := RX5) (T := TX5) (N := 10) hx hb hts i_X5_push_X5 hown hK hP 0 rfl rfl 1 (by decide) k_3 (fun _ h9 => h9) rfl dX5_push_33 ?_
      refine lv_aload_n hx hb dX5_push_36 rfl (lv_at hl 1 rfl) ?_
      refine va_get (D := (dC, dI)) (ci := 5) (v := .int v5_3) (C := RX5) (T := TX5) (N := 10) hx hb hts i_X5_push_X5 hown hK hP 0 rfl rfl 3 (by decide) k_1 (fun _ h9 => h9) rfl dX5_push_37 ?_
      refine lv_iload_n hx hb dX5_push_40 rfl (lv_at hl 2 rfl) ?_
      obtain ⟨g_4, hf⟩ := x_gu hf
      refine va_iast hx hb hK hP hD hS 1 0 rfl rfl (x_gdin g_4) dX5_push_41 (fun H locs hP hD hS => ?_)
      have hP : va_P (dC, dI) vwCl [(o5, .inr (5, [.ref o7, .ref a5_1, .int v5_2, .int v5_3, .int v5_4, .int v5_5, .int v5_6, .int v5_7, .int v5_8, .int v5_9])), (a5_1, .inl (cyI, 400, .inl (upd g5_1 (Int32.toNatClampNeg v5_3) p1)))] H := hP
      have hD : va_D A [(o5, .inr (5, [.ref o7, .ref a5_1, .int v5_2, .int v5_3, .int v5_4, .int v5_5, .int v5_6, .int v5_7, .int v5_8, .int v5_9])), (a5_1, .inl (cyI, 400, .inl (upd g5_1 (Int32.toNatClampNeg v5_3) p1)))] := hD
      refine lv_iload_n hx hb dX5_push_42 rfl (lv_at hl 0 rfl) ?_
      refine lv_iconst (v := 2) hx hb dX5_push_43 (by decide) ?_
      refine lv_icmp_ne (tgt := 60) hx hb dX5_push_44 (by decide) (fun _ => ?_) (fun c_5 => absurd c_5 (by decide))
      refine lv_aload_n hx hb dX5_push_60 rfl (lv_at hl 1 rfl) ?_
      refine lv_dup hx hb dX5_push_61 rfl ?_
      refine va_get (D := (dC, dI)) (ci := 5) (v := .int v5_3) (C := RX5) (T := TX5) (N := 10) hx hb hts i_X5_push_X5 hown hK hP 0 rfl rfl 3 (by decide) k_1 (fun _ h9 => h9) rfl dX5_push_62 ?_
      refine lv_iload_n hx hb dX5_push_65 rfl (lv_at hl 0 rfl) ?_
      refine lv_iadd hx hb dX5_push_66 ?_
      refine va_put (D := (dC, dI)) (ci := 5) (v := .int (v5_3 + (1 : Int32))) (ty := .int) (C := RX5) (T := TX5) (N := 10) hx hb hts i_X5_push_X5 tyX5 tyX5_ok nmX5 hown hK hP hD hS 0 rfl rfl 3 (by decide) k_1 (fun _ h9 => h9) rfl (by decide +kernel) rfl rfl (Nat.le_of_ble_eq_true rfl) dX5_push_67 (fun H locs hP hD hS => ?_)
      have hP : va_P (dC, dI) vwCl [(o5, .inr (5, [.ref o7, .ref a5_1, .int v5_2, .int (v5_3 + (1 : Int32)), .int v5_4, .int v5_5, .int v5_6, .int v5_7, .int v5_8, .int v5_9])), (a5_1, .inl (cyI, 400, .inl (upd g5_1 (Int32.toNatClampNeg v5_3) p1)))] H := hP
      have hD : va_D A [(o5, .inr (5, [.ref o7, .ref a5_1, .int v5_2, .int (v5_3 + (1 : Int32)), .int v5_4, .int v5_5, .int v5_6, .int v5_7, .int v5_8, .int v5_9])), (a5_1, .inl (cyI, 400, .inl (upd g5_1 (Int32.toNatClampNeg v5_3) p1)))] := hD
      obtain rfl := Option.some.inj hf
      have hP9 := hP.sub (ws' := [(o5, .inr (5, [.ref o7, .ref a5_1, .int v5_2, .int (v5_3 + (1 : Int32)), .int v5_4, .int v5_5, .int v5_6, .int v5_7, .int v5_8, .int v5_9])), (a5_1, .inl (cyI, 400, .inl (upd g5_1 (Int32.toNatClampNeg v5_3) p1)))]) [0, 1] rfl
      have hD9 := hD.sub (ws' := [(o5, .inr (5, [.ref o7, .ref a5_1, .int v5_2, .int (v5_3 + (1 : Int32)), .int v5_4, .int v5_5, .int v5_6, .int v5_7, .int v5_8, .int v5_9])), (a5_1, .inl (cyI, 400, .inl (upd g5_1 (Int32.toNatClampNeg v5_3) p1)))]) [0, 1] (by decide) rfl
      exact W.vret hx hb hr (fun t ht hW => ⟨⟨(), rfl, trivial, by rw [ht]; exact hP9, va_K.moved hW.alike hK, hD9⟩, hS.F ht⟩) hS.2.2 dX5_push_70
    · replace hf := x_in c_3 hf
      refine lv_aload_n hx hb dX5_push_26 rfl (lv_at hl 1 rfl) ?_
      refine lv_iconst (v := 1) hx hb dX5_push_27 (by decide) ?_
      refine va_put (D := (dC, dI)) (ci := 5) (v := .int 1) (ty := .boolean) (C := RX5) (T := TX5) (N := 10) hx hb hts i_X5_push_X5 tyX5 tyX5_ok nmX5 hown hK hP hD hS 0 rfl rfl 6 (by decide) k_4 (fun _ h9 => h9) rfl (by decide +kernel) rfl rfl (Nat.le_of_ble_eq_true rfl) dX5_push_28 (fun H locs hP hD hS => ?_)
      have hP : va_P (dC, dI) vwCl [(o5, .inr (5, [.ref o7, .ref a5_1, .int v5_2, .int v5_3, .int v5_4, .int v5_5, .int 1, .int v5_7, .int v5_8, .int v5_9])), (a5_1, .inl (cyI, 400, .inl g5_1))] H := hP
      have hD : va_D A [(o5, .inr (5, [.ref o7, .ref a5_1, .int v5_2, .int v5_3, .int v5_4, .int v5_5, .int 1, .int v5_7, .int v5_8, .int v5_9])), (a5_1, .inl (cyI, 400, .inl g5_1))] := hD
      obtain rfl := Option.some.inj hf
      have hP9 := hP.sub (ws' := [(o5, .inr (5, [.ref o7, .ref a5_1, .int v5_2, .int v5_3, .int v5_4, .int v5_5, .int 1, .int v5_7, .int v5_8, .int v5_9])), (a5_1, .inl (cyI, 400, .inl g5_1))]) [0, 1] rfl
      have hD9 := hD.sub (ws' := [(o5, .inr (5, [.ref o7, .ref a5_1, .int v5_2, .int v5_3, .int v5_4, .int v5_5, .int 1, .int v5_7, .int v5_8, .int v5_9])), (a5_1, .inl (cyI, 400, .inl g5_1))]) [0, 1] (by decide) rfl
      exact W.vret hx hb hr (fun t ht hW => ⟨⟨(), rfl, trivial, by rw [ht]; exact hP9, va_K.moved hW.alike hK, hD9⟩, hS.F ht⟩) hS.2.2 dX5_push_31
  · replace hf := x_in c_2 hf
    refine lv_iconst (v := 2) hx hb dX5_push_7 (by decide) ?_
    refine lv_goto (tgt := 12) hx hb dX5_push_8 (by decide) ?_
    refine lv_istore_n (lv' := [(2, .int 2), (0, .ref o5), (1, .int p1)]) hx hb dX5_push_12 rfl hl (by decide) rfl (fun ls hl => ?_)
    refine lv_aload_n hx hb dX5_push_13 rfl (lv_at hl 1 rfl) ?_
    refine va_get (D := (dC, dI)) (ci := 5) (v := .int v5_3) (C := RX5) (T := TX5) (N := 10) hx hb hts i_X5_push_X5 hown hK hP 0 rfl rfl 3 (by decide) k_1 (fun _ h9 => h9) rfl dX5_push_14 ?_
    refine lv_iload_n hx hb dX5_push_17 rfl (lv_at hl 0 rfl) ?_
    refine lv_iadd hx hb dX5_push_18 ?_
    refine lv_aload_n hx hb dX5_push_19 rfl (lv_at hl 1 rfl) ?_
    refine va_get (D := (dC, dI)) (ci := 5) (v := .int v5_4) (C := RX5) (T := TX5) (N := 10) hx hb hts i_X5_push_X5 hown hK hP 0 rfl rfl 4 (by decide) k_2 (fun _ h9 => h9) rfl dX5_push_20 ?_
    refine lv_icmp_le (tgt := 32) hx hb dX5_push_23 (by decide) (fun c_6 => ?_) (fun c_6 => ?_)
    · replace hf := x_ip c_6 hf
      refine lv_aload_n hx hb dX5_push_32 rfl (lv_at hl 1 rfl) ?_
      refine va_get (D := (dC, dI)) (ci := 5) (v := .ref a5_1) (C := RX5) (T := TX5) (N := 10) hx hb hts i_X5_push_X5 hown hK hP 0 rfl rfl 1 (by decide) k_3 (fun _ h9 => h9) rfl dX5_push_33 ?_
      refine lv_aload_n hx hb dX5_push_36 rfl (lv_at hl 1 rfl) ?_
      refine va_get (D := (dC, dI)) (ci := 5) (v := .int v5_3) (C := RX5) (T := TX5) (N := 10) hx hb hts i_X5_push_X5 hown hK hP 0 rfl rfl 3 (by decide) k_1 (fun _ h9 => h9) rfl dX5_push_37 ?_
      refine lv_iload_n hx hb dX5_push_40 rfl (lv_at hl 2 rfl) ?_
      obtain ⟨g_7, hf⟩ := x_gu hf
      refine va_iast hx hb hK hP hD hS 1 0 rfl rfl (x_gdin g_7) dX5_push_41 (fun H locs hP hD hS => ?_)
      have hP : va_P (dC, dI) vwCl [(o5, .inr (5, [.ref o7, .ref a5_1, .int v5_2, .int v5_3, .int v5_4, .int v5_5, .int v5_6, .int v5_7, .int v5_8, .int v5_9])), (a5_1, .inl (cyI, 400, .inl (upd g5_1 (Int32.toNatClampNeg v5_3) p1)))] H := hP
      have hD : va_D A [(o5, .inr (5, [.ref o7, .ref a5_1, .int v5_2, .int v5_3, .int v5_4, .int v5_5, .int v5_6, .int v5_7, .int v5_8, .int v5_9])), (a5_1, .inl (cyI, 400, .inl (upd g5_1 (Int32.toNatClampNeg v5_3) p1)))] := hD
      refine lv_iload_n hx hb dX5_push_42 rfl (lv_at hl 0 rfl) ?_
      refine lv_iconst (v := 2) hx hb dX5_push_43 (by decide) ?_
      refine lv_icmp_ne (tgt := 60) hx hb dX5_push_44 (by decide) (fun c_8 => absurd (by decide) c_8) (fun _ => ?_)
      refine lv_aload_n hx hb dX5_push_47 rfl (lv_at hl 1 rfl) ?_
      refine va_get (D := (dC, dI)) (ci := 5) (v := .ref a5_1) (C := RX5) (T := TX5) (N := 10) hx hb hts i_X5_push_X5 hown hK hP 0 rfl rfl 1 (by decide) k_3 (fun _ h9 => h9) rfl dX5_push_48 ?_
      refine lv_aload_n hx hb dX5_push_51 rfl (lv_at hl 1 rfl) ?_
      refine va_get (D := (dC, dI)) (ci := 5) (v := .int v5_3) (C := RX5) (T := TX5) (N := 10) hx hb hts i_X5_push_X5 hown hK hP 0 rfl rfl 3 (by decide) k_1 (fun _ h9 => h9) rfl dX5_push_52 ?_
      refine lv_iconst (v := 1) hx hb dX5_push_55 (by decide) ?_
      refine lv_iadd hx hb dX5_push_56 ?_
      refine lv_bipush (v := 7) hx hb dX5_push_57 (by decide) ?_
      obtain ⟨g_9, hf⟩ := x_gu hf
      refine va_iast hx hb hK hP hD hS 1 0 rfl rfl (x_gdin g_9) dX5_push_59 (fun H locs hP hD hS => ?_)
      have hP : va_P (dC, dI) vwCl [(o5, .inr (5, [.ref o7, .ref a5_1, .int v5_2, .int v5_3, .int v5_4, .int v5_5, .int v5_6, .int v5_7, .int v5_8, .int v5_9])), (a5_1, .inl (cyI, 400, .inl (upd (upd g5_1 (Int32.toNatClampNeg v5_3) p1) (Int32.toNatClampNeg (v5_3 + (1 : Int32))) 7)))] H := hP
      have hD : va_D A [(o5, .inr (5, [.ref o7, .ref a5_1, .int v5_2, .int v5_3, .int v5_4, .int v5_5, .int v5_6, .int v5_7, .int v5_8, .int v5_9])), (a5_1, .inl (cyI, 400, .inl (upd (upd g5_1 (Int32.toNatClampNeg v5_3) p1) (Int32.toNatClampNeg (v5_3 + (1 : Int32))) 7)))] := hD
      refine lv_aload_n hx hb dX5_push_60 rfl (lv_at hl 1 rfl) ?_
      refine lv_dup hx hb dX5_push_61 rfl ?_
      refine va_get (D := (dC, dI)) (ci := 5) (v := .int v5_3) (C := RX5) (T := TX5) (N := 10) hx hb hts i_X5_push_X5 hown hK hP 0 rfl rfl 3 (by decide) k_1 (fun _ h9 => h9) rfl dX5_push_62 ?_
      refine lv_iload_n hx hb dX5_push_65 rfl (lv_at hl 0 rfl) ?_
      refine lv_iadd hx hb dX5_push_66 ?_
      refine va_put (D := (dC, dI)) (ci := 5) (v := .int (v5_3 + (2 : Int32))) (ty := .int) (C := RX5) (T := TX5) (N := 10) hx hb hts i_X5_push_X5 tyX5 tyX5_ok nmX5 hown hK hP hD hS 0 rfl rfl 3 (by decide) k_1 (fun _ h9 => h9) rfl (by decide +kernel) rfl rfl (Nat.le_of_ble_eq_true rfl) dX5_push_67 (fun H locs hP hD hS => ?_)
      have hP : va_P (dC, dI) vwCl [(o5, .inr (5, [.ref o7, .ref a5_1, .int v5_2, .int (v5_3 + (2 : Int32)), .int v5_4, .int v5_5, .int v5_6, .int v5_7, .int v5_8, .int v5_9])), (a5_1, .inl (cyI, 400, .inl (upd (upd g5_1 (Int32.toNatClampNeg v5_3) p1) (Int32.toNatClampNeg (v5_3 + (1 : Int32))) 7)))] H := hP
      have hD : va_D A [(o5, .inr (5, [.ref o7, .ref a5_1, .int v5_2, .int (v5_3 + (2 : Int32)), .int v5_4, .int v5_5, .int v5_6, .int v5_7, .int v5_8, .int v5_9])), (a5_1, .inl (cyI, 400, .inl (upd (upd g5_1 (Int32.toNatClampNeg v5_3) p1) (Int32.toNatClampNeg (v5_3 + (1 : Int32))) 7)))] := hD
      obtain rfl := Option.some.inj hf
      have hP9 := hP.sub (ws' := [(o5, .inr (5, [.ref o7, .ref a5_1, .int v5_2, .int (v5_3 + (2 : Int32)), .int v5_4, .int v5_5, .int v5_6, .int v5_7, .int v5_8, .int v5_9])), (a5_1, .inl (cyI, 400, .inl (upd (upd g5_1 (Int32.toNatClampNeg v5_3) p1) (Int32.toNatClampNeg (v5_3 + (1 : Int32))) 7)))]) [0, 1] rfl
      have hD9 := hD.sub (ws' := [(o5, .inr (5, [.ref o7, .ref a5_1, .int v5_2, .int (v5_3 + (2 : Int32)), .int v5_4, .int v5_5, .int v5_6, .int v5_7, .int v5_8, .int v5_9])), (a5_1, .inl (cyI, 400, .inl (upd (upd g5_1 (Int32.toNatClampNeg v5_3) p1) (Int32.toNatClampNeg (v5_3 + (1 : Int32))) 7)))]) [0, 1] (by decide) rfl
      exact W.vret hx hb hr (fun t ht hW => ⟨⟨(), rfl, trivial, by rw [ht]; exact hP9, va_K.moved hW.alike hK, hD9⟩, hS.F ht⟩) hS.2.2 dX5_push_70
    · replace hf := x_in c_6 hf
      refine lv_aload_n hx hb dX5_push_26 rfl (lv_at hl 1 rfl) ?_
      refine lv_iconst (v := 1) hx hb dX5_push_27 (by decide) ?_
      refine va_put (D := (dC, dI)) (ci := 5) (v := .int 1) (ty := .boolean) (C := RX5) (T := TX5) (N := 10) hx hb hts i_X5_push_X5 tyX5 tyX5_ok nmX5 hown hK hP hD hS 0 rfl rfl 6 (by decide) k_4 (fun _ h9 => h9) rfl (by decide +kernel) rfl rfl (Nat.le_of_ble_eq_true rfl) dX5_push_28 (fun H locs hP hD hS => ?_)
      have hP : va_P (dC, dI) vwCl [(o5, .inr (5, [.ref o7, .ref a5_1, .int v5_2, .int v5_3, .int v5_4, .int v5_5, .int 1, .int v5_7, .int v5_8, .int v5_9])), (a5_1, .inl (cyI, 400, .inl g5_1))] H := hP
      have hD : va_D A [(o5, .inr (5, [.ref o7, .ref a5_1, .int v5_2, .int v5_3, .int v5_4, .int v5_5, .int 1, .int v5_7, .int v5_8, .int v5_9])), (a5_1, .inl (cyI, 400, .inl g5_1))] := hD
      obtain rfl := Option.some.inj hf
      have hP9 := hP.sub (ws' := [(o5, .inr (5, [.ref o7, .ref a5_1, .int v5_2, .int v5_3, .int v5_4, .int v5_5, .int 1, .int v5_7, .int v5_8, .int v5_9])), (a5_1, .inl (cyI, 400, .inl g5_1))]) [0, 1] rfl
      have hD9 := hD.sub (ws' := [(o5, .inr (5, [.ref o7, .ref a5_1, .int v5_2, .int v5_3, .int v5_4, .int v5_5, .int 1, .int v5_7, .int v5_8, .int v5_9])), (a5_1, .inl (cyI, 400, .inl g5_1))]) [0, 1] (by decide) rfl
      exact W.vret hx hb hr (fun t ht hW => ⟨⟨(), rfl, trivial, by rw [ht]; exact hP9, va_K.moved hW.alike hK, hD9⟩, hS.F ht⟩) hS.2.2 dX5_push_31

def f_X5_pushType (v5_3 : Int32) (v5_4 : Int32) (v5_6 : Int32) (g5_1 : Nat → Int32) (p1 : Int32) : Option (Int32 × Int32 × (Nat → Int32)) := (f_X7_placeOf p1) >>= (fun r_1 => (f_X5_push v5_3 v5_4 v5_6 g5_1 r_1) >>= (fun r_2 => some (r_2.1, r_2.2.1, r_2.2.2)))
set_option maxHeartbeats 4000000 in
set_option maxRecDepth 100000 in
theorem c_X5_pushType (l : Launch) (dC : Nat → ClassId) (dI : Nat → Nat → Nat) (cyI cyZ cyJ : ClassId) (sz : Nat) (o5 : Nat) (o7 : Nat) (a5_1 : Nat) (v5_2 : Int32) (v5_3 : Int32) (v5_4 : Int32) (v5_5 : Int32) (v5_6 : Int32) (v5_7 : Int32) (v5_8 : Int32) (v5_9 : Int32) (g5_1 : Nat → Int32) (p1 : Int32) (R : Int32 × Int32 × (Nat → Int32)) (hf : f_X5_pushType v5_3 v5_4 v5_6 g5_1 p1 = some R) : Met l yX5_pushType wsX5_pushType ({ frames := 2, cells := 0, slots := 0, locals := 42 }) (va_Pc [.ref o5, .int p1] (x_PreD (dC, dI) (x_T cyI cyZ cyJ) [(o5, .inr (5, [.ref o7, .ref a5_1, .int v5_2, .int v5_3, .int v5_4, .int v5_5, .int v5_6, .int v5_7, .int v5_8, .int v5_9])), (a5_1, .inl (cyI, 400, .inl g5_1))] sz)) (va_Qv (fun _ : Unit => True) (fun (_ : Unit) (t : State) => va_P (dC, dI) vwCl [(o5, .inr (5, [.ref o7, .ref a5_1, .int v5_2, .int (R.1), .int v5_4, .int v5_5, .int (R.2.1), .int v5_7, .int v5_8, .int v5_9])), (a5_1, .inl (cyI, 400, .inl R.2.2))] t.heap ∧ va_K (dC, dI) vwCl (x_T cyI cyZ cyJ) t ∧ va_D (va_A [(o5, .inr (5, [.ref o7, .ref a5_1, .int v5_2, .int v5_3, .int v5_4, .int v5_5, .int v5_6, .int v5_7, .int v5_8, .int v5_9])), (a5_1, .inl (cyI, 400, .inl g5_1))] sz) [(o5, .inr (5, [.ref o7, .ref a5_1, .int v5_2, .int (R.1), .int v5_4, .int v5_5, .int (R.2.1), .int v5_7, .int v5_8, .int v5_9])), (a5_1, .inl (cyI, 400, .inl R.2.2))]) (va_A [(o5, .inr (5, [.ref o7, .ref a5_1, .int v5_2, .int v5_3, .int v5_4, .int v5_5, .int v5_6, .int v5_7, .int v5_8, .int v5_9])), (a5_1, .inl (cyI, 400, .inl g5_1))] sz)) 0 0 (va_A [(o5, .inr (5, [.ref o7, .ref a5_1, .int v5_2, .int v5_3, .int v5_4, .int v5_5, .int v5_6, .int v5_7, .int v5_8, .int v5_9])), (a5_1, .inl (cyI, 400, .inl g5_1))] sz) := by
  refine Met.ofW (cc := cX5_pushType) (maxL := 2) (ret := none) (by decide) rfl ?_
  intro p e s m args below meth c s₁ B hml hv
  obtain ⟨rfl, ⟨hsz, hP, hK, hN⟩, hD0⟩ := hv
  have hx := B.exec
  have hb := B.bytes
  have hr := B.returns
  have hts := atoms_spec (ws := wsX5_pushType) B.pre
  have hown : s.vm.findClass RX5 = some m.cls := findClass_of_methodNamed B.named
  subst hsz
  have hD := hD0.self (sz := s.heap.size)
  generalize hAe : va_A [(o5, .inr (5, [.ref o7, .ref a5_1, .int v5_2, .int v5_3, .int v5_4, .int v5_5, .int v5_6, .int v5_7, .int v5_8, .int v5_9])), (a5_1, .inl (cyI, 400, .inl g5_1))] s.heap.size = A at hD ⊢
  have hA : ∀ q : Nat, s.heap.size ≤ q → A q := fun q h => by rw [← hAe]; exact Or.inr h
  have hP : va_P (dC, dI) vwCl [(o5, .inr (5, [.ref o7, .ref a5_1, .int v5_2, .int v5_3, .int v5_4, .int v5_5, .int v5_6, .int v5_7, .int v5_8, .int v5_9])), (a5_1, .inl (cyI, 400, .inl g5_1))] s.heap := hP
  have hl := lv_entry ([.ref o5, .int p1]) (n := 2) (Nat.le_of_ble_eq_true rfl)
  rw [lg_entry_eq]
  generalize (lg_sl ([.ref o5, .int p1]) ++ List.replicate (2 - (lg_sl ([.ref o5, .int p1])).length) Slot.unset).toArray = ls at hl ⊢
  have hl : lv_has ls 2 [(0, .ref o5), (1, .int p1)] := hl
  obtain ⟨H, hH⟩ : ∃ z, z = s.heap := ⟨_, rfl⟩
  refine x_here hH ?_
  have hP : va_P (dC, dI) vwCl [(o5, .inr (5, [.ref o7, .ref a5_1, .int v5_2, .int v5_3, .int v5_4, .int v5_5, .int v5_6, .int v5_7, .int v5_8, .int v5_9])), (a5_1, .inl (cyI, 400, .inl g5_1))] H := by rw [hH]; exact hP
  have hS : va_S A s.heap H [] := by rw [hH]; exact va_S.rf
  clear hH
  obtain ⟨locs, hlo⟩ : ∃ z : List Loc, z = [] := ⟨_, rfl⟩
  refine x_herl hlo ?_
  have hS : va_S A s.heap H locs := by rw [hlo]; exact hS
  clear hlo
  unfold f_X5_pushType at hf
  refine lv_aload_n hx hb dX5_pushType_0 rfl (lv_at hl 0 rfl) ?_
  refine lv_iload_n hx hb dX5_pushType_1 rfl (lv_at hl 1 rfl) ?_
  obtain ⟨r_1, h_1, hf⟩ := x_bi hf
  have hPc := hP.sub (ws' := []) [] rfl
  refine va_calli (va_runS (As := [.int p1]) (rest := [.ref o5]) ⟨hx, hb, hml, hown, hts⟩ (c_X7_placeOf l dC dI cyI cyZ cyJ H.size p1 r_1 h_1) (va_cwS 1 hts gX5_pushType_X7_placeOf rfl rfl rfl (by decide +kernel) ⟨Nat.le_of_ble_eq_true rfl, Nat.le_of_ble_eq_true rfl⟩) (x_pS hN hK hPc) rfl rfl hl.1 rfl (lv_room (Nat.le_of_ble_eq_true rfl)) dX5_pushType_2 ⟨Nat.le_of_ble_eq_true rfl, Nat.le_of_ble_eq_true rfl⟩) hS x_nA (x_nf hA hS) (fun q_1 u t H1 locs ht hvm hw hB hz1 hk1 hS => ?_)
  have hP := x_kp hP hk1
  clear ht hvm hB hz1 hk1 t u hPc
  generalize H1 = H at hP hS ⊢
  obtain rfl := hw.symm
  obtain ⟨r_2, h_2, hf⟩ := x_bi hf
  have hPc := hP.sub (ws' := [(o5, .inr (5, [.ref o7, .ref a5_1, .int v5_2, .int v5_3, .int v5_4, .int v5_5, .int v5_6, .int v5_7, .int v5_8, .int v5_9])), (a5_1, .inl (cyI, 400, .inl g5_1))]) [0, 1] rfl
  have hDc := hD.sub (ws' := [(o5, .inr (5, [.ref o7, .ref a5_1, .int v5_2, .int v5_3, .int v5_4, .int v5_5, .int v5_6, .int v5_7, .int v5_8, .int v5_9])), (a5_1, .inl (cyI, 400, .inl g5_1))]) [0, 1] (by decide) rfl
  have hFc := va_free (wc := [(o5, .inr (5, [.ref o7, .ref a5_1, .int v5_2, .int v5_3, .int v5_4, .int v5_5, .int v5_6, .int v5_7, .int v5_8, .int v5_9])), (a5_1, .inl (cyI, 400, .inl g5_1))]) hD hS hA [0, 1] rfl
  refine va_callv (va_runV (As := [.int r_1]) (rest := []) ⟨hx, hb, hml, hown, hts⟩ (c_X5_push l dC dI cyI cyZ cyJ H.size o5 o7 a5_1 v5_2 v5_3 v5_4 v5_5 v5_6 v5_7 v5_8 v5_9 g5_1 r_1 r_2 h_2) (cwV 1 hts gX5_pushType_X5_push rfl rfl rfl (by decide +kernel) ⟨Nat.le_of_ble_eq_true rfl, Nat.le_of_ble_eq_true rfl⟩) (x_pVD hN hK hPc hDc (ci := 5) (q0 := 0) rfl rfl) rfl rfl hl.1 rfl (lv_room (Nat.le_of_ble_eq_true rfl)) dX5_pushType_5 ⟨Nat.le_of_ble_eq_true rfl, Nat.le_of_ble_eq_true rfl⟩) hS (fun q _ h => hFc q h) hFc (fun u t H1 locs ht hvm hw hB hz1 hk1 hS => ?_)
  obtain ⟨hP1, hK1, hD1⟩ := hB
  rw [ht] at hP1
  obtain ⟨hP, hD⟩ := va_join (wr := []) (w1 := [(o5, .inr (5, [.ref o7, .ref a5_1, .int v5_2, .int (r_2.1), .int v5_4, .int v5_5, .int (r_2.2.1), .int v5_7, .int v5_8, .int v5_9])), (a5_1, .inl (cyI, 400, .inl r_2.2.2))]) hP hD [0, 1] [] rfl rfl (by decide) (by decide) hk1 hFc hP1 hD1
  clear hz1 hk1 hPc hDc hFc hP1 hK1 hD1 ht hvm t u
  generalize H1 = H at hP hS ⊢
  have hP : va_P (dC, dI) vwCl [(o5, .inr (5, [.ref o7, .ref a5_1, .int v5_2, .int (r_2.1), .int v5_4, .int v5_5, .int (r_2.2.1), .int v5_7, .int v5_8, .int v5_9])), (a5_1, .inl (cyI, 400, .inl r_2.2.2))] H := hP
  have hD : va_D A [(o5, .inr (5, [.ref o7, .ref a5_1, .int v5_2, .int (r_2.1), .int v5_4, .int v5_5, .int (r_2.2.1), .int v5_7, .int v5_8, .int v5_9])), (a5_1, .inl (cyI, 400, .inl r_2.2.2))] := hD
  obtain rfl := Option.some.inj hf
  have hP9 := hP.sub (ws' := [(o5, .inr (5, [.ref o7, .ref a5_1, .int v5_2, .int (r_2.1), .int v5_4, .int v5_5, .int (r_2.2.1), .int v5_7, .int v5_8, .int v5_9])), (a5_1, .inl (cyI, 400, .inl r_2.2.2))]) [0, 1] rfl
  have hD9 := hD.sub (ws' := [(o5, .inr (5, [.ref o7, .ref a5_1, .int v5_2, .int (r_2.1), .int v5_4, .int v5_5, .int (r_2.2.1), .int v5_7, .int v5_8, .int v5_9])), (a5_1, .inl (cyI, 400, .inl r_2.2.2))]) [0, 1] (by decide) rfl
  exact W.vret hx hb hr (fun t ht hW => ⟨⟨(), rfl, trivial, by rw [ht]; exact hP9, va_K.moved hW.alike hK, hD9⟩, hS.F ht⟩) hS.2.2 dX5_pushType_8

def f_X5_pull (v5_2 : Int32) (v5_3 : Int32) (v5_6 : Int32) (g5_1 : Nat → Int32) : Option (Int32 × Int32 × Int32) := if v5_3 ≤ v5_2 then some (0, v5_3, 1) else if x_gd (v5_3 - (1 : Int32)) 400 = true then if (g5_1 (Int32.toNatClampNeg (v5_3 - (1 : Int32)))) = (7 : Int32) then some (0, v5_3, 1) else if x_gd (v5_3 - (1 : Int32)) 400 = true then some (g5_1 (Int32.toNatClampNeg (v5_3 - (1 : Int32))), v5_3 - (1 : Int32), v5_6) else none else none
theorem i_X5_pull_X5 : ∀ w ∈ wsX50, w ∈ wsX5_pull := by decide +kernel
set_option maxHeartbeats 4000000 in
set_option maxRecDepth 100000 in
theorem c_X5_pull (l : Launch) (dC : Nat → ClassId) (dI : Nat → Nat → Nat) (cyI cyZ cyJ : ClassId) (sz : Nat) (o5 : Nat) (o7 : Nat) (a5_1 : Nat) (v5_2 : Int32) (v5_3 : Int32) (v5_4 : Int32) (v5_5 : Int32) (v5_6 : Int32) (v5_7 : Int32) (v5_8 : Int32) (v5_9 : Int32) (g5_1 : Nat → Int32) (R : Int32 × Int32 × Int32) (hf : f_X5_pull v5_2 v5_3 v5_6 g5_1 = some R) : Met l yX5_pull wsX5_pull ({ frames := 0, cells := 0, slots := 0, locals := 0 }) (va_Pc [.ref o5] (x_PreD (dC, dI) (x_T cyI cyZ cyJ) [(o5, .inr (5, [.ref o7, .ref a5_1, .int v5_2, .int v5_3, .int v5_4, .int v5_5, .int v5_6, .int v5_7, .int v5_8, .int v5_9])), (a5_1, .inl (cyI, 400, .inl g5_1))] sz)) (va_Qi (fun (r : Int32) (_ : Unit) => r = R.1) (fun (_ : Unit) (t : State) => va_P (dC, dI) vwCl [(o5, .inr (5, [.ref o7, .ref a5_1, .int v5_2, .int (R.2.1), .int v5_4, .int v5_5, .int (R.2.2), .int v5_7, .int v5_8, .int v5_9])), (a5_1, .inl (cyI, 400, .inl g5_1))] t.heap ∧ va_K (dC, dI) vwCl (x_T cyI cyZ cyJ) t ∧ va_D (va_A [(o5, .inr (5, [.ref o7, .ref a5_1, .int v5_2, .int v5_3, .int v5_4, .int v5_5, .int v5_6, .int v5_7, .int v5_8, .int v5_9])), (a5_1, .inl (cyI, 400, .inl g5_1))] sz) [(o5, .inr (5, [.ref o7, .ref a5_1, .int v5_2, .int (R.2.1), .int v5_4, .int v5_5, .int (R.2.2), .int v5_7, .int v5_8, .int v5_9])), (a5_1, .inl (cyI, 400, .inl g5_1))]) (va_A [(o5, .inr (5, [.ref o7, .ref a5_1, .int v5_2, .int v5_3, .int v5_4, .int v5_5, .int v5_6, .int v5_7, .int v5_8, .int v5_9])), (a5_1, .inl (cyI, 400, .inl g5_1))] sz)) 0 0 (va_A [(o5, .inr (5, [.ref o7, .ref a5_1, .int v5_2, .int v5_3, .int v5_4, .int v5_5, .int v5_6, .int v5_7, .int v5_8, .int v5_9])), (a5_1, .inl (cyI, 400, .inl g5_1))] sz) := by
  refine Met.ofW (cc := cX5_pull) (maxL := 1) (ret := (some .int)) (by decide) rfl ?_
  intro p e s m args below meth c s₁ B hml hv
  obtain ⟨rfl, ⟨hsz, hP, hK, hN⟩, hD0⟩ := hv
  have hx := B.exec
  have hb := B.bytes
  have hr := B.returns
  have hts := atoms_spec (ws := wsX5_pull) B.pre
  have hown : s.vm.findClass RX5 = some m.cls := findClass_of_methodNamed B.named
  have k_1 := hts (.fieldLink RX5 32 "FlowJudge$Places" "top" "I") (by decide +kernel)
  have k_2 := hts (.fieldLink RX5 25 "FlowJudge$Places" "locals" "I") (by decide +kernel)
  have k_3 := hts (.fieldLink RX5 38 "FlowJudge$Places" "refused" "Z") (by decide +kernel)
  have k_4 := hts (.fieldLink RX5 9 "FlowJudge$Places" "cells" "[I") (by decide +kernel)
  subst hsz
  have hD := hD0.self (sz := s.heap.size)
  generalize hAe : va_A [(o5, .inr (5, [.ref o7, .ref a5_1, .int v5_2, .int v5_3, .int v5_4, .int v5_5, .int v5_6, .int v5_7, .int v5_8, .int v5_9])), (a5_1, .inl (cyI, 400, .inl g5_1))] s.heap.size = A at hD ⊢
  have hA : ∀ q : Nat, s.heap.size ≤ q → A q := fun q h => by rw [← hAe]; exact Or.inr h
  have hP : va_P (dC, dI) vwCl [(o5, .inr (5, [.ref o7, .ref a5_1, .int v5_2, .int v5_3, .int v5_4, .int v5_5, .int v5_6, .int v5_7, .int v5_8, .int v5_9])), (a5_1, .inl (cyI, 400, .inl g5_1))] s.heap := hP
  have hl := lv_entry ([.ref o5]) (n := 1) (Nat.le_of_ble_eq_true rfl)
  rw [lg_entry_eq]
  generalize (lg_sl ([.ref o5]) ++ List.replicate (1 - (lg_sl ([.ref o5])).length) Slot.unset).toArray = ls at hl ⊢
  have hl : lv_has ls 1 [(0, .ref o5)] := hl
  obtain ⟨H, hH⟩ : ∃ z, z = s.heap := ⟨_, rfl⟩
  refine x_here hH ?_
  have hP : va_P (dC, dI) vwCl [(o5, .inr (5, [.ref o7, .ref a5_1, .int v5_2, .int v5_3, .int v5_4, .int v5_5, .int v5_6, .int v5_7, .int v5_8, .int v5_9])), (a5_1, .inl (cyI, 400, .inl g5_1))] H := by rw [hH]; exact hP
  have hS : va_S A s.heap H [] := by rw [hH]; exact va_S.rf
  clear hH
  obtain ⟨locs, hlo⟩ : ∃ z : List Loc, z = [] := ⟨_, rfl⟩
  refine x_herl hlo ?_
  have hS : va_S A s.heap H locs := by rw [hlo]; exact hS
  clear hlo
  unfold f_X5_pull at hf
  refine lv_aload_n hx hb dX5_pull_0 rfl (lv_at hl 0 rfl) ?_
  refine va_get (D := (dC, dI)) (ci := 5) (v := .int v5_3) (C := RX5) (T := TX5) (N := 10) hx hb hts i_X5_pull_X5 hown hK hP 0 rfl rfl 3 (by decide) k_1 (fun _ h9 => h9) rfl dX5_pull_1 ?_
  refine lv_aload_n hx hb dX5_pull_4 rfl (lv_at hl 0 rfl) ?_
  refine va_get (D := (dC, dI)) (ci := 5) (v := .int v5_2) (C := RX5) (T := TX5) (N := 10) hx hb hts i_X5_pull_X5 hown hK hP 0 rfl rfl 2 (by decide) k_2 (fun _ h9 => h9) rfl dX5_pull_5 ?_
  refine lv_icmp_le (tgt := 27) hx hb dX5_pull_8 (by decide) (fun c_1 => ?_) (fun c_1 => ?_)
  · replace hf := x_ip c_1 hf
    refine lv_aload_n hx hb dX5_pull_27 rfl (lv_at hl 0 rfl) ?_
    refine lv_iconst (v := 1) hx hb dX5_pull_28 (by decide) ?_
    refine va_put (D := (dC, dI)) (ci := 5) (v := .int 1) (ty := .boolean) (C := RX5) (T := TX5) (N := 10) hx hb hts i_X5_pull_X5 tyX5 tyX5_ok nmX5 hown hK hP hD hS 0 rfl rfl 6 (by decide) k_3 (fun _ h9 => h9) rfl (by decide +kernel) rfl rfl (Nat.le_of_ble_eq_true rfl) dX5_pull_29 (fun H locs hP hD hS => ?_)
    have hP : va_P (dC, dI) vwCl [(o5, .inr (5, [.ref o7, .ref a5_1, .int v5_2, .int v5_3, .int v5_4, .int v5_5, .int 1, .int v5_7, .int v5_8, .int v5_9])), (a5_1, .inl (cyI, 400, .inl g5_1))] H := hP
    have hD : va_D A [(o5, .inr (5, [.ref o7, .ref a5_1, .int v5_2, .int v5_3, .int v5_4, .int v5_5, .int 1, .int v5_7, .int v5_8, .int v5_9])), (a5_1, .inl (cyI, 400, .inl g5_1))] := hD
    refine lv_iconst (v := 0) hx hb dX5_pull_32 (by decide) ?_
    obtain rfl := Option.some.inj hf
    have hP9 := hP.sub (ws' := [(o5, .inr (5, [.ref o7, .ref a5_1, .int v5_2, .int v5_3, .int v5_4, .int v5_5, .int 1, .int v5_7, .int v5_8, .int v5_9])), (a5_1, .inl (cyI, 400, .inl g5_1))]) [0, 1] rfl
    have hD9 := hD.sub (ws' := [(o5, .inr (5, [.ref o7, .ref a5_1, .int v5_2, .int v5_3, .int v5_4, .int v5_5, .int 1, .int v5_7, .int v5_8, .int v5_9])), (a5_1, .inl (cyI, 400, .inl g5_1))]) [0, 1] (by decide) rfl
    exact W.iret hx hb hr (fun t ht hW => ⟨⟨_, (), rfl, rfl, by rw [ht]; exact hP9, va_K.moved hW.alike hK, hD9⟩, hS.F ht⟩) hS.2.2 dX5_pull_33
  · replace hf := x_in c_1 hf
    refine lv_aload_n hx hb dX5_pull_11 rfl (lv_at hl 0 rfl) ?_
    refine va_get (D := (dC, dI)) (ci := 5) (v := .ref a5_1) (C := RX5) (T := TX5) (N := 10) hx hb hts i_X5_pull_X5 hown hK hP 0 rfl rfl 1 (by decide) k_4 (fun _ h9 => h9) rfl dX5_pull_12 ?_
    refine lv_aload_n hx hb dX5_pull_15 rfl (lv_at hl 0 rfl) ?_
    refine va_get (D := (dC, dI)) (ci := 5) (v := .int v5_3) (C := RX5) (T := TX5) (N := 10) hx hb hts i_X5_pull_X5 hown hK hP 0 rfl rfl 3 (by decide) k_1 (fun _ h9 => h9) rfl dX5_pull_16 ?_
    refine lv_iconst (v := 1) hx hb dX5_pull_19 (by decide) ?_
    refine lv_isub hx hb dX5_pull_20 ?_
    obtain ⟨g_2, hf⟩ := x_gu hf
    refine va_iald hx hb hK hP 1 0 rfl rfl (x_gdin g_2) dX5_pull_21 ?_
    refine lv_bipush (v := 7) hx hb dX5_pull_22 (by decide) ?_
    refine lv_icmp_ne (tgt := 34) hx hb dX5_pull_24 (by decide) (fun c_3 => ?_) (fun c_3 => ?_)
    · replace hf := x_in c_3 hf
      refine lv_aload_n hx hb dX5_pull_34 rfl (lv_at hl 0 rfl) ?_
      refine lv_dup hx hb dX5_pull_35 rfl ?_
      refine va_get (D := (dC, dI)) (ci := 5) (v := .int v5_3) (C := RX5) (T := TX5) (N := 10) hx hb hts i_X5_pull_X5 hown hK hP 0 rfl rfl 3 (by decide) k_1 (fun _ h9 => h9) rfl dX5_pull_36 ?_
      refine lv_iconst (v := 1) hx hb dX5_pull_39 (by decide) ?_
      refine lv_isub hx hb dX5_pull_40 ?_
      refine va_put (D := (dC, dI)) (ci := 5) (v := .int (v5_3 - (1 : Int32))) (ty := .int) (C := RX5) (T := TX5) (N := 10) hx hb hts i_X5_pull_X5 tyX5 tyX5_ok nmX5 hown hK hP hD hS 0 rfl rfl 3 (by decide) k_1 (fun _ h9 => h9) rfl (by decide +kernel) rfl rfl (Nat.le_of_ble_eq_true rfl) dX5_pull_41 (fun H locs hP hD hS => ?_)
      have hP : va_P (dC, dI) vwCl [(o5, .inr (5, [.ref o7, .ref a5_1, .int v5_2, .int (v5_3 - (1 : Int32)), .int v5_4, .int v5_5, .int v5_6, .int v5_7, .int v5_8, .int v5_9])), (a5_1, .inl (cyI, 400, .inl g5_1))] H := hP
      have hD : va_D A [(o5, .inr (5, [.ref o7, .ref a5_1, .int v5_2, .int (v5_3 - (1 : Int32)), .int v5_4, .int v5_5, .int v5_6, .int v5_7, .int v5_8, .int v5_9])), (a5_1, .inl (cyI, 400, .inl g5_1))] := hD
      refine lv_aload_n hx hb dX5_pull_44 rfl (lv_at hl 0 rfl) ?_
      refine va_get (D := (dC, dI)) (ci := 5) (v := .ref a5_1) (C := RX5) (T := TX5) (N := 10) hx hb hts i_X5_pull_X5 hown hK hP 0 rfl rfl 1 (by decide) k_4 (fun _ h9 => h9) rfl dX5_pull_45 ?_
      refine lv_aload_n hx hb dX5_pull_48 rfl (lv_at hl 0 rfl) ?_
      refine va_get (D := (dC, dI)) (ci := 5) (v := .int (v5_3 - (1 : Int32))) (C := RX5) (T := TX5) (N := 10) hx hb hts i_X5_pull_X5 hown hK hP 0 rfl rfl 3 (by decide) k_1 (fun _ h9 => h9) rfl dX5_pull_49 ?_
      obtain ⟨g_4, hf⟩ := x_gu hf
      refine va_iald hx hb hK hP 1 0 rfl rfl (x_gdin g_4) dX5_pull_52 ?_
      obtain rfl := Option.some.inj hf
      have hP9 := hP.sub (ws' := [(o5, .inr (5, [.ref o7, .ref a5_1, .int v5_2, .int (v5_3 - (1 : Int32)), .int v5_4, .int v5_5, .int v5_6, .int v5_7, .int v5_8, .int v5_9])), (a5_1, .inl (cyI, 400, .inl g5_1))]) [0, 1] rfl
      have hD9 := hD.sub (ws' := [(o5, .inr (5, [.ref o7, .ref a5_1, .int v5_2, .int (v5_3 - (1 : Int32)), .int v5_4, .int v5_5, .int v5_6, .int v5_7, .int v5_8, .int v5_9])), (a5_1, .inl (cyI, 400, .inl g5_1))]) [0, 1] (by decide) rfl
      exact W.iret hx hb hr (fun t ht hW => ⟨⟨_, (), rfl, rfl, by rw [ht]; exact hP9, va_K.moved hW.alike hK, hD9⟩, hS.F ht⟩) hS.2.2 dX5_pull_53
    · replace hf := x_ip c_3 hf
      refine lv_aload_n hx hb dX5_pull_27 rfl (lv_at hl 0 rfl) ?_
      refine lv_iconst (v := 1) hx hb dX5_pull_28 (by decide) ?_
      refine va_put (D := (dC, dI)) (ci := 5) (v := .int 1) (ty := .boolean) (C := RX5) (T := TX5) (N := 10) hx hb hts i_X5_pull_X5 tyX5 tyX5_ok nmX5 hown hK hP hD hS 0 rfl rfl 6 (by decide) k_3 (fun _ h9 => h9) rfl (by decide +kernel) rfl rfl (Nat.le_of_ble_eq_true rfl) dX5_pull_29 (fun H locs hP hD hS => ?_)
      have hP : va_P (dC, dI) vwCl [(o5, .inr (5, [.ref o7, .ref a5_1, .int v5_2, .int v5_3, .int v5_4, .int v5_5, .int 1, .int v5_7, .int v5_8, .int v5_9])), (a5_1, .inl (cyI, 400, .inl g5_1))] H := hP
      have hD : va_D A [(o5, .inr (5, [.ref o7, .ref a5_1, .int v5_2, .int v5_3, .int v5_4, .int v5_5, .int 1, .int v5_7, .int v5_8, .int v5_9])), (a5_1, .inl (cyI, 400, .inl g5_1))] := hD
      refine lv_iconst (v := 0) hx hb dX5_pull_32 (by decide) ?_
      obtain rfl := Option.some.inj hf
      have hP9 := hP.sub (ws' := [(o5, .inr (5, [.ref o7, .ref a5_1, .int v5_2, .int v5_3, .int v5_4, .int v5_5, .int 1, .int v5_7, .int v5_8, .int v5_9])), (a5_1, .inl (cyI, 400, .inl g5_1))]) [0, 1] rfl
      have hD9 := hD.sub (ws' := [(o5, .inr (5, [.ref o7, .ref a5_1, .int v5_2, .int v5_3, .int v5_4, .int v5_5, .int 1, .int v5_7, .int v5_8, .int v5_9])), (a5_1, .inl (cyI, 400, .inl g5_1))]) [0, 1] (by decide) rfl
      exact W.iret hx hb hr (fun t ht hW => ⟨⟨_, (), rfl, rfl, by rw [ht]; exact hP9, va_K.moved hW.alike hK, hD9⟩, hS.F ht⟩) hS.2.2 dX5_pull_33

def f_X5_pullKind (v5_2 : Int32) (v5_3 : Int32) (v5_6 : Int32) (g5_1 : Nat → Int32) (p1 : Int32) : Option (Int32 × Int32) := (f_X5_isWide p1) >>= (fun r_1 => if r_1 = (0 : Int32) then if (v5_3 - (1 : Int32)) < v5_2 then some (v5_3, 1) else if x_gd (v5_3 - (1 : Int32)) 400 = true then if (g5_1 (Int32.toNatClampNeg (v5_3 - (1 : Int32)))) = p1 then some (v5_3 - (1 : Int32), v5_6) else some (v5_3, 1) else none else if (v5_3 - (2 : Int32)) < v5_2 then some (v5_3, 1) else if x_gd (v5_3 - (2 : Int32)) 400 = true then if (g5_1 (Int32.toNatClampNeg (v5_3 - (2 : Int32)))) = p1 then some (v5_3 - (2 : Int32), v5_6) else some (v5_3, 1) else none)
theorem i_X5_pullKind_X5 : ∀ w ∈ wsX50, w ∈ wsX5_pullKind := by decide +kernel
set_option maxHeartbeats 4000000 in
set_option maxRecDepth 100000 in
theorem c_X5_pullKind (l : Launch) (dC : Nat → ClassId) (dI : Nat → Nat → Nat) (cyI cyZ cyJ : ClassId) (sz : Nat) (o5 : Nat) (o7 : Nat) (a5_1 : Nat) (v5_2 : Int32) (v5_3 : Int32) (v5_4 : Int32) (v5_5 : Int32) (v5_6 : Int32) (v5_7 : Int32) (v5_8 : Int32) (v5_9 : Int32) (g5_1 : Nat → Int32) (p1 : Int32) (R : Int32 × Int32) (hf : f_X5_pullKind v5_2 v5_3 v5_6 g5_1 p1 = some R) : Met l yX5_pullKind wsX5_pullKind ({ frames := 1, cells := 0, slots := 0, locals := 20 }) (va_Pc [.ref o5, .int p1] (x_PreD (dC, dI) (x_T cyI cyZ cyJ) [(o5, .inr (5, [.ref o7, .ref a5_1, .int v5_2, .int v5_3, .int v5_4, .int v5_5, .int v5_6, .int v5_7, .int v5_8, .int v5_9])), (a5_1, .inl (cyI, 400, .inl g5_1))] sz)) (va_Qv (fun _ : Unit => True) (fun (_ : Unit) (t : State) => va_P (dC, dI) vwCl [(o5, .inr (5, [.ref o7, .ref a5_1, .int v5_2, .int (R.1), .int v5_4, .int v5_5, .int (R.2), .int v5_7, .int v5_8, .int v5_9])), (a5_1, .inl (cyI, 400, .inl g5_1))] t.heap ∧ va_K (dC, dI) vwCl (x_T cyI cyZ cyJ) t ∧ va_D (va_A [(o5, .inr (5, [.ref o7, .ref a5_1, .int v5_2, .int v5_3, .int v5_4, .int v5_5, .int v5_6, .int v5_7, .int v5_8, .int v5_9])), (a5_1, .inl (cyI, 400, .inl g5_1))] sz) [(o5, .inr (5, [.ref o7, .ref a5_1, .int v5_2, .int (R.1), .int v5_4, .int v5_5, .int (R.2), .int v5_7, .int v5_8, .int v5_9])), (a5_1, .inl (cyI, 400, .inl g5_1))]) (va_A [(o5, .inr (5, [.ref o7, .ref a5_1, .int v5_2, .int v5_3, .int v5_4, .int v5_5, .int v5_6, .int v5_7, .int v5_8, .int v5_9])), (a5_1, .inl (cyI, 400, .inl g5_1))] sz)) 0 0 (va_A [(o5, .inr (5, [.ref o7, .ref a5_1, .int v5_2, .int v5_3, .int v5_4, .int v5_5, .int v5_6, .int v5_7, .int v5_8, .int v5_9])), (a5_1, .inl (cyI, 400, .inl g5_1))] sz) := by
  refine Met.ofW (cc := cX5_pullKind) (maxL := 3) (ret := none) (by decide) rfl ?_
  intro p e s m args below meth c s₁ B hml hv
  obtain ⟨rfl, ⟨hsz, hP, hK, hN⟩, hD0⟩ := hv
  have hx := B.exec
  have hb := B.bytes
  have hr := B.returns
  have hts := atoms_spec (ws := wsX5_pullKind) B.pre
  have hown : s.vm.findClass RX5 = some m.cls := findClass_of_methodNamed B.named
  have k_1 := hts (.fieldLink RX5 32 "FlowJudge$Places" "top" "I") (by decide +kernel)
  have k_2 := hts (.fieldLink RX5 25 "FlowJudge$Places" "locals" "I") (by decide +kernel)
  have k_3 := hts (.fieldLink RX5 38 "FlowJudge$Places" "refused" "Z") (by decide +kernel)
  have k_4 := hts (.fieldLink RX5 9 "FlowJudge$Places" "cells" "[I") (by decide +kernel)
  subst hsz
  have hD := hD0.self (sz := s.heap.size)
  generalize hAe : va_A [(o5, .inr (5, [.ref o7, .ref a5_1, .int v5_2, .int v5_3, .int v5_4, .int v5_5, .int v5_6, .int v5_7, .int v5_8, .int v5_9])), (a5_1, .inl (cyI, 400, .inl g5_1))] s.heap.size = A at hD ⊢
  have hA : ∀ q : Nat, s.heap.size ≤ q → A q := fun q h => by rw [← hAe]; exact Or.inr h
  have hP : va_P (dC, dI) vwCl [(o5, .inr (5, [.ref o7, .ref a5_1, .int v5_2, .int v5_3, .int v5_4, .int v5_5, .int v5_6, .int v5_7, .int v5_8, .int v5_9])), (a5_1, .inl (cyI, 400, .inl g5_1))] s.heap := hP
  have hl := lv_entry ([.ref o5, .int p1]) (n := 3) (Nat.le_of_ble_eq_true rfl)
  rw [lg_entry_eq]
  generalize (lg_sl ([.ref o5, .int p1]) ++ List.replicate (3 - (lg_sl ([.ref o5, .int p1])).length) Slot.unset).toArray = ls at hl ⊢
  have hl : lv_has ls 3 [(0, .ref o5), (1, .int p1)] := hl
  obtain ⟨H, hH⟩ : ∃ z, z = s.heap := ⟨_, rfl⟩
  refine x_here hH ?_
  have hP : va_P (dC, dI) vwCl [(o5, .inr (5, [.ref o7, .ref a5_1, .int v5_2, .int v5_3, .int v5_4, .int v5_5, .int v5_6, .int v5_7, .int v5_8, .int v5_9])), (a5_1, .inl (cyI, 400, .inl g5_1))] H := by rw [hH]; exact hP
  have hS : va_S A s.heap H [] := by rw [hH]; exact va_S.rf
  clear hH
  obtain ⟨locs, hlo⟩ : ∃ z : List Loc, z = [] := ⟨_, rfl⟩
  refine x_herl hlo ?_
  have hS : va_S A s.heap H locs := by rw [hlo]; exact hS
  clear hlo
  unfold f_X5_pullKind at hf
  refine lv_iload_n hx hb dX5_pullKind_0 rfl (lv_at hl 1 rfl) ?_
  obtain ⟨r_1, h_1, hf⟩ := x_bi hf
  have hPc := hP.sub (ws' := []) [] rfl
  refine va_calli (va_runS (As := [.int p1]) (rest := []) ⟨hx, hb, hml, hown, hts⟩ (c_X5_isWide l dC dI cyI cyZ cyJ H.size p1 r_1 h_1) (va_cwS 1 hts gX5_pullKind_X5_isWide rfl rfl rfl (by decide +kernel) ⟨Nat.le_of_ble_eq_true rfl, Nat.le_of_ble_eq_true rfl⟩) (x_pS hN hK hPc) rfl rfl hl.1 rfl (lv_room (Nat.le_of_ble_eq_true rfl)) dX5_pullKind_1 ⟨Nat.le_of_ble_eq_true rfl, Nat.le_of_ble_eq_true rfl⟩) hS x_nA (x_nf hA hS) (fun q_1 u t H1 locs ht hvm hw hB hz1 hk1 hS => ?_)
  have hP := x_kp hP hk1
  clear ht hvm hB hz1 hk1 t u hPc
  generalize H1 = H at hP hS ⊢
  obtain ⟨hw, b_1⟩ := hw
  obtain rfl := hw.symm
  refine lv_if_eq (tgt := 11) hx hb dX5_pullKind_4 (by decide) (fun c_2 => ?_) (fun c_2 => ?_)
  · replace hf := x_ip c_2 hf
    refine lv_iconst (v := 1) hx hb dX5_pullKind_11 (by decide) ?_
    refine lv_istore_n (lv' := [(2, .int 1), (0, .ref o5), (1, .int p1)]) hx hb dX5_pullKind_12 rfl hl (by decide) rfl (fun ls hl => ?_)
    refine lv_aload_n hx hb dX5_pullKind_13 rfl (lv_at hl 1 rfl) ?_
    refine va_get (D := (dC, dI)) (ci := 5) (v := .int v5_3) (C := RX5) (T := TX5) (N := 10) hx hb hts i_X5_pullKind_X5 hown hK hP 0 rfl rfl 3 (by decide) k_1 (fun _ h9 => h9) rfl dX5_pullKind_14 ?_
    refine lv_iload_n hx hb dX5_pullKind_17 rfl (lv_at hl 0 rfl) ?_
    refine lv_isub hx hb dX5_pullKind_18 ?_
    refine lv_aload_n hx hb dX5_pullKind_19 rfl (lv_at hl 1 rfl) ?_
    refine va_get (D := (dC, dI)) (ci := 5) (v := .int v5_2) (C := RX5) (T := TX5) (N := 10) hx hb hts i_X5_pullKind_X5 hown hK hP 0 rfl rfl 2 (by decide) k_2 (fun _ h9 => h9) rfl dX5_pullKind_20 ?_
    refine lv_icmp_lt (tgt := 41) hx hb dX5_pullKind_23 (by decide) (fun c_3 => ?_) (fun c_3 => ?_)
    · replace hf := x_ip c_3 hf
      refine lv_aload_n hx hb dX5_pullKind_41 rfl (lv_at hl 1 rfl) ?_
      refine lv_iconst (v := 1) hx hb dX5_pullKind_42 (by decide) ?_
      refine va_put (D := (dC, dI)) (ci := 5) (v := .int 1) (ty := .boolean) (C := RX5) (T := TX5) (N := 10) hx hb hts i_X5_pullKind_X5 tyX5 tyX5_ok nmX5 hown hK hP hD hS 0 rfl rfl 6 (by decide) k_3 (fun _ h9 => h9) rfl (by decide +kernel) rfl rfl (Nat.le_of_ble_eq_true rfl) dX5_pullKind_43 (fun H locs hP hD hS => ?_)
      have hP : va_P (dC, dI) vwCl [(o5, .inr (5, [.ref o7, .ref a5_1, .int v5_2, .int v5_3, .int v5_4, .int v5_5, .int 1, .int v5_7, .int v5_8, .int v5_9])), (a5_1, .inl (cyI, 400, .inl g5_1))] H := hP
      have hD : va_D A [(o5, .inr (5, [.ref o7, .ref a5_1, .int v5_2, .int v5_3, .int v5_4, .int v5_5, .int 1, .int v5_7, .int v5_8, .int v5_9])), (a5_1, .inl (cyI, 400, .inl g5_1))] := hD
      obtain rfl := Option.some.inj hf
      have hP9 := hP.sub (ws' := [(o5, .inr (5, [.ref o7, .ref a5_1, .int v5_2, .int v5_3, .int v5_4, .int v5_5, .int 1, .int v5_7, .int v5_8, .int v5_9])), (a5_1, .inl (cyI, 400, .inl g5_1))]) [0, 1] rfl
      have hD9 := hD.sub (ws' := [(o5, .inr (5, [.ref o7, .ref a5_1, .int v5_2, .int v5_3, .int v5_4, .int v5_5, .int 1, .int v5_7, .int v5_8, .int v5_9])), (a5_1, .inl (cyI, 400, .inl g5_1))]) [0, 1] (by decide) rfl
      exact W.vret hx hb hr (fun t ht hW => ⟨⟨(), rfl, trivial, by rw [ht]; exact hP9, va_K.moved hW.alike hK, hD9⟩, hS.F ht⟩) hS.2.2 dX5_pullKind_46
    · replace hf := x_in c_3 hf
      refine lv_aload_n hx hb dX5_pullKind_26 rfl (lv_at hl 1 rfl) ?_
      refine va_get (D := (dC, dI)) (ci := 5) (v := .ref a5_1) (C := RX5) (T := TX5) (N := 10) hx hb hts i_X5_pullKind_X5 hown hK hP 0 rfl rfl 1 (by decide) k_4 (fun _ h9 => h9) rfl dX5_pullKind_27 ?_
      refine lv_aload_n hx hb dX5_pullKind_30 rfl (lv_at hl 1 rfl) ?_
      refine va_get (D := (dC, dI)) (ci := 5) (v := .int v5_3) (C := RX5) (T := TX5) (N := 10) hx hb hts i_X5_pullKind_X5 hown hK hP 0 rfl rfl 3 (by decide) k_1 (fun _ h9 => h9) rfl dX5_pullKind_31 ?_
      refine lv_iload_n hx hb dX5_pullKind_34 rfl (lv_at hl 0 rfl) ?_
      refine lv_isub hx hb dX5_pullKind_35 ?_
      obtain ⟨g_4, hf⟩ := x_gu hf
      refine va_iald hx hb hK hP 1 0 rfl rfl (x_gdin g_4) dX5_pullKind_36 ?_
      refine lv_iload_n hx hb dX5_pullKind_37 rfl (lv_at hl 2 rfl) ?_
      refine lv_icmp_eq (tgt := 47) hx hb dX5_pullKind_38 (by decide) (fun c_5 => ?_) (fun c_5 => ?_)
      · replace hf := x_ip c_5 hf
        refine lv_aload_n hx hb dX5_pullKind_47 rfl (lv_at hl 1 rfl) ?_
        refine lv_dup hx hb dX5_pullKind_48 rfl ?_
        refine va_get (D := (dC, dI)) (ci := 5) (v := .int v5_3) (C := RX5) (T := TX5) (N := 10) hx hb hts i_X5_pullKind_X5 hown hK hP 0 rfl rfl 3 (by decide) k_1 (fun _ h9 => h9) rfl dX5_pullKind_49 ?_
        refine lv_iload_n hx hb dX5_pullKind_52 rfl (lv_at hl 0 rfl) ?_
        refine lv_isub hx hb dX5_pullKind_53 ?_
        refine va_put (D := (dC, dI)) (ci := 5) (v := .int (v5_3 - (1 : Int32))) (ty := .int) (C := RX5) (T := TX5) (N := 10) hx hb hts i_X5_pullKind_X5 tyX5 tyX5_ok nmX5 hown hK hP hD hS 0 rfl rfl 3 (by decide) k_1 (fun _ h9 => h9) rfl (by decide +kernel) rfl rfl (Nat.le_of_ble_eq_true rfl) dX5_pullKind_54 (fun H locs hP hD hS => ?_)
        have hP : va_P (dC, dI) vwCl [(o5, .inr (5, [.ref o7, .ref a5_1, .int v5_2, .int (v5_3 - (1 : Int32)), .int v5_4, .int v5_5, .int v5_6, .int v5_7, .int v5_8, .int v5_9])), (a5_1, .inl (cyI, 400, .inl g5_1))] H := hP
        have hD : va_D A [(o5, .inr (5, [.ref o7, .ref a5_1, .int v5_2, .int (v5_3 - (1 : Int32)), .int v5_4, .int v5_5, .int v5_6, .int v5_7, .int v5_8, .int v5_9])), (a5_1, .inl (cyI, 400, .inl g5_1))] := hD
        obtain rfl := Option.some.inj hf
        have hP9 := hP.sub (ws' := [(o5, .inr (5, [.ref o7, .ref a5_1, .int v5_2, .int (v5_3 - (1 : Int32)), .int v5_4, .int v5_5, .int v5_6, .int v5_7, .int v5_8, .int v5_9])), (a5_1, .inl (cyI, 400, .inl g5_1))]) [0, 1] rfl
        have hD9 := hD.sub (ws' := [(o5, .inr (5, [.ref o7, .ref a5_1, .int v5_2, .int (v5_3 - (1 : Int32)), .int v5_4, .int v5_5, .int v5_6, .int v5_7, .int v5_8, .int v5_9])), (a5_1, .inl (cyI, 400, .inl g5_1))]) [0, 1] (by decide) rfl
        exact W.vret hx hb hr (fun t ht hW => ⟨⟨(), rfl, trivial, by rw [ht]; exact hP9, va_K.moved hW.alike hK, hD9⟩, hS.F ht⟩) hS.2.2 dX5_pullKind_57
      · replace hf := x_in c_5 hf
        refine lv_aload_n hx hb dX5_pullKind_41 rfl (lv_at hl 1 rfl) ?_
        refine lv_iconst (v := 1) hx hb dX5_pullKind_42 (by decide) ?_
        refine va_put (D := (dC, dI)) (ci := 5) (v := .int 1) (ty := .boolean) (C := RX5) (T := TX5) (N := 10) hx hb hts i_X5_pullKind_X5 tyX5 tyX5_ok nmX5 hown hK hP hD hS 0 rfl rfl 6 (by decide) k_3 (fun _ h9 => h9) rfl (by decide +kernel) rfl rfl (Nat.le_of_ble_eq_true rfl) dX5_pullKind_43 (fun H locs hP hD hS => ?_)
        have hP : va_P (dC, dI) vwCl [(o5, .inr (5, [.ref o7, .ref a5_1, .int v5_2, .int v5_3, .int v5_4, .int v5_5, .int 1, .int v5_7, .int v5_8, .int v5_9])), (a5_1, .inl (cyI, 400, .inl g5_1))] H := hP
        have hD : va_D A [(o5, .inr (5, [.ref o7, .ref a5_1, .int v5_2, .int v5_3, .int v5_4, .int v5_5, .int 1, .int v5_7, .int v5_8, .int v5_9])), (a5_1, .inl (cyI, 400, .inl g5_1))] := hD
        obtain rfl := Option.some.inj hf
        have hP9 := hP.sub (ws' := [(o5, .inr (5, [.ref o7, .ref a5_1, .int v5_2, .int v5_3, .int v5_4, .int v5_5, .int 1, .int v5_7, .int v5_8, .int v5_9])), (a5_1, .inl (cyI, 400, .inl g5_1))]) [0, 1] rfl
        have hD9 := hD.sub (ws' := [(o5, .inr (5, [.ref o7, .ref a5_1, .int v5_2, .int v5_3, .int v5_4, .int v5_5, .int 1, .int v5_7, .int v5_8, .int v5_9])), (a5_1, .inl (cyI, 400, .inl g5_1))]) [0, 1] (by decide) rfl
        exact W.vret hx hb hr (fun t ht hW => ⟨⟨(), rfl, trivial, by rw [ht]; exact hP9, va_K.moved hW.alike hK, hD9⟩, hS.F ht⟩) hS.2.2 dX5_pullKind_46
  · replace hf := x_in c_2 hf
    refine lv_iconst (v := 2) hx hb dX5_pullKind_7 (by decide) ?_
    refine lv_goto (tgt := 12) hx hb dX5_pullKind_8 (by decide) ?_
    refine lv_istore_n (lv' := [(2, .int 2), (0, .ref o5), (1, .int p1)]) hx hb dX5_pullKind_12 rfl hl (by decide) rfl (fun ls hl => ?_)
    refine lv_aload_n hx hb dX5_pullKind_13 rfl (lv_at hl 1 rfl) ?_
    refine va_get (D := (dC, dI)) (ci := 5) (v := .int v5_3) (C := RX5) (T := TX5) (N := 10) hx hb hts i_X5_pullKind_X5 hown hK hP 0 rfl rfl 3 (by decide) k_1 (fun _ h9 => h9) rfl dX5_pullKind_14 ?_
    refine lv_iload_n hx hb dX5_pullKind_17 rfl (lv_at hl 0 rfl) ?_
    refine lv_isub hx hb dX5_pullKind_18 ?_
    refine lv_aload_n hx hb dX5_pullKind_19 rfl (lv_at hl 1 rfl) ?_
    refine va_get (D := (dC, dI)) (ci := 5) (v := .int v5_2) (C := RX5) (T := TX5) (N := 10) hx hb hts i_X5_pullKind_X5 hown hK hP 0 rfl rfl 2 (by decide) k_2 (fun _ h9 => h9) rfl dX5_pullKind_20 ?_
    refine lv_icmp_lt (tgt := 41) hx hb dX5_pullKind_23 (by decide) (fun c_6 => ?_) (fun c_6 => ?_)
    · replace hf := x_ip c_6 hf
      refine lv_aload_n hx hb dX5_pullKind_41 rfl (lv_at hl 1 rfl) ?_
      refine lv_iconst (v := 1) hx hb dX5_pullKind_42 (by decide) ?_
      refine va_put (D := (dC, dI)) (ci := 5) (v := .int 1) (ty := .boolean) (C := RX5) (T := TX5) (N := 10) hx hb hts i_X5_pullKind_X5 tyX5 tyX5_ok nmX5 hown hK hP hD hS 0 rfl rfl 6 (by decide) k_3 (fun _ h9 => h9) rfl (by decide +kernel) rfl rfl (Nat.le_of_ble_eq_true rfl) dX5_pullKind_43 (fun H locs hP hD hS => ?_)
      have hP : va_P (dC, dI) vwCl [(o5, .inr (5, [.ref o7, .ref a5_1, .int v5_2, .int v5_3, .int v5_4, .int v5_5, .int 1, .int v5_7, .int v5_8, .int v5_9])), (a5_1, .inl (cyI, 400, .inl g5_1))] H := hP
      have hD : va_D A [(o5, .inr (5, [.ref o7, .ref a5_1, .int v5_2, .int v5_3, .int v5_4, .int v5_5, .int 1, .int v5_7, .int v5_8, .int v5_9])), (a5_1, .inl (cyI, 400, .inl g5_1))] := hD
      obtain rfl := Option.some.inj hf
      have hP9 := hP.sub (ws' := [(o5, .inr (5, [.ref o7, .ref a5_1, .int v5_2, .int v5_3, .int v5_4, .int v5_5, .int 1, .int v5_7, .int v5_8, .int v5_9])), (a5_1, .inl (cyI, 400, .inl g5_1))]) [0, 1] rfl
      have hD9 := hD.sub (ws' := [(o5, .inr (5, [.ref o7, .ref a5_1, .int v5_2, .int v5_3, .int v5_4, .int v5_5, .int 1, .int v5_7, .int v5_8, .int v5_9])), (a5_1, .inl (cyI, 400, .inl g5_1))]) [0, 1] (by decide) rfl
      exact W.vret hx hb hr (fun t ht hW => ⟨⟨(), rfl, trivial, by rw [ht]; exact hP9, va_K.moved hW.alike hK, hD9⟩, hS.F ht⟩) hS.2.2 dX5_pullKind_46
    · replace hf := x_in c_6 hf
      refine lv_aload_n hx hb dX5_pullKind_26 rfl (lv_at hl 1 rfl) ?_
      refine va_get (D := (dC, dI)) (ci := 5) (v := .ref a5_1) (C := RX5) (T := TX5) (N := 10) hx hb hts i_X5_pullKind_X5 hown hK hP 0 rfl rfl 1 (by decide) k_4 (fun _ h9 => h9) rfl dX5_pullKind_27 ?_
      refine lv_aload_n hx hb dX5_pullKind_30 rfl (lv_at hl 1 rfl) ?_
      refine va_get (D := (dC, dI)) (ci := 5) (v := .int v5_3) (C := RX5) (T := TX5) (N := 10) hx hb hts i_X5_pullKind_X5 hown hK hP 0 rfl rfl 3 (by decide) k_1 (fun _ h9 => h9) rfl dX5_pullKind_31 ?_
      refine lv_iload_n hx hb dX5_pullKind_34 rfl (lv_at hl 0 rfl) ?_
      refine lv_isub hx hb dX5_pullKind_35 ?_
      obtain ⟨g_7, hf⟩ := x_gu hf
      refine va_iald hx hb hK hP 1 0 rfl rfl (x_gdin g_7) dX5_pullKind_36 ?_
      refine lv_iload_n hx hb dX5_pullKind_37 rfl (lv_at hl 2 rfl) ?_
      refine lv_icmp_eq (tgt := 47) hx hb dX5_pullKind_38 (by decide) (fun c_8 => ?_) (fun c_8 => ?_)
      · replace hf := x_ip c_8 hf
        refine lv_aload_n hx hb dX5_pullKind_47 rfl (lv_at hl 1 rfl) ?_
        refine lv_dup hx hb dX5_pullKind_48 rfl ?_
        refine va_get (D := (dC, dI)) (ci := 5) (v := .int v5_3) (C := RX5) (T := TX5) (N := 10) hx hb hts i_X5_pullKind_X5 hown hK hP 0 rfl rfl 3 (by decide) k_1 (fun _ h9 => h9) rfl dX5_pullKind_49 ?_
        refine lv_iload_n hx hb dX5_pullKind_52 rfl (lv_at hl 0 rfl) ?_
        refine lv_isub hx hb dX5_pullKind_53 ?_
        refine va_put (D := (dC, dI)) (ci := 5) (v := .int (v5_3 - (2 : Int32))) (ty := .int) (C := RX5) (T := TX5) (N := 10) hx hb hts i_X5_pullKind_X5 tyX5 tyX5_ok nmX5 hown hK hP hD hS 0 rfl rfl 3 (by decide) k_1 (fun _ h9 => h9) rfl (by decide +kernel) rfl rfl (Nat.le_of_ble_eq_true rfl) dX5_pullKind_54 (fun H locs hP hD hS => ?_)
        have hP : va_P (dC, dI) vwCl [(o5, .inr (5, [.ref o7, .ref a5_1, .int v5_2, .int (v5_3 - (2 : Int32)), .int v5_4, .int v5_5, .int v5_6, .int v5_7, .int v5_8, .int v5_9])), (a5_1, .inl (cyI, 400, .inl g5_1))] H := hP
        have hD : va_D A [(o5, .inr (5, [.ref o7, .ref a5_1, .int v5_2, .int (v5_3 - (2 : Int32)), .int v5_4, .int v5_5, .int v5_6, .int v5_7, .int v5_8, .int v5_9])), (a5_1, .inl (cyI, 400, .inl g5_1))] := hD
        obtain rfl := Option.some.inj hf
        have hP9 := hP.sub (ws' := [(o5, .inr (5, [.ref o7, .ref a5_1, .int v5_2, .int (v5_3 - (2 : Int32)), .int v5_4, .int v5_5, .int v5_6, .int v5_7, .int v5_8, .int v5_9])), (a5_1, .inl (cyI, 400, .inl g5_1))]) [0, 1] rfl
        have hD9 := hD.sub (ws' := [(o5, .inr (5, [.ref o7, .ref a5_1, .int v5_2, .int (v5_3 - (2 : Int32)), .int v5_4, .int v5_5, .int v5_6, .int v5_7, .int v5_8, .int v5_9])), (a5_1, .inl (cyI, 400, .inl g5_1))]) [0, 1] (by decide) rfl
        exact W.vret hx hb hr (fun t ht hW => ⟨⟨(), rfl, trivial, by rw [ht]; exact hP9, va_K.moved hW.alike hK, hD9⟩, hS.F ht⟩) hS.2.2 dX5_pullKind_57
      · replace hf := x_in c_8 hf
        refine lv_aload_n hx hb dX5_pullKind_41 rfl (lv_at hl 1 rfl) ?_
        refine lv_iconst (v := 1) hx hb dX5_pullKind_42 (by decide) ?_
        refine va_put (D := (dC, dI)) (ci := 5) (v := .int 1) (ty := .boolean) (C := RX5) (T := TX5) (N := 10) hx hb hts i_X5_pullKind_X5 tyX5 tyX5_ok nmX5 hown hK hP hD hS 0 rfl rfl 6 (by decide) k_3 (fun _ h9 => h9) rfl (by decide +kernel) rfl rfl (Nat.le_of_ble_eq_true rfl) dX5_pullKind_43 (fun H locs hP hD hS => ?_)
        have hP : va_P (dC, dI) vwCl [(o5, .inr (5, [.ref o7, .ref a5_1, .int v5_2, .int v5_3, .int v5_4, .int v5_5, .int 1, .int v5_7, .int v5_8, .int v5_9])), (a5_1, .inl (cyI, 400, .inl g5_1))] H := hP
        have hD : va_D A [(o5, .inr (5, [.ref o7, .ref a5_1, .int v5_2, .int v5_3, .int v5_4, .int v5_5, .int 1, .int v5_7, .int v5_8, .int v5_9])), (a5_1, .inl (cyI, 400, .inl g5_1))] := hD
        obtain rfl := Option.some.inj hf
        have hP9 := hP.sub (ws' := [(o5, .inr (5, [.ref o7, .ref a5_1, .int v5_2, .int v5_3, .int v5_4, .int v5_5, .int 1, .int v5_7, .int v5_8, .int v5_9])), (a5_1, .inl (cyI, 400, .inl g5_1))]) [0, 1] rfl
        have hD9 := hD.sub (ws' := [(o5, .inr (5, [.ref o7, .ref a5_1, .int v5_2, .int v5_3, .int v5_4, .int v5_5, .int 1, .int v5_7, .int v5_8, .int v5_9])), (a5_1, .inl (cyI, 400, .inl g5_1))]) [0, 1] (by decide) rfl
        exact W.vret hx hb hr (fun t ht hW => ⟨⟨(), rfl, trivial, by rw [ht]; exact hP9, va_K.moved hW.alike hK, hD9⟩, hS.F ht⟩) hS.2.2 dX5_pullKind_46

