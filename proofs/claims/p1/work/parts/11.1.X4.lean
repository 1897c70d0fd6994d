theorem i_X4_init_X4 : ∀ w ∈ wsX40, w ∈ wsX4_init := by decide +kernel
set_option maxHeartbeats 4000000 in
set_option maxRecDepth 100000 in
theorem c_X4_init (l : Launch) (dC : Nat → ClassId) (dI : Nat → Nat → Nat) (cyI cyZ cyJ : ClassId) (sz : Nat) (h0 : Nat) : Met l yX4_init wsX4_init ({ frames := 1, cells := 7, slots := 2600, locals := 12 }) (va_Pc [.ref h0] (x_PreD (dC, dI) (x_T cyI cyZ cyJ) [(h0, .inr (4, [.null, .null, .int 0, .null, .null, .null, .null, .null, .int 0]))] sz)) (va_Qv (fun _ : Unit => True) (fun (_ : Unit) (t : State) => ∃ (a0 : Nat) (a1 : Nat) (a3 : Nat) (a4 : Nat) (a5 : Nat) (a6 : Nat) (a7 : Nat), va_P (dC, dI) vwCl [(h0, .inr (4, [.ref a0, .ref a1, .int 0, .ref a3, .ref a4, .ref a5, .ref a6, .ref a7, .int 0])), (a0, .inl (cyI, 100, .inl x_z0)), (a1, .inl (cyI, 100, .inl x_z0)), (a3, .inl (cyI, 100, .inl x_z0)), (a4, .inl (cyI, 100, .inl x_z0)), (a5, .inl (cyZ, 100, .inl x_z0))] t.heap ∧ va_K (dC, dI) vwCl (x_T cyI cyZ cyJ) t ∧ va_D (va_A [(h0, .inr (4, [.null, .null, .int 0, .null, .null, .null, .null, .null, .int 0]))] sz) [(h0, .inr (4, [.ref a0, .ref a1, .int 0, .ref a3, .ref a4, .ref a5, .ref a6, .ref a7, .int 0])), (a0, .inl (cyI, 100, .inl x_z0)), (a1, .inl (cyI, 100, .inl x_z0)), (a3, .inl (cyI, 100, .inl x_z0)), (a4, .inl (cyI, 100, .inl x_z0)), (a5, .inl (cyZ, 100, .inl x_z0))]) (va_A [(h0, .inr (4, [.null, .null, .int 0, .null, .null, .null, .null, .null, .int 0]))] sz)) 7 2600 (va_A [(h0, .inr (4, [.null, .null, .int 0, .null, .null, .null, .null, .null, .int 0]))] sz) := by
  refine Met.ofW (cc := cX4_init) (maxL := 1) (ret := none) (by decide) rfl ?_
  intro p e s m args below meth c s₁ B hml hv
  obtain ⟨rfl, ⟨hsz, hP, hK, hN⟩, hD0⟩ := hv
  have hx := B.exec
  have hb := B.bytes
  have hr := B.returns
  have hts := atoms_spec (ws := wsX4_init) B.pre
  have hown : s.vm.findClass RX4 = some m.cls := findClass_of_methodNamed B.named
  have hlocks := B.notSynchronized
  have hin : meth.name = "<init>" := (name_of_methodNamed B.named B.method).1
  have k_1 := hts (.methodLink RX4 3 objectInit) (by decide +kernel)
  have k_2 := hts (.instanceMethod objectInit) (by decide +kernel)
  have k_3 := hts (.code objectInit ⟨#[0xb1]⟩ 1 none) (by decide +kernel)
  have k_4 := hts (.arrayClass .int) (by decide +kernel)
  have k_5 := hts (.fieldLink RX4 9 "FlowJudge$Members" "fieldClasses" "[I") (by decide +kernel)
  have k_6 := hts (.fieldLink RX4 15 "FlowJudge$Members" "fieldTypes" "[I") (by decide +kernel)
  have k_7 := hts (.fieldLink RX4 18 "FlowJudge$Members" "shapeClasses" "[I") (by decide +kernel)
  have k_8 := hts (.fieldLink RX4 21 "FlowJudge$Members" "shapeResults" "[I") (by decide +kernel)
  have k_9 := hts (.arrayClass .boolean) (by decide +kernel)
  have k_10 := hts (.fieldLink RX4 24 "FlowJudge$Members" "isConstructor" "[Z") (by decide +kernel)
  have k_11 := hts (.fieldLink RX4 28 "FlowJudge$Members" "taken" "[I") (by decide +kernel)
  have k_12 := hts (.fieldLink RX4 31 "FlowJudge$Members" "takenCounts" "[I") (by decide +kernel)
  subst hsz
  have hD := hD0.self (sz := s.heap.size)
  generalize hAe : va_A [(h0, .inr (4, [.null, .null, .int 0, .null, .null, .null, .null, .null, .int 0]))] s.heap.size = A at hD ⊢
  have hA : ∀ q : Nat, s.heap.size ≤ q → A q := fun q h => by rw [← hAe]; exact Or.inr h
  have hS : va_S A s.heap s.heap [] := va_S.rf
  have hP : va_P (dC, dI) vwCl [(h0, .inr (4, [.null, .null, .int 0, .null, .null, .null, .null, .null, .int 0]))] s.heap := hP
  have hl := lv_entry ([.ref h0]) (n := 1) (Nat.le_of_ble_eq_true rfl)
  rw [lg_entry_eq]
  generalize (lg_sl ([.ref h0]) ++ List.replicate (1 - (lg_sl ([.ref h0])).length) Slot.unset).toArray = ls at hl ⊢
  have hl : lv_has ls 1 [(0, .ref h0)] := hl
  obtain ⟨H, hH⟩ : ∃ z, z = s.heap := ⟨_, rfl⟩
  refine x_here hH ?_
  have hP : va_P (dC, dI) vwCl [(h0, .inr (4, [.null, .null, .int 0, .null, .null, .null, .null, .null, .int 0]))] H := by rw [hH]; exact hP
  have hS : va_S A s.heap H [] := by rw [hH]; exact va_S.rf
  clear hH
  refine lv_aload_n hx hb dX4_init_0 rfl (lv_at hl 0 rfl) ?_
  refine W.objInit hx hb hown k_1 k_2 k_3 rfl (by rw [hml]; exact hl.1) rfl dX4_init_1 (Nat.le_of_ble_eq_true rfl) (Nat.le_of_ble_eq_true rfl) ?_
  refine W.eq (g2 := F0 m 4 ls []) rfl ?_
  refine lv_aload_n hx hb dX4_init_4 rfl (lv_at hl 0 rfl) ?_
  refine lv_bipush (v := 100) hx hb dX4_init_5 (by decide) ?_
  refine va_newa (atype := .int) (ty := .int) (n := 100) (N' := 100) (a0 := (100, .inl x_z0)) hx hb k_4 rfl hK hP hD hS hA (fun _ => x_zcI _ _) (by decide) (by decide) (Nat.le_of_ble_eq_true rfl) (Nat.le_of_ble_eq_true rfl) (Nat.le_of_ble_eq_true rfl) dX4_init_7 (fun q7_1 cN H hKn hP hD hS => ?_)
  obtain rfl : cyI = cN := x_one (i := 0) (j := 3) hKn rfl rfl (fun _ h => by cases h)
  clear hKn
  have hP : va_P (dC, dI) vwCl [(h0, .inr (4, [.null, .null, .int 0, .null, .null, .null, .null, .null, .int 0])), (q7_1, .inl (cyI, 100, .inl x_z0))] H := hP
  have hD : va_D A [(h0, .inr (4, [.null, .null, .int 0, .null, .null, .null, .null, .null, .int 0])), (q7_1, .inl (cyI, 100, .inl x_z0))] := hD
  refine W.widen (k := 1) (n := 100) (Nat.le_of_ble_eq_true rfl) (Nat.le_of_ble_eq_true rfl) ?_
  refine va_putF (D := (dC, dI)) (ci := 4) (v := .ref q7_1) (ty := .array .int) (C := RX4) (T := TX4) (N := 9) hx hb hts i_X4_init_X4 tyX4 tyX4_ok nmX4 hown hK hP hD hS 0 rfl rfl 0 (by decide) k_5 (fun _ h9 => h9) rfl hin rfl (by decide +kernel) rfl rfl (Nat.le_of_ble_eq_true rfl) dX4_init_9 (fun H locs hP hD hS => ?_)
  have hP : va_P (dC, dI) vwCl [(h0, .inr (4, [.ref q7_1, .null, .int 0, .null, .null, .null, .null, .null, .int 0])), (q7_1, .inl (cyI, 100, .inl x_z0))] H := hP
  have hD : va_D A [(h0, .inr (4, [.ref q7_1, .null, .int 0, .null, .null, .null, .null, .null, .int 0])), (q7_1, .inl (cyI, 100, .inl x_z0))] := hD
  refine lv_aload_n hx hb dX4_init_12 rfl (lv_at hl 0 rfl) ?_
  refine lv_bipush (v := 100) hx hb dX4_init_13 (by decide) ?_
  refine va_newa (atype := .int) (ty := .int) (n := 100) (N' := 100) (a0 := (100, .inl x_z0)) hx hb k_4 rfl hK hP hD hS hA (fun _ => x_zcI _ _) (by decide) (by decide) (Nat.le_of_ble_eq_true rfl) (Nat.le_of_ble_eq_true rfl) (Nat.le_of_ble_eq_true rfl) dX4_init_15 (fun q15_2 cN H hKn hP hD hS => ?_)
  obtain rfl : cyI = cN := x_one (i := 0) (j := 3) hKn rfl rfl (fun _ h => by cases h)
  clear hKn
  have hP : va_P (dC, dI) vwCl [(h0, .inr (4, [.ref q7_1, .null, .int 0, .null, .null, .null, .null, .null, .int 0])), (q7_1, .inl (cyI, 100, .inl x_z0)), (q15_2, .inl (cyI, 100, .inl x_z0))] H := hP
  have hD : va_D A [(h0, .inr (4, [.ref q7_1, .null, .int 0, .null, .null, .null, .null, .null, .int 0])), (q7_1, .inl (cyI, 100, .inl x_z0)), (q15_2, .inl (cyI, 100, .inl x_z0))] := hD
  refine W.widen (k := 2) (n := 200) (Nat.le_of_ble_eq_true rfl) (Nat.le_of_ble_eq_true rfl) ?_
  refine va_putF (D := (dC, dI)) (ci := 4) (v := .ref q15_2) (ty := .array .int) (C := RX4) (T := TX4) (N := 9) hx hb hts i_X4_init_X4 tyX4 tyX4_ok nmX4 hown hK hP hD hS 0 rfl rfl 1 (by decide) k_6 (fun _ h9 => h9) rfl hin rfl (by decide +kernel) rfl rfl (Nat.le_of_ble_eq_true rfl) dX4_init_17 (fun H locs hP hD hS => ?_)
  have hP : va_P (dC, dI) vwCl [(h0, .inr (4, [.ref q7_1, .ref q15_2, .int 0, .null, .null, .null, .null, .null, .int 0])), (q7_1, .inl (cyI, 100, .inl x_z0)), (q15_2, .inl (cyI, 100, .inl x_z0))] H := hP
  have hD : va_D A [(h0, .inr (4, [.ref q7_1, .ref q15_2, .int 0, .null, .null, .null, .null, .null, .int 0])), (q7_1, .inl (cyI, 100, .inl x_z0)), (q15_2, .inl (cyI, 100, .inl x_z0))] := hD
  refine lv_aload_n hx hb dX4_init_20 rfl (lv_at hl 0 rfl) ?_
  refine lv_bipush (v := 100) hx hb dX4_init_21 (by decide) ?_
  refine va_newa (atype := .int) (ty := .int) (n := 100) (N' := 100) (a0 := (100, .inl x_z0)) hx hb k_4 rfl hK hP hD hS hA (fun _ => x_zcI _ _) (by decide) (by decide) (Nat.le_of_ble_eq_true rfl) (Nat.le_of_ble_eq_true rfl) (Nat.le_of_ble_eq_true rfl) dX4_init_23 (fun q23_3 cN H hKn hP hD hS => ?_)
  obtain rfl : cyI = cN := x_one (i := 0) (j := 3) hKn rfl rfl (fun _ h => by cases h)
  clear hKn
  have hP : va_P (dC, dI) vwCl [(h0, .inr (4, [.ref q7_1, .ref q15_2, .int 0, .null, .null, .null, .null, .null, .int 0])), (q7_1, .inl (cyI, 100, .inl x_z0)), (q15_2, .inl (cyI, 100, .inl x_z0)), (q23_3, .inl (cyI, 100, .inl x_z0))] H := hP
  have hD : va_D A [(h0, .inr (4, [.ref q7_1, .ref q15_2, .int 0, .null, .null, .null, .null, .null, .int 0])), (q7_1, .inl (cyI, 100, .inl x_z0)), (q15_2, .inl (cyI, 100, .inl x_z0)), (q23_3, .inl (cyI, 100, .inl x_z0))] := hD
  refine W.widen (k := 3) (n := 300) (Nat.le_of_ble_eq_true rfl) (Nat.le_of_ble_eq_true rfl) ?_
  refine va_putF (D := (dC, dI)) (ci := 4) (v := .ref q23_3) (ty := .array .int) (C := RX4) (T := TX4) (N := 9) hx hb hts i_X4_init_X4 tyX4 tyX4_ok nmX4 hown hK hP hD hS 0 rfl rfl 3 (by decide) k_7 (fun _ h9 => h9) rfl hin rfl (by decide +kernel) rfl rfl (Nat.le_of_ble_eq_true rfl) dX4_init_25 (fun H locs hP hD hS => ?_)
  have hP : va_P (dC, dI) vwCl [(h0, .inr (4, [.ref q7_1, .ref q15_2, .int 0, .ref q23_3, .null, .null, .null, .null, .int 0])), (q7_1, .inl (cyI, 100, .inl x_z0)), (q15_2, .inl (cyI, 100, .inl x_z0)), (q23_3, .inl (cyI, 100, .inl x_z0))] H := hP
  have hD : va_D A [(h0, .inr (4, [.ref q7_1, .ref q15_2, .int 0, .ref q23_3, .null, .null, .null, .null, .int 0])), (q7_1, .inl (cyI, 100, .inl x_z0)), (q15_2, .inl (cyI, 100, .inl x_z0)), (q23_3, .inl (cyI, 100, .inl x_z0))] := hD
  refine lv_aload_n hx hb dX4_init_28 rfl (lv_at hl 0 rfl) ?_
  refine lv_bipush (v := 100) hx hb dX4_init_29 (by decide) ?_
  refine va_newa (atype := .int) (ty := .int) (n := 100) (N' := 100) (a0 := (100, .inl x_z0)) hx hb k_4 rfl hK hP hD hS hA (fun _ => x_zcI _ _) (by decide) (by decide) (Nat.le_of_ble_eq_true rfl) (Nat.le_of_ble_eq_true rfl) (Nat.le_of_ble_eq_true rfl) dX4_init_31 (fun q31_4 cN H hKn hP hD hS => ?_)
  obtain rfl : cyI = cN := x_one (i := 0) (j := 3) hKn rfl rfl (fun _ h => by cases h)
  clear hKn
  have hP : va_P (dC, dI) vwCl [(h0, .inr (4, [.ref q7_1, .ref q15_2, .int 0, .ref q23_3, .null, .null, .null, .null, .int 0])), (q7_1, .inl (cyI, 100, .inl x_z0)), (q15_2, .inl (cyI, 100, .inl x_z0)), (q23_3, .inl (cyI, 100, .inl x_z0)), (q31_4, .inl (cyI, 100, .inl x_z0))] H := hP
  have hD : va_D A [(h0, .inr (4, [.ref q7_1, .ref q15_2, .int 0, .ref q23_3, .null, .null, .null, .null, .int 0])), (q7_1, .inl (cyI, 100, .inl x_z0)), (q15_2, .inl (cyI, 100, .inl x_z0)), (q23_3, .inl (cyI, 100, .inl x_z0)), (q31_4, .inl (cyI, 100, .inl x_z0))] := hD
  refine W.widen (k := 4) (n := 400) (Nat.le_of_ble_eq_true rfl) (Nat.le_of_ble_eq_true rfl) ?_
  refine va_putF (D := (dC, dI)) (ci := 4) (v := .ref q31_4) (ty := .array .int) (C := RX4) (T := TX4) (N := 9) hx hb hts i_X4_init_X4 tyX4 tyX4_ok nmX4 hown hK hP hD hS 0 rfl rfl 4 (by decide) k_8 (fun _ h9 => h9) rfl hin rfl (by decide +kernel) rfl rfl (Nat.le_of_ble_eq_true rfl) dX4_init_33 (fun H locs hP hD hS => ?_)
  have hP : va_P (dC, dI) vwCl [(h0, .inr (4, [.ref q7_1, .ref q15_2, .int 0, .ref q23_3, .ref q31_4, .null, .null, .null, .int 0])), (q7_1, .inl (cyI, 100, .inl x_z0)), (q15_2, .inl (cyI, 100, .inl x_z0)), (q23_3, .inl (cyI, 100, .inl x_z0)), (q31_4, .inl (cyI, 100, .inl x_z0))] H := hP
  have hD : va_D A [(h0, .inr (4, [.ref q7_1, .ref q15_2, .int 0, .ref q23_3, .ref q31_4, .null, .null, .null, .int 0])), (q7_1, .inl (cyI, 100, .inl x_z0)), (q15_2, .inl (cyI, 100, .inl x_z0)), (q23_3, .inl (cyI, 100, .inl x_z0)), (q31_4, .inl (cyI, 100, .inl x_z0))] := hD
  refine lv_aload_n hx hb dX4_init_36 rfl (lv_at hl 0 rfl) ?_
  refine lv_bipush (v := 100) hx hb dX4_init_37 (by decide) ?_
  refine va_newa (atype := .boolean) (ty := .boolean) (n := 100) (N' := 100) (a0 := (100, .inl x_z0)) hx hb k_9 rfl hK hP hD hS hA (fun _ => x_zcZ _ _) (by decide) (by decide) (Nat.le_of_ble_eq_true rfl) (Nat.le_of_ble_eq_true rfl) (Nat.le_of_ble_eq_true rfl) dX4_init_39 (fun q39_5 cN H hKn hP hD hS => ?_)
  obtain rfl : cyZ = cN := x_one (i := 1) (j := 3) hKn rfl rfl (fun _ h => by cases h)
  clear hKn
  have hP : va_P (dC, dI) vwCl [(h0, .inr (4, [.ref q7_1, .ref q15_2, .int 0, .ref q23_3, .ref q31_4, .null, .null, .null, .int 0])), (q7_1, .inl (cyI, 100, .inl x_z0)), (q15_2, .inl (cyI, 100, .inl x_z0)), (q23_3, .inl (cyI, 100, .inl x_z0)), (q31_4, .inl (cyI, 100, .inl x_z0)), (q39_5, .inl (cyZ, 100, .inl x_z0))] H := hP
  have hD : va_D A [(h0, .inr (4, [.ref q7_1, .ref q15_2, .int 0, .ref q23_3, .ref q31_4, .null, .null, .null, .int 0])), (q7_1, .inl (cyI, 100, .inl x_z0)), (q15_2, .inl (cyI, 100, .inl x_z0)), (q23_3, .inl (cyI, 100, .inl x_z0)), (q31_4, .inl (cyI, 100, .inl x_z0)), (q39_5, .inl (cyZ, 100, .inl x_z0))] := hD
  refine W.widen (k := 5) (n := 500) (Nat.le_of_ble_eq_true rfl) (Nat.le_of_ble_eq_true rfl) ?_
  refine va_putF (D := (dC, dI)) (ci := 4) (v := .ref q39_5) (ty := .array .boolean) (C := RX4) (T := TX4) (N := 9) hx hb hts i_X4_init_X4 tyX4 tyX4_ok nmX4 hown hK hP hD hS 0 rfl rfl 5 (by decide) k_10 (fun _ h9 => h9) rfl hin rfl (by decide +kernel) rfl rfl (Nat.le_of_ble_eq_true rfl) dX4_init_41 (fun H locs hP hD hS => ?_)
  have hP : va_P (dC, dI) vwCl [(h0, .inr (4, [.ref q7_1, .ref q15_2, .int 0, .ref q23_3, .ref q31_4, .ref q39_5, .null, .null, .int 0])), (q7_1, .inl (cyI, 100, .inl x_z0)), (q15_2, .inl (cyI, 100, .inl x_z0)), (q23_3, .inl (cyI, 100, .inl x_z0)), (q31_4, .inl (cyI, 100, .inl x_z0)), (q39_5, .inl (cyZ, 100, .inl x_z0))] H := hP
  have hD : va_D A [(h0, .inr (4, [.ref q7_1, .ref q15_2, .int 0, .ref q23_3, .ref q31_4, .ref q39_5, .null, .null, .int 0])), (q7_1, .inl (cyI, 100, .inl x_z0)), (q15_2, .inl (cyI, 100, .inl x_z0)), (q23_3, .inl (cyI, 100, .inl x_z0)), (q31_4, .inl (cyI, 100, .inl x_z0)), (q39_5, .inl (cyZ, 100, .inl x_z0))] := hD
  refine lv_aload_n hx hb dX4_init_44 rfl (lv_at hl 0 rfl) ?_
  refine lv_sipush (v := 2000) hx hb dX4_init_45 (by decide) ?_
  refine va_newa (atype := .int) (ty := .int) (n := 2000) (N' := 2000) (a0 := (2000, .inl x_z0)) hx hb k_4 rfl hK hP hD hS hA (fun _ => x_zcI _ _) (by decide) (by decide) (Nat.le_of_ble_eq_true rfl) (Nat.le_of_ble_eq_true rfl) (Nat.le_of_ble_eq_true rfl) dX4_init_48 (fun q48_6 cN H hKn hP hD hS => ?_)
  obtain rfl : cyI = cN := x_one (i := 0) (j := 3) hKn rfl rfl (fun _ h => by cases h)
  clear hKn
  have hP : va_P (dC, dI) vwCl [(h0, .inr (4, [.ref q7_1, .ref q15_2, .int 0, .ref q23_3, .ref q31_4, .ref q39_5, .null, .null, .int 0])), (q7_1, .inl (cyI, 100, .inl x_z0)), (q15_2, .inl (cyI, 100, .inl x_z0)), (q23_3, .inl (cyI, 100, .inl x_z0)), (q31_4, .inl (cyI, 100, .inl x_z0)), (q39_5, .inl (cyZ, 100, .inl x_z0)), (q48_6, .inl (cyI, 2000, .inl x_z0))] H := hP
  have hD : va_D A [(h0, .inr (4, [.ref q7_1, .ref q15_2, .int 0, .ref q23_3, .ref q31_4, .ref q39_5, .null, .null, .int 0])), (q7_1, .inl (cyI, 100, .inl x_z0)), (q15_2, .inl (cyI, 100, .inl x_z0)), (q23_3, .inl (cyI, 100, .inl x_z0)), (q31_4, .inl (cyI, 100, .inl x_z0)), (q39_5, .inl (cyZ, 100, .inl x_z0)), (q48_6, .inl (cyI, 2000, .inl x_z0))] := hD
  refine W.widen (k := 6) (n := 2500) (Nat.le_of_ble_eq_true rfl) (Nat.le_of_ble_eq_true rfl) ?_
  refine va_putF (D := (dC, dI)) (ci := 4) (v := .ref q48_6) (ty := .array .int) (C := RX4) (T := TX4) (N := 9) hx hb hts i_X4_init_X4 tyX4 tyX4_ok nmX4 hown hK hP hD hS 0 rfl rfl 6 (by decide) k_11 (fun _ h9 => h9) rfl hin rfl (by decide +kernel) rfl rfl (Nat.le_of_ble_eq_true rfl) dX4_init_50 (fun H locs hP hD hS => ?_)
  have hP : va_P (dC, dI) vwCl [(h0, .inr (4, [.ref q7_1, .ref q15_2, .int 0, .ref q23_3, .ref q31_4, .ref q39_5, .ref q48_6, .null, .int 0])), (q7_1, .inl (cyI, 100, .inl x_z0)), (q15_2, .inl (cyI, 100, .inl x_z0)), (q23_3, .inl (cyI, 100, .inl x_z0)), (q31_4, .inl (cyI, 100, .inl x_z0)), (q39_5, .inl (cyZ, 100, .inl x_z0)), (q48_6, .inl (cyI, 2000, .inl x_z0))] H := hP
  have hD : va_D A [(h0, .inr (4, [.ref q7_1, .ref q15_2, .int 0, .ref q23_3, .ref q31_4, .ref q39_5, .ref q48_6, .null, .int 0])), (q7_1, .inl (cyI, 100, .inl x_z0)), (q15_2, .inl (cyI, 100, .inl x_z0)), (q23_3, .inl (cyI, 100, .inl x_z0)), (q31_4, .inl (cyI, 100, .inl x_z0)), (q39_5, .inl (cyZ, 100, .inl x_z0)), (q48_6, .inl (cyI, 2000, .inl x_z0))] := hD
  refine lv_aload_n hx hb dX4_init_53 rfl (lv_at hl 0 rfl) ?_
  refine lv_bipush (v := 100) hx hb dX4_init_54 (by decide) ?_
  refine va_newa (atype := .int) (ty := .int) (n := 100) (N' := 100) (a0 := (100, .inl x_z0)) hx hb k_4 rfl hK hP hD hS hA (fun _ => x_zcI _ _) (by decide) (by decide) (Nat.le_of_ble_eq_true rfl) (Nat.le_of_ble_eq_true rfl) (Nat.le_of_ble_eq_true rfl) dX4_init_56 (fun q56_7 cN H hKn hP hD hS => ?_)
  obtain rfl : cyI = cN := x_one (i := 0) (j := 3) hKn rfl rfl (fun _ h => by cases h)
  clear hKn
  have hP : va_P (dC, dI) vwCl [(h0, .inr (4, [.ref q7_1, .ref q15_2, .int 0, .ref q23_3, .ref q31_4, .ref q39_5, .ref q48_6, .null, .int 0])), (q7_1, .inl (cyI, 100, .inl x_z0)), (q15_2, .inl (cyI, 100, .inl x_z0)), (q23_3, .inl (cyI, 100, .inl x_z0)), (q31_4, .inl (cyI, 100, .inl x_z0)), (q39_5, .inl (cyZ, 100, .inl x_z0)), (q48_6, .inl (cyI, 2000, .inl x_z0)), (q56_7, .inl (cyI, 100, .inl x_z0))] H := hP
  have hD : va_D A [(h0, .inr (4, [.ref q7_1, .ref q15_2, .int 0, .ref q23_3, .ref q31_4, .ref q39_5, .ref q48_6, .null, .int 0])), (q7_1, .inl (cyI, 100, .inl x_z0)), (q15_2, .inl (cyI, 100, .inl x_z0)), (q23_3, .inl (cyI, 100, .inl x_z0)), (q31_4, .inl (cyI, 100, .inl x_z0)), (q39_5, .inl (cyZ, 100, .inl x_z0)), (q48_6, .inl (cyI, 2000, .inl x_z0)), (q56_7, .inl (cyI, 100, .inl x_z0))] := hD
  refine W.widen (k := 7) (n := 2600) (Nat.le_of_ble_eq_true rfl) (Nat.le_of_ble_eq_true rfl) ?_
  refine va_putF (D := (dC, dI)) (ci := 4) (v := .ref q56_7) (ty := .array .int) (C := RX4) (T := TX4) (N := 9) hx hb hts i_X4_init_X4 tyX4 tyX4_ok nmX4 hown hK hP hD hS 0 rfl rfl 7 (by decide) k_12 (fun _ h9 => h9) rfl hin rfl (by decide +kernel) rfl rfl (Nat.le_of_ble_eq_true rfl) dX4_init_58 (fun H locs hP hD hS => ?_)
  have hP : va_P (dC, dI) vwCl [(h0, .inr (4, [.ref q7_1, .ref q15_2, .int 0, .ref q23_3, .ref q31_4, .ref q39_5, .ref q48_6, .ref q56_7, .int 0])), (q7_1, .inl (cyI, 100, .inl x_z0)), (q15_2, .inl (cyI, 100, .inl x_z0)), (q23_3, .inl (cyI, 100, .inl x_z0)), (q31_4, .inl (cyI, 100, .inl x_z0)), (q39_5, .inl (cyZ, 100, .inl x_z0)), (q48_6, .inl (cyI, 2000, .inl x_z0)), (q56_7, .inl (cyI, 100, .inl x_z0))] H := hP
  have hD : va_D A [(h0, .inr (4, [.ref q7_1, .ref q15_2, .int 0, .ref q23_3, .ref q31_4, .ref q39_5, .ref q48_6, .ref q56_7, .int 0])), (q7_1, .inl (cyI, 100, .inl x_z0)), (q15_2, .inl (cyI, 100, .inl x_z0)), (q23_3, .inl (cyI, 100, .inl x_z0)), (q31_4, .inl (cyI, 100, .inl x_z0)), (q39_5, .inl (cyZ, 100, .inl x_z0)), (q48_6, .inl (cyI, 2000, .inl x_z0)), (q56_7, .inl (cyI, 100, .inl x_z0))] := hD
  have hP9 := hP.sub (ws' := [(h0, .inr (4, [.ref q7_1, .ref q15_2, .int 0, .ref q23_3, .ref q31_4, .ref q39_5, .ref q48_6, .ref q56_7, .int 0])), (q7_1, .inl (cyI, 100, .inl x_z0)), (q15_2, .inl (cyI, 100, .inl x_z0)), (q23_3, .inl (cyI, 100, .inl x_z0)), (q31_4, .inl (cyI, 100, .inl x_z0)), (q39_5, .inl (cyZ, 100, .inl x_z0))]) [0, 1, 2, 3, 4, 5] rfl
  have hD9 := hD.sub (ws' := [(h0, .inr (4, [.ref q7_1, .ref q15_2, .int 0, .ref q23_3, .ref q31_4, .ref q39_5, .ref q48_6, .ref q56_7, .int 0])), (q7_1, .inl (cyI, 100, .inl x_z0)), (q15_2, .inl (cyI, 100, .inl x_z0)), (q23_3, .inl (cyI, 100, .inl x_z0)), (q31_4, .inl (cyI, 100, .inl x_z0)), (q39_5, .inl (cyZ, 100, .inl x_z0))]) [0, 1, 2, 3, 4, 5] (by decide) rfl
  exact W.vret hx hb hr (fun t ht hW => ⟨⟨(), rfl, trivial, q7_1, q15_2, q23_3, q31_4, q39_5, q48_6, q56_7, by rw [ht]; exact hP9, va_K.moved hW.alike hK, hD9⟩, hS.F ht⟩) hS.2.2 dX4_init_61
