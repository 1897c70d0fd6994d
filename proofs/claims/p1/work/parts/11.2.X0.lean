theorem i_X0_init_X0 : ∀ w ∈ wsX00, w ∈ wsX0_init := by decide +kernel
set_option maxHeartbeats 4000000 in
set_option maxRecDepth 100000 in
theorem c_X0_init (l : Launch) (dC : Nat → ClassId) (dI : Nat → Nat → Nat) (cyI cyZ cyJ : ClassId) (sz : Nat) (h0 : Nat) : Met l yX0_init wsX0_init ({ frames := 1, cells := 9, slots := 6284, locals := 12 }) (va_Pc [.ref h0] (x_PreD (dC, dI) (x_T cyI cyZ cyJ) [(h0, .inr (0, [.int 0, .int 0, .int 0, .int 0, .int 0, .null, .int 0, .null, .null, .null, .int 0, .null, .null, .null, .null, .int 0, .null]))] sz)) (va_Qv (fun _ : Unit => True) (fun (_ : Unit) (t : State) => ∃ (a5 : Nat) (a7 : Nat) (a8 : Nat) (a9 : Nat) (a11 : Nat) (a12 : Nat) (a13 : Nat) (a14 : Nat) (a16 : Nat), va_P (dC, dI) vwCl [(h0, .inr (0, [.int 0, .int 0, .int (-1), .int 0, .int 0, .ref a5, .int 0, .ref a7, .ref a8, .ref a9, .int 0, .ref a11, .ref a12, .ref a13, .ref a14, .int 0, .ref a16])), (a5, .inl (cyI, 20, .inl x_z0)), (a7, .inl (cyI, 1000, .inl x_z0)), (a8, .inl (cyI, 1000, .inl x_z0)), (a9, .inl (cyI, 1000, .inl x_z0)), (a12, .inl (cyI, 1000, .inl x_z0)), (a13, .inl (cyI, 1000, .inl x_z0)), (a14, .inl (cyI, 200, .inl x_z0))] t.heap ∧ va_K (dC, dI) vwCl (x_T cyI cyZ cyJ) t ∧ va_D (va_A [(h0, .inr (0, [.int 0, .int 0, .int 0, .int 0, .int 0, .null, .int 0, .null, .null, .null, .int 0, .null, .null, .null, .null, .int 0, .null]))] sz) [(h0, .inr (0, [.int 0, .int 0, .int (-1), .int 0, .int 0, .ref a5, .int 0, .ref a7, .ref a8, .ref a9, .int 0, .ref a11, .ref a12, .ref a13, .ref a14, .int 0, .ref a16])), (a5, .inl (cyI, 20, .inl x_z0)), (a7, .inl (cyI, 1000, .inl x_z0)), (a8, .inl (cyI, 1000, .inl x_z0)), (a9, .inl (cyI, 1000, .inl x_z0)), (a12, .inl (cyI, 1000, .inl x_z0)), (a13, .inl (cyI, 1000, .inl x_z0)), (a14, .inl (cyI, 200, .inl x_z0))]) (va_A [(h0, .inr (0, [.int 0, .int 0, .int 0, .int 0, .int 0, .null, .int 0, .null, .null, .null, .int 0, .null, .null, .null, .null, .int 0, .null]))] sz)) 9 6284 (va_A [(h0, .inr (0, [.int 0, .int 0, .int 0, .int 0, .int 0, .null, .int 0, .null, .null, .null, .int 0, .null, .null, .null, .null, .int 0, .null]))] sz) := by
  refine Met.ofW (cc := cX0_init) (maxL := 1) (ret := none) (by decide) rfl ?_
  intro p e s m args below meth c s₁ B hml hv
  obtain ⟨rfl, ⟨hsz, hP, hK, hN⟩, hD0⟩ := hv
  have hx := B.exec
  have hb := B.bytes
  have hr := B.returns
  have hts := atoms_spec (ws := wsX0_init) B.pre
  have hown : s.vm.findClass RX0 = some m.cls := findClass_of_methodNamed B.named
  have hlocks := B.notSynchronized
  have hin : meth.name = "<init>" := (name_of_methodNamed B.named B.method).1
  have k_1 := hts (.methodLink RX0 3 objectInit) (by decide +kernel)
  have k_2 := hts (.instanceMethod objectInit) (by decide +kernel)
  have k_3 := hts (.code objectInit ⟨#[0xb1]⟩ 1 none) (by decide +kernel)
  have k_4 := hts (.fieldLink RX0 9 "FlowJudge$Code" "result" "I") (by decide +kernel)
  have k_5 := hts (.arrayClass .int) (by decide +kernel)
  have k_6 := hts (.fieldLink RX0 15 "FlowJudge$Code" "arguments" "[I") (by decide +kernel)
  have k_7 := hts (.fieldLink RX0 19 "FlowJudge$Code" "ops" "[I") (by decide +kernel)
  have k_8 := hts (.fieldLink RX0 22 "FlowJudge$Code" "as" "[I") (by decide +kernel)
  have k_9 := hts (.fieldLink RX0 25 "FlowJudge$Code" "bs" "[I") (by decide +kernel)
  have k_10 := hts (.fieldLink RX0 28 "FlowJudge$Code" "switched" "[I") (by decide +kernel)
  have k_11 := hts (.fieldLink RX0 31 "FlowJudge$Code" "firstSwitched" "[I") (by decide +kernel)
  have k_12 := hts (.fieldLink RX0 34 "FlowJudge$Code" "upToSwitched" "[I") (by decide +kernel)
  have k_13 := hts (.fieldLink RX0 37 "FlowJudge$Code" "rows" "[I") (by decide +kernel)
  have k_14 := hts (.arrayClass .boolean) (by decide +kernel)
  have k_15 := hts (.fieldLink RX0 40 "FlowJudge$Code" "isTarget" "[Z") (by decide +kernel)
  subst hsz
  have hD := hD0.self (sz := s.heap.size)
  generalize hAe : va_A [(h0, .inr (0, [.int 0, .int 0, .int 0, .int 0, .int 0, .null, .int 0, .null, .null, .null, .int 0, .null, .null, .null, .null, .int 0, .null]))] s.heap.size = A at hD ⊢
  have hA : ∀ q : Nat, s.heap.size ≤ q → A q := fun q h => by rw [← hAe]; exact Or.inr h
  have hS : va_S A s.heap s.heap [] := va_S.rf
  have hP : va_P (dC, dI) vwCl [(h0, .inr (0, [.int 0, .int 0, .int 0, .int 0, .int 0, .null, .int 0, .null, .null, .null, .int 0, .null, .null, .null, .null, .int 0, .null]))] s.heap := hP
  have hl := lv_entry ([.ref h0]) (n := 1) (Nat.le_of_ble_eq_true rfl)
  rw [lg_entry_eq]
  generalize (lg_sl ([.ref h0]) ++ List.replicate (1 - (lg_sl ([.ref h0])).length) Slot.unset).toArray = ls at hl ⊢
  have hl : lv_has ls 1 [(0, .ref h0)] := hl
  obtain ⟨H, hH⟩ : ∃ z, z = s.heap := ⟨_, rfl⟩
  refine x_here hH ?_
  have hP : va_P (dC, dI) vwCl [(h0, .inr (0, [.int 0, .int 0, .int 0, .int 0, .int 0, .null, .int 0, .null, .null, .null, .int 0, .null, .null, .null, .null, .int 0, .null]))] H := by rw [hH]; exact hP
  have hS : va_S A s.heap H [] := by rw [hH]; exact va_S.rf
  clear hH
  refine lv_aload_n hx hb dX0_init_0 rfl (lv_at hl 0 rfl) ?_
  refine W.objInit hx hb hown k_1 k_2 k_3 rfl (by rw [hml]; exact hl.1) rfl dX0_init_1 (Nat.le_of_ble_eq_true rfl) (Nat.le_of_ble_eq_true rfl) ?_
  refine W.eq (g2 := F0 m 4 ls []) rfl ?_
  refine lv_aload_n hx hb dX0_init_4 rfl (lv_at hl 0 rfl) ?_
  refine lv_iconst (v := (-1)) hx hb dX0_init_5 (by decide) ?_
  refine va_put (D := (dC, dI)) (ci := 0) (v := .int (-1)) (ty := .int) (C := RX0) (T := TX0) (N := 17) hx hb hts i_X0_init_X0 tyX0 tyX0_ok nmX0 hown hK hP hD hS 0 rfl rfl 2 (by decide) k_4 (fun _ h9 => h9) rfl (by decide +kernel) rfl rfl (Nat.le_of_ble_eq_true rfl) dX0_init_6 (fun H locs hP hD hS => ?_)
  have hP : va_P (dC, dI) vwCl [(h0, .inr (0, [.int 0, .int 0, .int (-1), .int 0, .int 0, .null, .int 0, .null, .null, .null, .int 0, .null, .null, .null, .null, .int 0, .null]))] H := hP
  have hD : va_D A [(h0, .inr (0, [.int 0, .int 0, .int (-1), .int 0, .int 0, .null, .int 0, .null, .null, .null, .int 0, .null, .null, .null, .null, .int 0, .null]))] := hD
  refine lv_aload_n hx hb dX0_init_9 rfl (lv_at hl 0 rfl) ?_
  refine lv_bipush (v := 20) hx hb dX0_init_10 (by decide) ?_
  refine va_newa (atype := .int) (ty := .int) (n := 20) (N' := 20) (a0 := (20, .inl x_z0)) hx hb k_5 rfl hK hP hD hS hA (fun _ => x_zcI _ _) (by decide) (by decide) (Nat.le_of_ble_eq_true rfl) (Nat.le_of_ble_eq_true rfl) (Nat.le_of_ble_eq_true rfl) dX0_init_12 (fun q12_1 cN H hKn hP hD hS => ?_)
  obtain rfl : cyI = cN := x_one (i := 0) (j := 3) hKn rfl rfl (fun _ h => by cases h)
  clear hKn
  have hP : va_P (dC, dI) vwCl [(h0, .inr (0, [.int 0, .int 0, .int (-1), .int 0, .int 0, .null, .int 0, .null, .null, .null, .int 0, .null, .null, .null, .null, .int 0, .null])), (q12_1, .inl (cyI, 20, .inl x_z0))] H := hP
  have hD : va_D A [(h0, .inr (0, [.int 0, .int 0, .int (-1), .int 0, .int 0, .null, .int 0, .null, .null, .null, .int 0, .null, .null, .null, .null, .int 0, .null])), (q12_1, .inl (cyI, 20, .inl x_z0))] := hD
  refine W.widen (k := 1) (n := 20) (Nat.le_of_ble_eq_true rfl) (Nat.le_of_ble_eq_true rfl) ?_
  refine va_putF (D := (dC, dI)) (ci := 0) (v := .ref q12_1) (ty := .array .int) (C := RX0) (T := TX0) (N := 17) hx hb hts i_X0_init_X0 tyX0 tyX0_ok nmX0 hown hK hP hD hS 0 rfl rfl 5 (by decide) k_6 (fun _ h9 => h9) rfl hin rfl (by decide +kernel) rfl rfl (Nat.le_of_ble_eq_true rfl) dX0_init_14 (fun H locs hP hD hS => ?_)
  have hP : va_P (dC, dI) vwCl [(h0, .inr (0, [.int 0, .int 0, .int (-1), .int 0, .int 0, .ref q12_1, .int 0, .null, .null, .null, .int 0, .null, .null, .null, .null, .int 0, .null])), (q12_1, .inl (cyI, 20, .inl x_z0))] H := hP
  have hD : va_D A [(h0, .inr (0, [.int 0, .int 0, .int (-1), .int 0, .int 0, .ref q12_1, .int 0, .null, .null, .null, .int 0, .null, .null, .null, .null, .int 0, .null])), (q12_1, .inl (cyI, 20, .inl x_z0))] := hD
  refine lv_aload_n hx hb dX0_init_17 rfl (lv_at hl 0 rfl) ?_
  refine lv_sipush (v := 1000) hx hb dX0_init_18 (by decide) ?_
  refine va_newa (atype := .int) (ty := .int) (n := 1000) (N' := 1000) (a0 := (1000, .inl x_z0)) hx hb k_5 rfl hK hP hD hS hA (fun _ => x_zcI _ _) (by decide) (by decide) (Nat.le_of_ble_eq_true rfl) (Nat.le_of_ble_eq_true rfl) (Nat.le_of_ble_eq_true rfl) dX0_init_21 (fun q21_2 cN H hKn hP hD hS => ?_)
  obtain rfl : cyI = cN := x_one (i := 0) (j := 3) hKn rfl rfl (fun _ h => by cases h)
  clear hKn
  have hP : va_P (dC, dI) vwCl [(h0, .inr (0, [.int 0, .int 0, .int (-1), .int 0, .int 0, .ref q12_1, .int 0, .null, .null, .null, .int 0, .null, .null, .null, .null, .int 0, .null])), (q12_1, .inl (cyI, 20, .inl x_z0)), (q21_2, .inl (cyI, 1000, .inl x_z0))] H := hP
  have hD : va_D A [(h0, .inr (0, [.int 0, .int 0, .int (-1), .int 0, .int 0, .ref q12_1, .int 0, .null, .null, .null, .int 0, .null, .null, .null, .null, .int 0, .null])), (q12_1, .inl (cyI, 20, .inl x_z0)), (q21_2, .inl (cyI, 1000, .inl x_z0))] := hD
  refine W.widen (k := 2) (n := 1020) (Nat.le_of_ble_eq_true rfl) (Nat.le_of_ble_eq_true rfl) ?_
  refine va_putF (D := (dC, dI)) (ci := 0) (v := .ref q21_2) (ty := .array .int) (C := RX0) (T := TX0) (N := 17) hx hb hts i_X0_init_X0 tyX0 tyX0_ok nmX0 hown hK hP hD hS 0 rfl rfl 7 (by decide) k_7 (fun _ h9 => h9) rfl hin rfl (by decide +kernel) rfl rfl (Nat.le_of_ble_eq_true rfl) dX0_init_23 (fun H locs hP hD hS => ?_)
  have hP : va_P (dC, dI) vwCl [(h0, .inr (0, [.int 0, .int 0, .int (-1), .int 0, .int 0, .ref q12_1, .int 0, .ref q21_2, .null, .null, .int 0, .null, .null, .null, .null, .int 0, .null])), (q12_1, .inl (cyI, 20, .inl x_z0)), (q21_2, .inl (cyI, 1000, .inl x_z0))] H := hP
  have hD : va_D A [(h0, .inr (0, [.int 0, .int 0, .int (-1), .int 0, .int 0, .ref q12_1, .int 0, .ref q21_2, .null, .null, .int 0, .null, .null, .null, .null, .int 0, .null])), (q12_1, .inl (cyI, 20, .inl x_z0)), (q21_2, .inl (cyI, 1000, .inl x_z0))] := hD
  refine lv_aload_n hx hb dX0_init_26 rfl (lv_at hl 0 rfl) ?_
  refine lv_sipush (v := 1000) hx hb dX0_init_27 (by decide) ?_
  refine va_newa (atype := .int) (ty := .int) (n := 1000) (N' := 1000) (a0 := (1000, .inl x_z0)) hx hb k_5 rfl hK hP hD hS hA (fun _ => x_zcI _ _) (by decide) (by decide) (Nat.le_of_ble_eq_true rfl) (Nat.le_of_ble_eq_true rfl) (Nat.le_of_ble_eq_true rfl) dX0_init_30 (fun q30_3 cN H hKn hP hD hS => ?_)
  obtain rfl : cyI = cN := x_one (i := 0) (j := 3) hKn rfl rfl (fun _ h => by cases h)
  clear hKn
  have hP : va_P (dC, dI) vwCl [(h0, .inr (0, [.int 0, .int 0, .int (-1), .int 0, .int 0, .ref q12_1, .int 0, .ref q21_2, .null, .null, .int 0, .null, .null, .null, .null, .int 0, .null])), (q12_1, .inl (cyI, 20, .inl x_z0)), (q21_2, .inl (cyI, 1000, .inl x_z0)), (q30_3, .inl (cyI, 1000, .inl x_z0))] H := hP
  have hD : va_D A [(h0, .inr (0, [.int 0, .int 0, .int (-1), .int 0, .int 0, .ref q12_1, .int 0, .ref q21_2, .null, .null, .int 0, .null, .null, .null, .null, .int 0, .null])), (q12_1, .inl (cyI, 20, .inl x_z0)), (q21_2, .inl (cyI, 1000, .inl x_z0)), (q30_3, .inl (cyI, 1000, .inl x_z0))] := hD
  refine W.widen (k := 3) (n := 2020) (Nat.le_of_ble_eq_true rfl) (Nat.le_of_ble_eq_true rfl) ?_
  refine va_putF (D := (dC, dI)) (ci := 0) (v := .ref q30_3) (ty := .array .int) (C := RX0) (T := TX0) (N := 17) hx hb hts i_X0_init_X0 tyX0 tyX0_ok nmX0 hown hK hP hD hS 0 rfl rfl 8 (by decide) k_8 (fun _ h9 => h9) rfl hin rfl (by decide +kernel) rfl rfl (Nat.le_of_ble_eq_true rfl) dX0_init_32 (fun H locs hP hD hS => ?_)
  have hP : va_P (dC, dI) vwCl [(h0, .inr (0, [.int 0, .int 0, .int (-1), .int 0, .int 0, .ref q12_1, .int 0, .ref q21_2, .ref q30_3, .null, .int 0, .null, .null, .null, .null, .int 0, .null])), (q12_1, .inl (cyI, 20, .inl x_z0)), (q21_2, .inl (cyI, 1000, .inl x_z0)), (q30_3, .inl (cyI, 1000, .inl x_z0))] H := hP
  have hD : va_D A [(h0, .inr (0, [.int 0, .int 0, .int (-1), .int 0, .int 0, .ref q12_1, .int 0, .ref q21_2, .ref q30_3, .null, .int 0, .null, .null, .null, .null, .int 0, .null])), (q12_1, .inl (cyI, 20, .inl x_z0)), (q21_2, .inl (cyI, 1000, .inl x_z0)), (q30_3, .inl (cyI, 1000, .inl x_z0))] := hD
  refine lv_aload_n hx hb dX0_init_35 rfl (lv_at hl 0 rfl) ?_
  refine lv_sipush (v := 1000) hx hb dX0_init_36 (by decide) ?_
  refine va_newa (atype := .int) (ty := .int) (n := 1000) (N' := 1000) (a0 := (1000, .inl x_z0)) hx hb k_5 rfl hK hP hD hS hA (fun _ => x_zcI _ _) (by decide) (by decide) (Nat.le_of_ble_eq_true rfl) (Nat.le_of_ble_eq_true rfl) (Nat.le_of_ble_eq_true rfl) dX0_init_39 (fun q39_4 cN H hKn hP hD hS => ?_)
  obtain rfl : cyI = cN := x_one (i := 0) (j := 3) hKn rfl rfl (fun _ h => by cases h)
  clear hKn
  have hP : va_P (dC, dI) vwCl [(h0, .inr (0, [.int 0, .int 0, .int (-1), .int 0, .int 0, .ref q12_1, .int 0, .ref q21_2, .ref q30_3, .null, .int 0, .null, .null, .null, .null, .int 0, .null])), (q12_1, .inl (cyI, 20, .inl x_z0)), (q21_2, .inl (cyI, 1000, .inl x_z0)), (q30_3, .inl (cyI, 1000, .inl x_z0)), (q39_4, .inl (cyI, 1000, .inl x_z0))] H := hP
  have hD : va_D A [(h0, .inr (0, [.int 0, .int 0, .int (-1), .int 0, .int 0, .ref q12_1, .int 0, .ref q21_2, .ref q30_3, .null, .int 0, .null, .null, .null, .null, .int 0, .null])), (q12_1, .inl (cyI, 20, .inl x_z0)), (q21_2, .inl (cyI, 1000, .inl x_z0)), (q30_3, .inl (cyI, 1000, .inl x_z0)), (q39_4, .inl (cyI, 1000, .inl x_z0))] := hD
  refine W.widen (k := 4) (n := 3020) (Nat.le_of_ble_eq_true rfl) (Nat.le_of_ble_eq_true rfl) ?_
  refine va_putF (D := (dC, dI)) (ci := 0) (v := .ref q39_4) (ty := .array .int) (C := RX0) (T := TX0) (N := 17) hx hb hts i_X0_init_X0 tyX0 tyX0_ok nmX0 hown hK hP hD hS 0 rfl rfl 9 (by decide) k_9 (fun _ h9 => h9) rfl hin rfl (by decide +kernel) rfl rfl (Nat.le_of_ble_eq_true rfl) dX0_init_41 (fun H locs hP hD hS => ?_)
  have hP : va_P (dC, dI) vwCl [(h0, .inr (0, [.int 0, .int 0, .int (-1), .int 0, .int 0, .ref q12_1, .int 0, .ref q21_2, .ref q30_3, .ref q39_4, .int 0, .null, .null, .null, .null, .int 0, .null])), (q12_1, .inl (cyI, 20, .inl x_z0)), (q21_2, .inl (cyI, 1000, .inl x_z0)), (q30_3, .inl (cyI, 1000, .inl x_z0)), (q39_4, .inl (cyI, 1000, .inl x_z0))] H := hP
  have hD : va_D A [(h0, .inr (0, [.int 0, .int 0, .int (-1), .int 0, .int 0, .ref q12_1, .int 0, .ref q21_2, .ref q30_3, .ref q39_4, .int 0, .null, .null, .null, .null, .int 0, .null])), (q12_1, .inl (cyI, 20, .inl x_z0)), (q21_2, .inl (cyI, 1000, .inl x_z0)), (q30_3, .inl (cyI, 1000, .inl x_z0)), (q39_4, .inl (cyI, 1000, .inl x_z0))] := hD
  refine lv_aload_n hx hb dX0_init_44 rfl (lv_at hl 0 rfl) ?_
  refine lv_bipush (v := 64) hx hb dX0_init_45 (by decide) ?_
  refine va_newa (atype := .int) (ty := .int) (n := 64) (N' := 64) (a0 := (64, .inl x_z0)) hx hb k_5 rfl hK hP hD hS hA (fun _ => x_zcI _ _) (by decide) (by decide) (Nat.le_of_ble_eq_true rfl) (Nat.le_of_ble_eq_true rfl) (Nat.le_of_ble_eq_true rfl) dX0_init_47 (fun q47_5 cN H hKn hP hD hS => ?_)
  obtain rfl : cyI = cN := x_one (i := 0) (j := 3) hKn rfl rfl (fun _ h => by cases h)
  clear hKn
  have hP : va_P (dC, dI) vwCl [(h0, .inr (0, [.int 0, .int 0, .int (-1), .int 0, .int 0, .ref q12_1, .int 0, .ref q21_2, .ref q30_3, .ref q39_4, .int 0, .null, .null, .null, .null, .int 0, .null])), (q12_1, .inl (cyI, 20, .inl x_z0)), (q21_2, .inl (cyI, 1000, .inl x_z0)), (q30_3, .inl (cyI, 1000, .inl x_z0)), (q39_4, .inl (cyI, 1000, .inl x_z0)), (q47_5, .inl (cyI, 64, .inl x_z0))] H := hP
  have hD : va_D A [(h0, .inr (0, [.int 0, .int 0, .int (-1), .int 0, .int 0, .ref q12_1, .int 0, .ref q21_2, .ref q30_3, .ref q39_4, .int 0, .null, .null, .null, .null, .int 0, .null])), (q12_1, .inl (cyI, 20, .inl x_z0)), (q21_2, .inl (cyI, 1000, .inl x_z0)), (q30_3, .inl (cyI, 1000, .inl x_z0)), (q39_4, .inl (cyI, 1000, .inl x_z0)), (q47_5, .inl (cyI, 64, .inl x_z0))] := hD
  refine W.widen (k := 5) (n := 3084) (Nat.le_of_ble_eq_true rfl) (Nat.le_of_ble_eq_true rfl) ?_
  refine va_put (D := (dC, dI)) (ci := 0) (v := .ref q47_5) (ty := .array .int) (C := RX0) (T := TX0) (N := 17) hx hb hts i_X0_init_X0 tyX0 tyX0_ok nmX0 hown hK hP hD hS 0 rfl rfl 11 (by decide) k_10 (fun _ h9 => h9) rfl (by decide +kernel) rfl rfl (Nat.le_of_ble_eq_true rfl) dX0_init_49 (fun H locs hP hD hS => ?_)
  have hP : va_P (dC, dI) vwCl [(h0, .inr (0, [.int 0, .int 0, .int (-1), .int 0, .int 0, .ref q12_1, .int 0, .ref q21_2, .ref q30_3, .ref q39_4, .int 0, .ref q47_5, .null, .null, .null, .int 0, .null])), (q12_1, .inl (cyI, 20, .inl x_z0)), (q21_2, .inl (cyI, 1000, .inl x_z0)), (q30_3, .inl (cyI, 1000, .inl x_z0)), (q39_4, .inl (cyI, 1000, .inl x_z0)), (q47_5, .inl (cyI, 64, .inl x_z0))] H := hP
  have hD : va_D A [(h0, .inr (0, [.int 0, .int 0, .int (-1), .int 0, .int 0, .ref q12_1, .int 0, .ref q21_2, .ref q30_3, .ref q39_4, .int 0, .ref q47_5, .null, .null, .null, .int 0, .null])), (q12_1, .inl (cyI, 20, .inl x_z0)), (q21_2, .inl (cyI, 1000, .inl x_z0)), (q30_3, .inl (cyI, 1000, .inl x_z0)), (q39_4, .inl (cyI, 1000, .inl x_z0)), (q47_5, .inl (cyI, 64, .inl x_z0))] := hD
  refine lv_aload_n hx hb dX0_init_52 rfl (lv_at hl 0 rfl) ?_
  refine lv_sipush (v := 1000) hx hb dX0_init_53 (by decide) ?_
  refine va_newa (atype := .int) (ty := .int) (n := 1000) (N' := 1000) (a0 := (1000, .inl x_z0)) hx hb k_5 rfl hK hP hD hS hA (fun _ => x_zcI _ _) (by decide) (by decide) (Nat.le_of_ble_eq_true rfl) (Nat.le_of_ble_eq_true rfl) (Nat.le_of_ble_eq_true rfl) dX0_init_56 (fun q56_6 cN H hKn hP hD hS => ?_)
  obtain rfl : cyI = cN := x_one (i := 0) (j := 3) hKn rfl rfl (fun _ h => by cases h)
  clear hKn
  have hP : va_P (dC, dI) vwCl [(h0, .inr (0, [.int 0, .int 0, .int (-1), .int 0, .int 0, .ref q12_1, .int 0, .ref q21_2, .ref q30_3, .ref q39_4, .int 0, .ref q47_5, .null, .null, .null, .int 0, .null])), (q12_1, .inl (cyI, 20, .inl x_z0)), (q21_2, .inl (cyI, 1000, .inl x_z0)), (q30_3, .inl (cyI, 1000, .inl x_z0)), (q39_4, .inl (cyI, 1000, .inl x_z0)), (q47_5, .inl (cyI, 64, .inl x_z0)), (q56_6, .inl (cyI, 1000, .inl x_z0))] H := hP
  have hD : va_D A [(h0, .inr (0, [.int 0, .int 0, .int (-1), .int 0, .int 0, .ref q12_1, .int 0, .ref q21_2, .ref q30_3, .ref q39_4, .int 0, .ref q47_5, .null, .null, .null, .int 0, .null])), (q12_1, .inl (cyI, 20, .inl x_z0)), (q21_2, .inl (cyI, 1000, .inl x_z0)), (q30_3, .inl (cyI, 1000, .inl x_z0)), (q39_4, .inl (cyI, 1000, .inl x_z0)), (q47_5, .inl (cyI, 64, .inl x_z0)), (q56_6, .inl (cyI, 1000, .inl x_z0))] := hD
  refine W.widen (k := 6) (n := 4084) (Nat.le_of_ble_eq_true rfl) (Nat.le_of_ble_eq_true rfl) ?_
  refine va_putF (D := (dC, dI)) (ci := 0) (v := .ref q56_6) (ty := .array .int) (C := RX0) (T := TX0) (N := 17) hx hb hts i_X0_init_X0 tyX0 tyX0_ok nmX0 hown hK hP hD hS 0 rfl rfl 12 (by decide) k_11 (fun _ h9 => h9) rfl hin rfl (by decide +kernel) rfl rfl (Nat.le_of_ble_eq_true rfl) dX0_init_58 (fun H locs hP hD hS => ?_)
  have hP : va_P (dC, dI) vwCl [(h0, .inr (0, [.int 0, .int 0, .int (-1), .int 0, .int 0, .ref q12_1, .int 0, .ref q21_2, .ref q30_3, .ref q39_4, .int 0, .ref q47_5, .ref q56_6, .null, .null, .int 0, .null])), (q12_1, .inl (cyI, 20, .inl x_z0)), (q21_2, .inl (cyI, 1000, .inl x_z0)), (q30_3, .inl (cyI, 1000, .inl x_z0)), (q39_4, .inl (cyI, 1000, .inl x_z0)), (q47_5, .inl (cyI, 64, .inl x_z0)), (q56_6, .inl (cyI, 1000, .inl x_z0))] H := hP
  have hD : va_D A [(h0, .inr (0, [.int 0, .int 0, .int (-1), .int 0, .int 0, .ref q12_1, .int 0, .ref q21_2, .ref q30_3, .ref q39_4, .int 0, .ref q47_5, .ref q56_6, .null, .null, .int 0, .null])), (q12_1, .inl (cyI, 20, .inl x_z0)), (q21_2, .inl (cyI, 1000, .inl x_z0)), (q30_3, .inl (cyI, 1000, .inl x_z0)), (q39_4, .inl (cyI, 1000, .inl x_z0)), (q47_5, .inl (cyI, 64, .inl x_z0)), (q56_6, .inl (cyI, 1000, .inl x_z0))] := hD
  refine lv_aload_n hx hb dX0_init_61 rfl (lv_at hl 0 rfl) ?_
  refine lv_sipush (v := 1000) hx hb dX0_init_62 (by decide) ?_
  refine va_newa (atype := .int) (ty := .int) (n := 1000) (N' := 1000) (a0 := (1000, .inl x_z0)) hx hb k_5 rfl hK hP hD hS hA (fun _ => x_zcI _ _) (by decide) (by decide) (Nat.le_of_ble_eq_true rfl) (Nat.le_of_ble_eq_true rfl) (Nat.le_of_ble_eq_true rfl) dX0_init_65 (fun q65_7 cN H hKn hP hD hS => ?_)
  obtain rfl : cyI = cN := x_one (i := 0) (j := 3) hKn rfl rfl (fun _ h => by cases h)
  clear hKn
  have hP : va_P (dC, dI) vwCl [(h0, .inr (0, [.int 0, .int 0, .int (-1), .int 0, .int 0, .ref q12_1, .int 0, .ref q21_2, .ref q30_3, .ref q39_4, .int 0, .ref q47_5, .ref q56_6, .null, .null, .int 0, .null])), (q12_1, .inl (cyI, 20, .inl x_z0)), (q21_2, .inl (cyI, 1000, .inl x_z0)), (q30_3, .inl (cyI, 1000, .inl x_z0)), (q39_4, .inl (cyI, 1000, .inl x_z0)), (q47_5, .inl (cyI, 64, .inl x_z0)), (q56_6, .inl (cyI, 1000, .inl x_z0)), (q65_7, .inl (cyI, 1000, .inl x_z0))] H := hP
  have hD : va_D A [(h0, .inr (0, [.int 0, .int 0, .int (-1), .int 0, .int 0, .ref q12_1, .int 0, .ref q21_2, .ref q30_3, .ref q39_4, .int 0, .ref q47_5, .ref q56_6, .null, .null, .int 0, .null])), (q12_1, .inl (cyI, 20, .inl x_z0)), (q21_2, .inl (cyI, 1000, .inl x_z0)), (q30_3, .inl (cyI, 1000, .inl x_z0)), (q39_4, .inl (cyI, 1000, .inl x_z0)), (q47_5, .inl (cyI, 64, .inl x_z0)), (q56_6, .inl (cyI, 1000, .inl x_z0)), (q65_7, .inl (cyI, 1000, .inl x_z0))] := hD
  refine W.widen (k := 7) (n := 5084) (Nat.le_of_ble_eq_true rfl) (Nat.le_of_ble_eq_true rfl) ?_
  refine va_putF (D := (dC, dI)) (ci := 0) (v := .ref q65_7) (ty := .array .int) (C := RX0) (T := TX0) (N := 17) hx hb hts i_X0_init_X0 tyX0 tyX0_ok nmX0 hown hK hP hD hS 0 rfl rfl 13 (by decide) k_12 (fun _ h9 => h9) rfl hin rfl (by decide +kernel) rfl rfl (Nat.le_of_ble_eq_true rfl) dX0_init_67 (fun H locs hP hD hS => ?_)
  have hP : va_P (dC, dI) vwCl [(h0, .inr (0, [.int 0, .int 0, .int (-1), .int 0, .int 0, .ref q12_1, .int 0, .ref q21_2, .ref q30_3, .ref q39_4, .int 0, .ref q47_5, .ref q56_6, .ref q65_7, .null, .int 0, .null])), (q12_1, .inl (cyI, 20, .inl x_z0)), (q21_2, .inl (cyI, 1000, .inl x_z0)), (q30_3, .inl (cyI, 1000, .inl x_z0)), (q39_4, .inl (cyI, 1000, .inl x_z0)), (q47_5, .inl (cyI, 64, .inl x_z0)), (q56_6, .inl (cyI, 1000, .inl x_z0)), (q65_7, .inl (cyI, 1000, .inl x_z0))] H := hP
  have hD : va_D A [(h0, .inr (0, [.int 0, .int 0, .int (-1), .int 0, .int 0, .ref q12_1, .int 0, .ref q21_2, .ref q30_3, .ref q39_4, .int 0, .ref q47_5, .ref q56_6, .ref q65_7, .null, .int 0, .null])), (q12_1, .inl (cyI, 20, .inl x_z0)), (q21_2, .inl (cyI, 1000, .inl x_z0)), (q30_3, .inl (cyI, 1000, .inl x_z0)), (q39_4, .inl (cyI, 1000, .inl x_z0)), (q47_5, .inl (cyI, 64, .inl x_z0)), (q56_6, .inl (cyI, 1000, .inl x_z0)), (q65_7, .inl (cyI, 1000, .inl x_z0))] := hD
  refine lv_aload_n hx hb dX0_init_70 rfl (lv_at hl 0 rfl) ?_
  refine lv_sipush (v := 200) hx hb dX0_init_71 (by decide) ?_
  refine va_newa (atype := .int) (ty := .int) (n := 200) (N' := 200) (a0 := (200, .inl x_z0)) hx hb k_5 rfl hK hP hD hS hA (fun _ => x_zcI _ _) (by decide) (by decide) (Nat.le_of_ble_eq_true rfl) (Nat.le_of_ble_eq_true rfl) (Nat.le_of_ble_eq_true rfl) dX0_init_74 (fun q74_8 cN H hKn hP hD hS => ?_)
  obtain rfl : cyI = cN := x_one (i := 0) (j := 3) hKn rfl rfl (fun _ h => by cases h)
  clear hKn
  have hP : va_P (dC, dI) vwCl [(h0, .inr (0, [.int 0, .int 0, .int (-1), .int 0, .int 0, .ref q12_1, .int 0, .ref q21_2, .ref q30_3, .ref q39_4, .int 0, .ref q47_5, .ref q56_6, .ref q65_7, .null, .int 0, .null])), (q12_1, .inl (cyI, 20, .inl x_z0)), (q21_2, .inl (cyI, 1000, .inl x_z0)), (q30_3, .inl (cyI, 1000, .inl x_z0)), (q39_4, .inl (cyI, 1000, .inl x_z0)), (q47_5, .inl (cyI, 64, .inl x_z0)), (q56_6, .inl (cyI, 1000, .inl x_z0)), (q65_7, .inl (cyI, 1000, .inl x_z0)), (q74_8, .inl (cyI, 200, .inl x_z0))] H := hP
  have hD : va_D A [(h0, .inr (0, [.int 0, .int 0, .int (-1), .int 0, .int 0, .ref q12_1, .int 0, .ref q21_2, .ref q30_3, .ref q39_4, .int 0, .ref q47_5, .ref q56_6, .ref q65_7, .null, .int 0, .null])), (q12_1, .inl (cyI, 20, .inl x_z0)), (q21_2, .inl (cyI, 1000, .inl x_z0)), (q30_3, .inl (cyI, 1000, .inl x_z0)), (q39_4, .inl (cyI, 1000, .inl x_z0)), (q47_5, .inl (cyI, 64, .inl x_z0)), (q56_6, .inl (cyI, 1000, .inl x_z0)), (q65_7, .inl (cyI, 1000, .inl x_z0)), (q74_8, .inl (cyI, 200, .inl x_z0))] := hD
  refine W.widen (k := 8) (n := 5284) (Nat.le_of_ble_eq_true rfl) (Nat.le_of_ble_eq_true rfl) ?_
  refine va_putF (D := (dC, dI)) (ci := 0) (v := .ref q74_8) (ty := .array .int) (C := RX0) (T := TX0) (N := 17) hx hb hts i_X0_init_X0 tyX0 tyX0_ok nmX0 hown hK hP hD hS 0 rfl rfl 14 (by decide) k_13 (fun _ h9 => h9) rfl hin rfl (by decide +kernel) rfl rfl (Nat.le_of_ble_eq_true rfl) dX0_init_76 (fun H locs hP hD hS => ?_)
  have hP : va_P (dC, dI) vwCl [(h0, .inr (0, [.int 0, .int 0, .int (-1), .int 0, .int 0, .ref q12_1, .int 0, .ref q21_2, .ref q30_3, .ref q39_4, .int 0, .ref q47_5, .ref q56_6, .ref q65_7, .ref q74_8, .int 0, .null])), (q12_1, .inl (cyI, 20, .inl x_z0)), (q21_2, .inl (cyI, 1000, .inl x_z0)), (q30_3, .inl (cyI, 1000, .inl x_z0)), (q39_4, .inl (cyI, 1000, .inl x_z0)), (q47_5, .inl (cyI, 64, .inl x_z0)), (q56_6, .inl (cyI, 1000, .inl x_z0)), (q65_7, .inl (cyI, 1000, .inl x_z0)), (q74_8, .inl (cyI, 200, .inl x_z0))] H := hP
  have hD : va_D A [(h0, .inr (0, [.int 0, .int 0, .int (-1), .int 0, .int 0, .ref q12_1, .int 0, .ref q21_2, .ref q30_3, .ref q39_4, .int 0, .ref q47_5, .ref q56_6, .ref q65_7, .ref q74_8, .int 0, .null])), (q12_1, .inl (cyI, 20, .inl x_z0)), (q21_2, .inl (cyI, 1000, .inl x_z0)), (q30_3, .inl (cyI, 1000, .inl x_z0)), (q39_4, .inl (cyI, 1000, .inl x_z0)), (q47_5, .inl (cyI, 64, .inl x_z0)), (q56_6, .inl (cyI, 1000, .inl x_z0)), (q65_7, .inl (cyI, 1000, .inl x_z0)), (q74_8, .inl (cyI, 200, .inl x_z0))] := hD
  refine lv_aload_n hx hb dX0_init_79 rfl (lv_at hl 0 rfl) ?_
  refine lv_sipush (v := 1000) hx hb dX0_init_80 (by decide) ?_
  refine va_newa (atype := .boolean) (ty := .boolean) (n := 1000) (N' := 1000) (a0 := (1000, .inl x_z0)) hx hb k_14 rfl hK hP hD hS hA (fun _ => x_zcZ _ _) (by decide) (by decide) (Nat.le_of_ble_eq_true rfl) (Nat.le_of_ble_eq_true rfl) (Nat.le_of_ble_eq_true rfl) dX0_init_83 (fun q83_9 cN H hKn hP hD hS => ?_)
  obtain rfl : cyZ = cN := x_one (i := 1) (j := 3) hKn rfl rfl (fun _ h => by cases h)
  clear hKn
  have hP : va_P (dC, dI) vwCl [(h0, .inr (0, [.int 0, .int 0, .int (-1), .int 0, .int 0, .ref q12_1, .int 0, .ref q21_2, .ref q30_3, .ref q39_4, .int 0, .ref q47_5, .ref q56_6, .ref q65_7, .ref q74_8, .int 0, .null])), (q12_1, .inl (cyI, 20, .inl x_z0)), (q21_2, .inl (cyI, 1000, .inl x_z0)), (q30_3, .inl (cyI, 1000, .inl x_z0)), (q39_4, .inl (cyI, 1000, .inl x_z0)), (q47_5, .inl (cyI, 64, .inl x_z0)), (q56_6, .inl (cyI, 1000, .inl x_z0)), (q65_7, .inl (cyI, 1000, .inl x_z0)), (q74_8, .inl (cyI, 200, .inl x_z0)), (q83_9, .inl (cyZ, 1000, .inl x_z0))] H := hP
  have hD : va_D A [(h0, .inr (0, [.int 0, .int 0, .int (-1), .int 0, .int 0, .ref q12_1, .int 0, .ref q21_2, .ref q30_3, .ref q39_4, .int 0, .ref q47_5, .ref q56_6, .ref q65_7, .ref q74_8, .int 0, .null])), (q12_1, .inl (cyI, 20, .inl x_z0)), (q21_2, .inl (cyI, 1000, .inl x_z0)), (q30_3, .inl (cyI, 1000, .inl x_z0)), (q39_4, .inl (cyI, 1000, .inl x_z0)), (q47_5, .inl (cyI, 64, .inl x_z0)), (q56_6, .inl (cyI, 1000, .inl x_z0)), (q65_7, .inl (cyI, 1000, .inl x_z0)), (q74_8, .inl (cyI, 200, .inl x_z0)), (q83_9, .inl (cyZ, 1000, .inl x_z0))] := hD
  refine W.widen (k := 9) (n := 6284) (Nat.le_of_ble_eq_true rfl) (Nat.le_of_ble_eq_true rfl) ?_
  refine va_putF (D := (dC, dI)) (ci := 0) (v := .ref q83_9) (ty := .array .boolean) (C := RX0) (T := TX0) (N := 17) hx hb hts i_X0_init_X0 tyX0 tyX0_ok nmX0 hown hK hP hD hS 0 rfl rfl 16 (by decide) k_15 (fun _ h9 => h9) rfl hin rfl (by decide +kernel) rfl rfl (Nat.le_of_ble_eq_true rfl) dX0_init_85 (fun H locs hP hD hS => ?_)
  have hP : va_P (dC, dI) vwCl [(h0, .inr (0, [.int 0, .int 0, .int (-1), .int 0, .int 0, .ref q12_1, .int 0, .ref q21_2, .ref q30_3, .ref q39_4, .int 0, .ref q47_5, .ref q56_6, .ref q65_7, .ref q74_8, .int 0, .ref q83_9])), (q12_1, .inl (cyI, 20, .inl x_z0)), (q21_2, .inl (cyI, 1000, .inl x_z0)), (q30_3, .inl (cyI, 1000, .inl x_z0)), (q39_4, .inl (cyI, 1000, .inl x_z0)), (q47_5, .inl (cyI, 64, .inl x_z0)), (q56_6, .inl (cyI, 1000, .inl x_z0)), (q65_7, .inl (cyI, 1000, .inl x_z0)), (q74_8, .inl (cyI, 200, .inl x_z0)), (q83_9, .inl (cyZ, 1000, .inl x_z0))] H := hP
  have hD : va_D A [(h0, .inr (0, [.int 0, .int 0, .int (-1), .int 0, .int 0, .ref q12_1, .int 0, .ref q21_2, .ref q30_3, .ref q39_4, .int 0, .ref q47_5, .ref q56_6, .ref q65_7, .ref q74_8, .int 0, .ref q83_9])), (q12_1, .inl (cyI, 20, .inl x_z0)), (q21_2, .inl (cyI, 1000, .inl x_z0)), (q30_3, .inl (cyI, 1000, .inl x_z0)), (q39_4, .inl (cyI, 1000, .inl x_z0)), (q47_5, .inl (cyI, 64, .inl x_z0)), (q56_6, .inl (cyI, 1000, .inl x_z0)), (q65_7, .inl (cyI, 1000, .inl x_z0)), (q74_8, .inl (cyI, 200, .inl x_z0)), (q83_9, .inl (cyZ, 1000, .inl x_z0))] := hD
  have hP9 := hP.sub (ws' := [(h0, .inr (0, [.int 0, .int 0, .int (-1), .int 0, .int 0, .ref q12_1, .int 0, .ref q21_2, .ref q30_3, .ref q39_4, .int 0, .ref q47_5, .ref q56_6, .ref q65_7, .ref q74_8, .int 0, .ref q83_9])), (q12_1, .inl (cyI, 20, .inl x_z0)), (q21_2, .inl (cyI, 1000, .inl x_z0)), (q30_3, .inl (cyI, 1000, .inl x_z0)), (q39_4, .inl (cyI, 1000, .inl x_z0)), (q56_6, .inl (cyI, 1000, .inl x_z0)), (q65_7, .inl (cyI, 1000, .inl x_z0)), (q74_8, .inl (cyI, 200, .inl x_z0))]) [0, 1, 2, 3, 4, 6, 7, 8] rfl
  have hD9 := hD.sub (ws' := [(h0, .inr (0, [.int 0, .int 0, .int (-1), .int 0, .int 0, .ref q12_1, .int 0, .ref q21_2, .ref q30_3, .ref q39_4, .int 0, .ref q47_5, .ref q56_6, .ref q65_7, .ref q74_8, .int 0, .ref q83_9])), (q12_1, .inl (cyI, 20, .inl x_z0)), (q21_2, .inl (cyI, 1000, .inl x_z0)), (q30_3, .inl (cyI, 1000, .inl x_z0)), (q39_4, .inl (cyI, 1000, .inl x_z0)), (q56_6, .inl (cyI, 1000, .inl x_z0)), (q65_7, .inl (cyI, 1000, .inl x_z0)), (q74_8, .inl (cyI, 200, .inl x_z0))]) [0, 1, 2, 3, 4, 6, 7, 8] (by decide) rfl
  exact W.vret hx hb hr (fun t ht hW => ⟨⟨(), rfl, trivial, q12_1, q21_2, q30_3, q39_4, q47_5, q56_6, q65_7, q74_8, q83_9, by rw [ht]; exact hP9, va_K.moved hW.alike hK, hD9⟩, hS.F ht⟩) hS.2.2 dX0_init_88
