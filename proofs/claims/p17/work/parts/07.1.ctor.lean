theorem i_X7_init_X7 : ∀ w ∈ wsX70, w ∈ wsX7_init := fun _ h => List.mem_cons_of_mem _ (List.mem_append_right _ h)
set_option maxHeartbeats 4000000 in
set_option maxRecDepth 100000 in
theorem c_X7_init (l : Launch) (dC : Nat → ClassId) (dI : Nat → Nat → Nat) (cyI cyZ cyJ : ClassId) (sz : Nat) (h0 : Nat) : Met l yX7_init wsX7_init ({ frames := 1, cells := 2, slots := 400, locals := 12 }) (va_Pc [.ref h0] (x_PreD (dC, dI) (x_T cyI cyZ cyJ) [(h0, .inr (7, [.null, .null, .int 0]))] sz)) (va_Qv (fun _ : Unit => True) (fun (_ : Unit) (t : State) => ∃ (h1 : Nat) (h2 : Nat), va_P (dC, dI) vwCl [(h0, .inr (7, [.ref h1, .ref h2, .int 4])), (h1, .inl (cyI, 200, .inl x_z0)), (h2, .inl (cyZ, 200, .inl x_face))] t.heap ∧ va_K (dC, dI) vwCl (x_T cyI cyZ cyJ) t ∧ va_D (va_A [(h0, .inr (7, [.null, .null, .int 0]))] sz) [(h0, .inr (7, [.ref h1, .ref h2, .int 4])), (h1, .inl (cyI, 200, .inl x_z0)), (h2, .inl (cyZ, 200, .inl x_face))]) (va_A [(h0, .inr (7, [.null, .null, .int 0]))] sz)) 2 400 (va_A [(h0, .inr (7, [.null, .null, .int 0]))] sz) := by
  refine Met.ofW (cc := cX7_init) (maxL := 1) (ret := none) (by decide) rfl ?_
  intro p e s m args below meth c s₁ B hml hv
  obtain ⟨rfl, ⟨hsz, hP, hK, hN⟩, hD0⟩ := hv
  have hx := B.exec
  have hb := B.bytes
  have hr := B.returns
  have hts := atoms_spec (ws := wsX7_init) B.pre
  have hown : s.vm.findClass RX7 = some m.cls := findClass_of_methodNamed B.named
  have hlocks := B.notSynchronized
  have hin : meth.name = "<init>" := (name_of_methodNamed B.named B.method).1
  have k_1 := hts (.methodLink RX7 3 objectInit) (by decide +kernel)
  have k_2 := hts (.instanceMethod objectInit) (by decide +kernel)
  have k_3 := hts (.code objectInit ⟨#[0xb1]⟩ 1 none) (by decide +kernel)
  have k_4 := hts (.arrayClass .int) (by decide +kernel)
  have k_5 := hts (.fieldLink RX7 9 "FlowJudge$Types" "above" "[I") (by decide +kernel)
  have k_6 := hts (.arrayClass .boolean) (by decide +kernel)
  have k_7 := hts (.fieldLink RX7 15 "FlowJudge$Types" "isInterface" "[Z") (by decide +kernel)
  have k_8 := hts (.fieldLink RX7 19 "FlowJudge$Types" "count" "I") (by decide +kernel)
  subst hsz
  have hD := hD0.self (sz := s.heap.size)
  generalize hAe : va_A [(h0, .inr (7, [.null, .null, .int 0]))] s.heap.size = A at hD ⊢
  have hA : ∀ q : Nat, s.heap.size ≤ q → A q := fun q h => by rw [← hAe]; exact Or.inr h
  have hS : va_S A s.heap s.heap [] := va_S.rf
  have hP : va_P (dC, dI) vwCl [(h0, .inr (7, [.null, .null, .int 0]))] s.heap := hP
  have hl := lv_entry ([.ref h0]) (n := 1) (Nat.le_of_ble_eq_true rfl)
  rw [lg_entry_eq]
  generalize (lg_sl ([.ref h0]) ++ List.replicate (1 - (lg_sl ([.ref h0])).length) Slot.unset).toArray = ls at hl ⊢
  have hl : lv_has ls 1 [(0, .ref h0)] := hl
  obtain ⟨H, hH⟩ : ∃ z, z = s.heap := ⟨_, rfl⟩
  refine x_here hH ?_
  have hP : va_P (dC, dI) vwCl [(h0, .inr (7, [.null, .null, .int 0]))] H := by rw [hH]; exact hP
  have hS : va_S A s.heap H [] := by rw [hH]; exact va_S.rf
  clear hH
  refine lv_aload_n hx hb dX7_init_0 rfl (lv_at hl 0 rfl) ?_
  refine W.objInit hx hb hown k_1 k_2 k_3 rfl (by rw [hml]; exact hl.1) rfl dX7_init_1 (Nat.le_of_ble_eq_true rfl) (Nat.le_of_ble_eq_true rfl) ?_
  refine W.eq (g2 := F0 m 4 ls []) rfl ?_
  refine lv_aload_n hx hb dX7_init_4 rfl (lv_at hl 0 rfl) ?_
  refine lv_sipush (v := 200) hx hb dX7_init_5 (by decide) ?_
  refine va_newa (atype := .int) (ty := .int) (n := 200) (N' := 200) (a0 := (200, .inl x_z0)) hx hb k_4 rfl hK hP hD hS hA (fun _ => x_zcI _ _) (by decide) (by decide) (Nat.le_of_ble_eq_true rfl) (Nat.le_of_ble_eq_true rfl) (Nat.le_of_ble_eq_true rfl) dX7_init_8 (fun q8_1 cN H hKn hP hD hS => ?_)
  obtain rfl : cyI = cN := x_one (i := 0) (j := 3) hKn rfl rfl (fun _ h => by cases h)
  clear hKn
  have hP : va_P (dC, dI) vwCl [(h0, .inr (7, [.null, .null, .int 0])), (q8_1, .inl (cyI, 200, .inl x_z0))] H := hP
  have hD : va_D A [(h0, .inr (7, [.null, .null, .int 0])), (q8_1, .inl (cyI, 200, .inl x_z0))] := hD
  refine W.widen (k := 1) (n := 200) (Nat.le_of_ble_eq_true rfl) (Nat.le_of_ble_eq_true rfl) ?_
  refine va_putF (D := (dC, dI)) (ci := 7) (v := .ref q8_1) (ty := .array .int) (C := RX7) (T := TX7) (N := 3) hx hb hts i_X7_init_X7 tyX7 tyX7_ok nmX7 hown hK hP hD hS 0 rfl rfl 0 (by decide) k_5 (fun _ h9 => h9) rfl hin rfl (by decide +kernel) rfl rfl (Nat.le_of_ble_eq_true rfl) dX7_init_10 (fun H locs hP hD hS => ?_)
  have hP : va_P (dC, dI) vwCl [(h0, .inr (7, [.ref q8_1, .null, .int 0])), (q8_1, .inl (cyI, 200, .inl x_z0))] H := hP
  have hD : va_D A [(h0, .inr (7, [.ref q8_1, .null, .int 0])), (q8_1, .inl (cyI, 200, .inl x_z0))] := hD
  refine lv_aload_n hx hb dX7_init_13 rfl (lv_at hl 0 rfl) ?_
  refine lv_sipush (v := 200) hx hb dX7_init_14 (by decide) ?_
  refine va_newa (atype := .boolean) (ty := .boolean) (n := 200) (N' := 200) (a0 := (200, .inl x_z0)) hx hb k_6 rfl hK hP hD hS hA (fun _ => x_zcZ _ _) (by decide) (by decide) (Nat.le_of_ble_eq_true rfl) (Nat.le_of_ble_eq_true rfl) (Nat.le_of_ble_eq_true rfl) dX7_init_17 (fun q17_2 cN H hKn hP hD hS => ?_)
  obtain rfl : cyZ = cN := x_one (i := 1) (j := 3) hKn rfl rfl (fun _ h => by cases h)
  clear hKn
  have hP : va_P (dC, dI) vwCl [(h0, .inr (7, [.ref q8_1, .null, .int 0])), (q8_1, .inl (cyI, 200, .inl x_z0)), (q17_2, .inl (cyZ, 200, .inl x_z0))] H := hP
  have hD : va_D A [(h0, .inr (7, [.ref q8_1, .null, .int 0])), (q8_1, .inl (cyI, 200, .inl x_z0)), (q17_2, .inl (cyZ, 200, .inl x_z0))] := hD
  refine W.widen (k := 2) (n := 400) (Nat.le_of_ble_eq_true rfl) (Nat.le_of_ble_eq_true rfl) ?_
  refine va_putF (D := (dC, dI)) (ci := 7) (v := .ref q17_2) (ty := .array .boolean) (C := RX7) (T := TX7) (N := 3) hx hb hts i_X7_init_X7 tyX7 tyX7_ok nmX7 hown hK hP hD hS 0 rfl rfl 1 (by decide) k_7 (fun _ h9 => h9) rfl hin rfl (by decide +kernel) rfl rfl (Nat.le_of_ble_eq_true rfl) dX7_init_19 (fun H locs hP hD hS => ?_)
  have hP : va_P (dC, dI) vwCl [(h0, .inr (7, [.ref q8_1, .ref q17_2, .int 0])), (q8_1, .inl (cyI, 200, .inl x_z0)), (q17_2, .inl (cyZ, 200, .inl x_z0))] H := hP
  have hD : va_D A [(h0, .inr (7, [.ref q8_1, .ref q17_2, .int 0])), (q8_1, .inl (cyI, 200, .inl x_z0)), (q17_2, .inl (cyZ, 200, .inl x_z0))] := hD
  refine lv_aload_n hx hb dX7_init_22 rfl (lv_at hl 0 rfl) ?_
  refine va_get (D := (dC, dI)) (ci := 7) (v := .ref q17_2) (C := RX7) (T := TX7) (N := 3) hx hb hts i_X7_init_X7 hown hK hP 0 rfl rfl 1 (by decide) k_7 (fun _ h9 => h9) rfl dX7_init_23 ?_
  refine lv_iconst (v := 2) hx hb dX7_init_26 (by decide) ?_
  refine lv_iconst (v := 1) hx hb dX7_init_27 (by decide) ?_
  refine va_zast hx hb hK hP hD hS 2 1 rfl rfl (x_lit _ _ (by decide)) dX7_init_28 (fun H locs hP hD hS => ?_)
  have hP : va_P (dC, dI) vwCl [(h0, .inr (7, [.ref q8_1, .ref q17_2, .int 0])), (q8_1, .inl (cyI, 200, .inl x_z0)), (q17_2, .inl (cyZ, 200, .inl (upd x_z0 (Int32.toNatClampNeg 2) (vp_nar .boolean 1))))] H := hP
  have hD : va_D A [(h0, .inr (7, [.ref q8_1, .ref q17_2, .int 0])), (q8_1, .inl (cyI, 200, .inl x_z0)), (q17_2, .inl (cyZ, 200, .inl (upd x_z0 (Int32.toNatClampNeg 2) (vp_nar .boolean 1))))] := hD
  refine lv_aload_n hx hb dX7_init_29 rfl (lv_at hl 0 rfl) ?_
  refine va_get (D := (dC, dI)) (ci := 7) (v := .ref q17_2) (C := RX7) (T := TX7) (N := 3) hx hb hts i_X7_init_X7 hown hK hP 0 rfl rfl 1 (by decide) k_7 (fun _ h9 => h9) rfl dX7_init_30 ?_
  refine lv_iconst (v := 3) hx hb dX7_init_33 (by decide) ?_
  refine lv_iconst (v := 1) hx hb dX7_init_34 (by decide) ?_
  refine va_zast hx hb hK hP hD hS 2 1 rfl rfl (x_lit _ _ (by decide)) dX7_init_35 (fun H locs hP hD hS => ?_)
  have hP : va_P (dC, dI) vwCl [(h0, .inr (7, [.ref q8_1, .ref q17_2, .int 0])), (q8_1, .inl (cyI, 200, .inl x_z0)), (q17_2, .inl (cyZ, 200, .inl (upd (upd x_z0 (Int32.toNatClampNeg 2) (vp_nar .boolean 1)) (Int32.toNatClampNeg 3) (vp_nar .boolean 1))))] H := hP
  have hD : va_D A [(h0, .inr (7, [.ref q8_1, .ref q17_2, .int 0])), (q8_1, .inl (cyI, 200, .inl x_z0)), (q17_2, .inl (cyZ, 200, .inl (upd (upd x_z0 (Int32.toNatClampNeg 2) (vp_nar .boolean 1)) (Int32.toNatClampNeg 3) (vp_nar .boolean 1))))] := hD
  refine lv_aload_n hx hb dX7_init_36 rfl (lv_at hl 0 rfl) ?_
  refine lv_iconst (v := 4) hx hb dX7_init_37 (by decide) ?_
  refine va_put (D := (dC, dI)) (ci := 7) (v := .int 4) (ty := .int) (C := RX7) (T := TX7) (N := 3) hx hb hts i_X7_init_X7 tyX7 tyX7_ok nmX7 hown hK hP hD hS 0 rfl rfl 2 (by decide) k_8 (fun _ h9 => h9) rfl (by decide +kernel) rfl rfl (Nat.le_of_ble_eq_true rfl) dX7_init_38 (fun H locs hP hD hS => ?_)
  have hP : va_P (dC, dI) vwCl [(h0, .inr (7, [.ref q8_1, .ref q17_2, .int 4])), (q8_1, .inl (cyI, 200, .inl x_z0)), (q17_2, .inl (cyZ, 200, .inl (upd (upd x_z0 (Int32.toNatClampNeg 2) (vp_nar .boolean 1)) (Int32.toNatClampNeg 3) (vp_nar .boolean 1))))] H := hP
  have hD : va_D A [(h0, .inr (7, [.ref q8_1, .ref q17_2, .int 4])), (q8_1, .inl (cyI, 200, .inl x_z0)), (q17_2, .inl (cyZ, 200, .inl (upd (upd x_z0 (Int32.toNatClampNeg 2) (vp_nar .boolean 1)) (Int32.toNatClampNeg 3) (vp_nar .boolean 1))))] := hD
  rw [x_faceE] at hP hD
  have hP9 := hP.sub (ws' := [(h0, .inr (7, [.ref q8_1, .ref q17_2, .int 4])), (q8_1, .inl (cyI, 200, .inl x_z0)), (q17_2, .inl (cyZ, 200, .inl x_face))]) [0, 1, 2] rfl
  have hD9 := hD.sub (ws' := [(h0, .inr (7, [.ref q8_1, .ref q17_2, .int 4])), (q8_1, .inl (cyI, 200, .inl x_z0)), (q17_2, .inl (cyZ, 200, .inl x_face))]) [0, 1, 2] (by decide) rfl
  exact W.vret hx hb hr (fun t ht hW => ⟨⟨(), rfl, trivial, q8_1, q17_2, by rw [ht]; exact hP9, va_K.moved hW.alike hK, hD9⟩, hS.F ht⟩) hS.2.2 dX7_init_41

theorem i_X4_init_X4 : ∀ w ∈ wsX40, w ∈ wsX4_init := fun _ h => List.mem_cons_of_mem _ (List.mem_append_right _ h)
set_option maxHeartbeats 4000000 in
set_option maxRecDepth 100000 in
theorem c_X4_init (l : Launch) (dC : Nat → ClassId) (dI : Nat → Nat → Nat) (cyI cyZ cyJ : ClassId) (sz : Nat) (h0 : Nat) : Met l yX4_init wsX4_init ({ frames := 1, cells := 7, slots := 2600, locals := 12 }) (va_Pc [.ref h0] (x_PreD (dC, dI) (x_T cyI cyZ cyJ) [(h0, .inr (4, [.null, .null, .int 0, .null, .null, .null, .null, .null, .int 0]))] sz)) (va_Qv (fun _ : Unit => True) (fun (_ : Unit) (t : State) => ∃ (a0 : Nat) (a1 : Nat) (a3 : Nat) (a4 : Nat) (a5 : Nat) (a6 : Nat) (a7 : Nat), va_P (dC, dI) vwCl [(h0, .inr (4, [.ref a0, .ref a1, .int 0, .ref a3, .ref a4, .ref a5, .ref a6, .ref a7, .int 0])), (a0, .inl (cyI, 100, .inl x_z0)), (a1, .inl (cyI, 100, .inl x_z0)), (a3, .inl (cyI, 100, .inl x_z0)), (a4, .inl (cyI, 100, .inl x_z0)), (a5, .inl (cyZ, 100, .inl x_z0)), (a6, .inl (cyI, 2000, .inl x_z0)), (a7, .inl (cyI, 100, .inl x_z0))] t.heap ∧ va_K (dC, dI) vwCl (x_T cyI cyZ cyJ) t ∧ va_D (va_A [(h0, .inr (4, [.null, .null, .int 0, .null, .null, .null, .null, .null, .int 0]))] sz) [(h0, .inr (4, [.ref a0, .ref a1, .int 0, .ref a3, .ref a4, .ref a5, .ref a6, .ref a7, .int 0])), (a0, .inl (cyI, 100, .inl x_z0)), (a1, .inl (cyI, 100, .inl x_z0)), (a3, .inl (cyI, 100, .inl x_z0)), (a4, .inl (cyI, 100, .inl x_z0)), (a5, .inl (cyZ, 100, .inl x_z0)), (a6, .inl (cyI, 2000, .inl x_z0)), (a7, .inl (cyI, 100, .inl x_z0))]) (va_A [(h0, .inr (4, [.null, .null, .int 0, .null, .null, .null, .null, .null, .int 0]))] sz)) 7 2600 (va_A [(h0, .inr (4, [.null, .null, .int 0, .null, .null, .null, .null, .null, .int 0]))] sz) := by
  refine Met.ofW (cc := cX4_init) (maxL := 1) (ret := none) (by decide) rfl ?_
  intro p e s m args below meth c s₁ B hml hv
  obtain ⟨rfl, ⟨hsz, hP, hK, hN⟩, hD0⟩ := hv
  have hx := B.exec
  have hb := B.bytes
  have hr := B.returns
  have hts := atoms_spec (ws := wsX4_init) B.pre
  have hown : s.vm.findClass RX4 = some m.cls := findClass_of_methodNamed B.named
  have hlocks := B.notSynchronized
  have hin : meth.name = "<init>" := (name_of_methodNamed B.named B.method).1
  have k_1 := hts (.methodLink RX4 3 objectInit) (by decide +kernel)
  have k_2 := hts (.instanceMethod objectInit) (by decide +kernel)
  have k_3 := hts (.code objectInit ⟨#[0xb1]⟩ 1 none) (by decide +kernel)
  have k_4 := hts (.arrayClass .int) (by decide +kernel)
  have k_5 := hts (.fieldLink RX4 9 "FlowJudge$Members" "fieldClasses" "[I") (by decide +kernel)
  have k_6 := hts (.fieldLink RX4 15 "FlowJudge$Members" "fieldTypes" "[I") (by decide +kernel)
  have k_7 := hts (.fieldLink RX4 18 "FlowJudge$Members" "shapeClasses" "[I") (by decide +kernel)
  have k_8 := hts (.fieldLink RX4 21 "FlowJudge$Members" "shapeResults" "[I") (by decide +kernel)
  have k_9 := hts (.arrayClass .boolean) (by decide +kernel)
  have k_10 := hts (.fieldLink RX4 24 "FlowJudge$Members" "isConstructor" "[Z") (by decide +kernel)
  have k_11 := hts (.fieldLink RX4 28 "FlowJudge$Members" "taken" "[I") (by decide +kernel)
  have k_12 := hts (.fieldLink RX4 31 "FlowJudge$Members" "takenCounts" "[I") (by decide +kernel)
  subst hsz
  have hD := hD0.self (sz := s.heap.size)
  generalize hAe : va_A [(h0, .inr (4, [.null, .null, .int 0, .null, .null, .null, .null, .null, .int 0]))] s.heap.size = A at hD ⊢
  have hA : ∀ q : Nat, s.heap.size ≤ q → A q := fun q h => by rw [← hAe]; exact Or.inr h
  have hS : va_S A s.heap s.heap [] := va_S.rf
  have hP : va_P (dC, dI) vwCl [(h0, .inr (4, [.null, .null, .int 0, .null, .null, .null, .null, .null, .int 0]))] s.heap := hP
  have hl := lv_entry ([.ref h0]) (n := 1) (Nat.le_of_ble_eq_true rfl)
  rw [lg_entry_eq]
  generalize (lg_sl ([.ref h0]) ++ List.replicate (1 - (lg_sl ([.ref h0])).length) Slot.unset).toArray = ls at hl ⊢
  have hl : lv_has ls 1 [(0, .ref h0)] := hl
  obtain ⟨H, hH⟩ : ∃ z, z = s.heap := ⟨_, rfl⟩
  refine x_here hH ?_
  have hP : va_P (dC, dI) vwCl [(h0, .inr (4, [.null, .null, .int 0, .null, .null, .null, .null, .null, .int 0]))] H := by rw [hH]; exact hP
  have hS : va_S A s.heap H [] := by rw [hH]; exact va_S.rf
  clear hH
  refine lv_aload_n hx hb dX4_init_0 rfl (lv_at hl 0 rfl) ?_
  refine W.objInit hx hb hown k_1 k_2 k_3 rfl (by rw [hml]; exact hl.1) rfl dX4_init_1 (Nat.le_of_ble_eq_true rfl) (Nat.le_of_ble_eq_true rfl) ?_
  refine W.eq (g2 := F0 m 4 ls []) rfl ?_
  refine lv_aload_n hx hb dX4_init_4 rfl (lv_at hl 0 rfl) ?_
  refine lv_bipush (v := 100) hx hb dX4_init_5 (by decide) ?_
  refine va_newa (atype := .int) (ty := .int) (n := 100) (N' := 100) (a0 := (100, .inl x_z0)) hx hb k_4 rfl hK hP hD hS hA (fun _ => x_zcI _ _) (by decide) (by decide) (Nat.le_of_ble_eq_true rfl) (Nat.le_of_ble_eq_true rfl) (Nat.le_of_ble_eq_true rfl) dX4_init_7 (fun q7_1 cN H hKn hP hD hS => ?_)
  obtain rfl : cyI = cN := x_one (i := 0) (j := 3) hKn rfl rfl (fun _ h => by cases h)
  clear hKn
  have hP : va_P (dC, dI) vwCl [(h0, .inr (4, [.null, .null, .int 0, .null, .null, .null, .null, .null, .int 0])), (q7_1, .inl (cyI, 100, .inl x_z0))] H := hP
  have hD : va_D A [(h0, .inr (4, [.null, .null, .int 0, .null, .null, .null, .null, .null, .int 0])), (q7_1, .inl (cyI, 100, .inl x_z0))] := hD
  refine W.widen (k := 1) (n := 100) (Nat.le_of_ble_eq_true rfl) (Nat.le_of_ble_eq_true rfl) ?_
  refine va_putF (D := (dC, dI)) (ci := 4) (v := .ref q7_1) (ty := .array .int) (C := RX4) (T := TX4) (N := 9) hx hb hts i_X4_init_X4 tyX4 tyX4_ok nmX4 hown hK hP hD hS 0 rfl rfl 0 (by decide) k_5 (fun _ h9 => h9) rfl hin rfl (by decide +kernel) rfl rfl (Nat.le_of_ble_eq_true rfl) dX4_init_9 (fun H locs hP hD hS => ?_)
  have hP : va_P (dC, dI) vwCl [(h0, .inr (4, [.ref q7_1, .null, .int 0, .null, .null, .null, .null, .null, .int 0])), (q7_1, .inl (cyI, 100, .inl x_z0))] H := hP
  have hD : va_D A [(h0, .inr (4, [.ref q7_1, .null, .int 0, .null, .null, .null, .null, .null, .int 0])), (q7_1, .inl (cyI, 100, .inl x_z0))] := hD
  refine lv_aload_n hx hb dX4_init_12 rfl (lv_at hl 0 rfl) ?_
  refine lv_bipush (v := 100) hx hb dX4_init_13 (by decide) ?_
  refine va_newa (atype := .int) (ty := .int) (n := 100) (N' := 100) (a0 := (100, .inl x_z0)) hx hb k_4 rfl hK hP hD hS hA (fun _ => x_zcI _ _) (by decide) (by decide) (Nat.le_of_ble_eq_true rfl) (Nat.le_of_ble_eq_true rfl) (Nat.le_of_ble_eq_true rfl) dX4_init_15 (fun q15_2 cN H hKn hP hD hS => ?_)
  obtain rfl : cyI = cN := x_one (i := 0) (j := 3) hKn rfl rfl (fun _ h => by cases h)
  clear hKn
  have hP : va_P (dC, dI) vwCl [(h0, .inr (4, [.ref q7_1, .null, .int 0, .null, .null, .null, .null, .null, .int 0])), (q7_1, .inl (cyI, 100, .inl x_z0)), (q15_2, .inl (cyI, 100, .inl x_z0))] H := hP
  have hD : va_D A [(h0, .inr (4, [.ref q7_1, .null, .int 0, .null, .null, .null, .null, .null, .int 0])), (q7_1, .inl (cyI, 100, .inl x_z0)), (q15_2, .inl (cyI, 100, .inl x_z0))] := hD
  refine W.widen (k := 2) (n := 200) (Nat.le_of_ble_eq_true rfl) (Nat.le_of_ble_eq_true rfl) ?_
  refine va_putF (D := (dC, dI)) (ci := 4) (v := .ref q15_2) (ty := .array .int) (C := RX4) (T := TX4) (N := 9) hx hb hts i_X4_init_X4 tyX4 tyX4_ok nmX4 hown hK hP hD hS 0 rfl rfl 1 (by decide) k_6 (fun _ h9 => h9) rfl hin rfl (by decide +kernel) rfl rfl (Nat.le_of_ble_eq_true rfl) dX4_init_17 (fun H locs hP hD hS => ?_)
  have hP : va_P (dC, dI) vwCl [(h0, .inr (4, [.ref q7_1, .ref q15_2, .int 0, .null, .null, .null, .null, .null, .int 0])), (q7_1, .inl (cyI, 100, .inl x_z0)), (q15_2, .inl (cyI, 100, .inl x_z0))] H := hP
  have hD : va_D A [(h0, .inr (4, [.ref q7_1, .ref q15_2, .int 0, .null, .null, .null, .null, .null, .int 0])), (q7_1, .inl (cyI, 100, .inl x_z0)), (q15_2, .inl (cyI, 100, .inl x_z0))] := hD
  refine lv_aload_n hx hb dX4_init_20 rfl (lv_at hl 0 rfl) ?_
  refine lv_bipush (v := 100) hx hb dX4_init_21 (by decide) ?_
  refine va_newa (atype := .int) (ty := .int) (n := 100) (N' := 100) (a0 := (100, .inl x_z0)) hx hb k_4 rfl hK hP hD hS hA (fun _ => x_zcI _ _) (by decide) (by decide) (Nat.le_of_ble_eq_true rfl) (Nat.le_of_ble_eq_true rfl) (Nat.le_of_ble_eq_true rfl) dX4_init_23 (fun q23_3 cN H hKn hP hD hS => ?_)
  obtain rfl : cyI = cN := x_one (i := 0) (j := 3) hKn rfl rfl (fun _ h => by cases h)
  clear hKn
  have hP : va_P (dC, dI) vwCl [(h0, .inr (4, [.ref q7_1, .ref q15_2, .int 0, .null, .null, .null, .null, .null, .int 0])), (q7_1, .inl (cyI, 100, .inl x_z0)), (q15_2, .inl (cyI, 100, .inl x_z0)), (q23_3, .inl (cyI, 100, .inl x_z0))] H := hP
  have hD : va_D A [(h0, .inr (4, [.ref q7_1, .ref q15_2, .int 0, .null, .null, .null, .null, .null, .int 0])), (q7_1, .inl (cyI, 100, .inl x_z0)), (q15_2, .inl (cyI, 100, .inl x_z0)), (q23_3, .inl (cyI, 100, .inl x_z0))] := hD
  refine W.widen (k := 3) (n := 300) (Nat.le_of_ble_eq_true rfl) (Nat.le_of_ble_eq_true rfl) ?_
  refine va_putF (D := (dC, dI)) (ci := 4) (v := .ref q23_3) (ty := .array .int) (C := RX4) (T := TX4) (N := 9) hx hb hts i_X4_init_X4 tyX4 tyX4_ok nmX4 hown hK hP hD hS 0 rfl rfl 3 (by decide) k_7 (fun _ h9 => h9) rfl hin rfl (by decide +kernel) rfl rfl (Nat.le_of_ble_eq_true rfl) dX4_init_25 (fun H locs hP hD hS => ?_)
  have hP : va_P (dC, dI) vwCl [(h0, .inr (4, [.ref q7_1, .ref q15_2, .int 0, .ref q23_3, .null, .null, .null, .null, .int 0])), (q7_1, .inl (cyI, 100, .inl x_z0)), (q15_2, .inl (cyI, 100, .inl x_z0)), (q23_3, .inl (cyI, 100, .inl x_z0))] H := hP
  have hD : va_D A [(h0, .inr (4, [.ref q7_1, .ref q15_2, .int 0, .ref q23_3, .null, .null, .null, .null, .int 0])), (q7_1, .inl (cyI, 100, .inl x_z0)), (q15_2, .inl (cyI, 100, .inl x_z0)), (q23_3, .inl (cyI, 100, .inl x_z0))] := hD
  refine lv_aload_n hx hb dX4_init_28 rfl (lv_at hl 0 rfl) ?_
  refine lv_bipush (v := 100) hx hb dX4_init_29 (by decide) ?_
  refine va_newa (atype := .int) (ty := .int) (n := 100) (N' := 100) (a0 := (100, .inl x_z0)) hx hb k_4 rfl hK hP hD hS hA (fun _ => x_zcI _ _) (by decide) (by decide) (Nat.le_of_ble_eq_true rfl) (Nat.le_of_ble_eq_true rfl) (Nat.le_of_ble_eq_true rfl) dX4_init_31 (fun q31_4 cN H hKn hP hD hS => ?_)
  obtain rfl : cyI = cN := x_one (i := 0) (j := 3) hKn rfl rfl (fun _ h => by cases h)
  clear hKn
  have hP : va_P (dC, dI) vwCl [(h0, .inr (4, [.ref q7_1, .ref q15_2, .int 0, .ref q23_3, .null, .null, .null, .null, .int 0])), (q7_1, .inl (cyI, 100, .inl x_z0)), (q15_2, .inl (cyI, 100, .inl x_z0)), (q23_3, .inl (cyI, 100, .inl x_z0)), (q31_4, .inl (cyI, 100, .inl x_z0))] H := hP
  have hD : va_D A [(h0, .inr (4, [.ref q7_1, .ref q15_2, .int 0, .ref q23_3, .null, .null, .null, .null, .int 0])), (q7_1, .inl (cyI, 100, .inl x_z0)), (q15_2, .inl (cyI, 100, .inl x_z0)), (q23_3, .inl (cyI, 100, .inl x_z0)), (q31_4, .inl (cyI, 100, .inl x_z0))] := hD
  refine W.widen (k := 4) (n := 400) (Nat.le_of_ble_eq_true rfl) (Nat.le_of_ble_eq_true rfl) ?_
  refine va_putF (D := (dC, dI)) (ci := 4) (v := .ref q31_4) (ty := .array .int) (C := RX4) (T := TX4) (N := 9) hx hb hts i_X4_init_X4 tyX4 tyX4_ok nmX4 hown hK hP hD hS 0 rfl rfl 4 (by decide) k_8 (fun _ h9 => h9) rfl hin rfl (by decide +kernel) rfl rfl (Nat.le_of_ble_eq_true rfl) dX4_init_33 (fun H locs hP hD hS => ?_)
  have hP : va_P (dC, dI) vwCl [(h0, .inr (4, [.ref q7_1, .ref q15_2, .int 0, .ref q23_3, .ref q31_4, .null, .null, .null, .int 0])), (q7_1, .inl (cyI, 100, .inl x_z0)), (q15_2, .inl (cyI, 100, .inl x_z0)), (q23_3, .inl (cyI, 100, .inl x_z0)), (q31_4, .inl (cyI, 100, .inl x_z0))] H := hP
  have hD : va_D A [(h0, .inr (4, [.ref q7_1, .ref q15_2, .int 0, .ref q23_3, .ref q31_4, .null, .null, .null, .int 0])), (q7_1, .inl (cyI, 100, .inl x_z0)), (q15_2, .inl (cyI, 100, .inl x_z0)), (q23_3, .inl (cyI, 100, .inl x_z0)), (q31_4, .inl (cyI, 100, .inl x_z0))] := hD
  refine lv_aload_n hx hb dX4_init_36 rfl (lv_at hl 0 rfl) ?_
  refine lv_bipush (v := 100) hx hb dX4_init_37 (by decide) ?_
  refine va_newa (atype := .boolean) (ty := .boolean) (n := 100) (N' := 100) (a0 := (100, .inl x_z0)) hx hb k_9 rfl hK hP hD hS hA (fun _ => x_zcZ _ _) (by decide) (by decide) (Nat.le_of_ble_eq_true rfl) (Nat.le_of_ble_eq_true rfl) (Nat.le_of_ble_eq_true rfl) dX4_init_39 (fun q39_5 cN H hKn hP hD hS => ?_)
  obtain rfl : cyZ = cN := x_one (i := 1) (j := 3) hKn rfl rfl (fun _ h => by cases h)
  clear hKn
  have hP : va_P (dC, dI) vwCl [(h0, .inr (4, [.ref q7_1, .ref q15_2, .int 0, .ref q23_3, .ref q31_4, .null, .null, .null, .int 0])), (q7_1, .inl (cyI, 100, .inl x_z0)), (q15_2, .inl (cyI, 100, .inl x_z0)), (q23_3, .inl (cyI, 100, .inl x_z0)), (q31_4, .inl (cyI, 100, .inl x_z0)), (q39_5, .inl (cyZ, 100, .inl x_z0))] H := hP
  have hD : va_D A [(h0, .inr (4, [.ref q7_1, .ref q15_2, .int 0, .ref q23_3, .ref q31_4, .null, .null, .null, .int 0])), (q7_1, .inl (cyI, 100, .inl x_z0)), (q15_2, .inl (cyI, 100, .inl x_z0)), (q23_3, .inl (cyI, 100, .inl x_z0)), (q31_4, .inl (cyI, 100, .inl x_z0)), (q39_5, .inl (cyZ, 100, .inl x_z0))] := hD
  refine W.widen (k := 5) (n := 500) (Nat.le_of_ble_eq_true rfl) (Nat.le_of_ble_eq_true rfl) ?_
  refine va_putF (D := (dC, dI)) (ci := 4) (v := .ref q39_5) (ty := .array .boolean) (C := RX4) (T := TX4) (N := 9) hx hb hts i_X4_init_X4 tyX4 tyX4_ok nmX4 hown hK hP hD hS 0 rfl rfl 5 (by decide) k_10 (fun _ h9 => h9) rfl hin rfl (by decide +kernel) rfl rfl (Nat.le_of_ble_eq_true rfl) dX4_init_41 (fun H locs hP hD hS => ?_)
  have hP : va_P (dC, dI) vwCl [(h0, .inr (4, [.ref q7_1, .ref q15_2, .int 0, .ref q23_3, .ref q31_4, .ref q39_5, .null, .null, .int 0])), (q7_1, .inl (cyI, 100, .inl x_z0)), (q15_2, .inl (cyI, 100, .inl x_z0)), (q23_3, .inl (cyI, 100, .inl x_z0)), (q31_4, .inl (cyI, 100, .inl x_z0)), (q39_5, .inl (cyZ, 100, .inl x_z0))] H := hP
  have hD : va_D A [(h0, .inr (4, [.ref q7_1, .ref q15_2, .int 0, .ref q23_3, .ref q31_4, .ref q39_5, .null, .null, .int 0])), (q7_1, .inl (cyI, 100, .inl x_z0)), (q15_2, .inl (cyI, 100, .inl x_z0)), (q23_3, .inl (cyI, 100, .inl x_z0)), (q31_4, .inl (cyI, 100, .inl x_z0)), (q39_5, .inl (cyZ, 100, .inl x_z0))] := hD
  refine lv_aload_n hx hb dX4_init_44 rfl (lv_at hl 0 rfl) ?_
  refine lv_sipush (v := 2000) hx hb dX4_init_45 (by decide) ?_
  refine va_newa (atype := .int) (ty := .int) (n := 2000) (N' := 2000) (a0 := (2000, .inl x_z0)) hx hb k_4 rfl hK hP hD hS hA (fun _ => x_zcI _ _) (by decide) (by decide) (Nat.le_of_ble_eq_true rfl) (Nat.le_of_ble_eq_true rfl) (Nat.le_of_ble_eq_true rfl) dX4_init_48 (fun q48_6 cN H hKn hP hD hS => ?_)
  obtain rfl : cyI = cN := x_one (i := 0) (j := 3) hKn rfl rfl (fun _ h => by cases h)
  clear hKn
  have hP : va_P (dC, dI) vwCl [(h0, .inr (4, [.ref q7_1, .ref q15_2, .int 0, .ref q23_3, .ref q31_4, .ref q39_5, .null, .null, .int 0])), (q7_1, .inl (cyI, 100, .inl x_z0)), (q15_2, .inl (cyI, 100, .inl x_z0)), (q23_3, .inl (cyI, 100, .inl x_z0)), (q31_4, .inl (cyI, 100, .inl x_z0)), (q39_5, .inl (cyZ, 100, .inl x_z0)), (q48_6, .inl (cyI, 2000, .inl x_z0))] H := hP
  have hD : va_D A [(h0, .inr (4, [.ref q7_1, .ref q15_2, .int 0, .ref q23_3, .ref q31_4, .ref q39_5, .null, .null, .int 0])), (q7_1, .inl (cyI, 100, .inl x_z0)), (q15_2, .inl (cyI, 100, .inl x_z0)), (q23_3, .inl (cyI, 100, .inl x_z0)), (q31_4, .inl (cyI, 100, .inl x_z0)), (q39_5, .inl (cyZ, 100, .inl x_z0)), (q48_6, .inl (cyI, 2000, .inl x_z0))] := hD
  refine W.widen (k := 6) (n := 2500) (Nat.le_of_ble_eq_true rfl) (Nat.le_of_ble_eq_true rfl) ?_
  refine va_putF (D := (dC, dI)) (ci := 4) (v := .ref q48_6) (ty := .array .int) (C := RX4) (T := TX4) (N := 9) hx hb hts i_X4_init_X4 tyX4 tyX4_ok nmX4 hown hK hP hD hS 0 rfl rfl 6 (by decide) k_11 (fun _ h9 => h9) rfl hin rfl (by decide +kernel) rfl rfl (Nat.le_of_ble_eq_true rfl) dX4_init_50 (fun H locs hP hD hS => ?_)
  have hP : va_P (dC, dI) vwCl [(h0, .inr (4, [.ref q7_1, .ref q15_2, .int 0, .ref q23_3, .ref q31_4, .ref q39_5, .ref q48_6, .null, .int 0])), (q7_1, .inl (cyI, 100, .inl x_z0)), (q15_2, .inl (cyI, 100, .inl x_z0)), (q23_3, .inl (cyI, 100, .inl x_z0)), (q31_4, .inl (cyI, 100, .inl x_z0)), (q39_5, .inl (cyZ, 100, .inl x_z0)), (q48_6, .inl (cyI, 2000, .inl x_z0))] H := hP
  have hD : va_D A [(h0, .inr (4, [.ref q7_1, .ref q15_2, .int 0, .ref q23_3, .ref q31_4, .ref q39_5, .ref q48_6, .null, .int 0])), (q7_1, .inl (cyI, 100, .inl x_z0)), (q15_2, .inl (cyI, 100, .inl x_z0)), (q23_3, .inl (cyI, 100, .inl x_z0)), (q31_4, .inl (cyI, 100, .inl x_z0)), (q39_5, .inl (cyZ, 100, .inl x_z0)), (q48_6, .inl (cyI, 2000, .inl x_z0))] := hD
  refine lv_aload_n hx hb dX4_init_53 rfl (lv_at hl 0 rfl) ?_
  refine lv_bipush (v := 100) hx hb dX4_init_54 (by decide) ?_
  refine va_newa (atype := .int) (ty := .int) (n := 100) (N' := 100) (a0 := (100, .inl x_z0)) hx hb k_4 rfl hK hP hD hS hA (fun _ => x_zcI _ _) (by decide) (by decide) (Nat.le_of_ble_eq_true rfl) (Nat.le_of_ble_eq_true rfl) (Nat.le_of_ble_eq_true rfl) dX4_init_56 (fun q56_7 cN H hKn hP hD hS => ?_)
  obtain rfl : cyI = cN := x_one (i := 0) (j := 3) hKn rfl rfl (fun _ h => by cases h)
  clear hKn
  have hP : va_P (dC, dI) vwCl [(h0, .inr (4, [.ref q7_1, .ref q15_2, .int 0, .ref q23_3, .ref q31_4, .ref q39_5, .ref q48_6, .null, .int 0])), (q7_1, .inl (cyI, 100, .inl x_z0)), (q15_2, .inl (cyI, 100, .inl x_z0)), (q23_3, .inl (cyI, 100, .inl x_z0)), (q31_4, .inl (cyI, 100, .inl x_z0)), (q39_5, .inl (cyZ, 100, .inl x_z0)), (q48_6, .inl (cyI, 2000, .inl x_z0)), (q56_7, .inl (cyI, 100, .inl x_z0))] H := hP
  have hD : va_D A [(h0, .inr (4, [.ref q7_1, .ref q15_2, .int 0, .ref q23_3, .ref q31_4, .ref q39_5, .ref q48_6, .null, .int 0])), (q7_1, .inl (cyI, 100, .inl x_z0)), (q15_2, .inl (cyI, 100, .inl x_z0)), (q23_3, .inl (cyI, 100, .inl x_z0)), (q31_4, .inl (cyI, 100, .inl x_z0)), (q39_5, .inl (cyZ, 100, .inl x_z0)), (q48_6, .inl (cyI, 2000, .inl x_z0)), (q56_7, .inl (cyI, 100, .inl x_z0))] := hD
  refine W.widen (k := 7) (n := 2600) (Nat.le_of_ble_eq_true rfl) (Nat.le_of_ble_eq_true rfl) ?_
  refine va_putF (D := (dC, dI)) (ci := 4) (v := .ref q56_7) (ty := .array .int) (C := RX4) (T := TX4) (N := 9) hx hb hts i_X4_init_X4 tyX4 tyX4_ok nmX4 hown hK hP hD hS 0 rfl rfl 7 (by decide) k_12 (fun _ h9 => h9) rfl hin rfl (by decide +kernel) rfl rfl (Nat.le_of_ble_eq_true rfl) dX4_init_58 (fun H locs hP hD hS => ?_)
  have hP : va_P (dC, dI) vwCl [(h0, .inr (4, [.ref q7_1, .ref q15_2, .int 0, .ref q23_3, .ref q31_4, .ref q39_5, .ref q48_6, .ref q56_7, .int 0])), (q7_1, .inl (cyI, 100, .inl x_z0)), (q15_2, .inl (cyI, 100, .inl x_z0)), (q23_3, .inl (cyI, 100, .inl x_z0)), (q31_4, .inl (cyI, 100, .inl x_z0)), (q39_5, .inl (cyZ, 100, .inl x_z0)), (q48_6, .inl (cyI, 2000, .inl x_z0)), (q56_7, .inl (cyI, 100, .inl x_z0))] H := hP
  have hD : va_D A [(h0, .inr (4, [.ref q7_1, .ref q15_2, .int 0, .ref q23_3, .ref q31_4, .ref q39_5, .ref q48_6, .ref q56_7, .int 0])), (q7_1, .inl (cyI, 100, .inl x_z0)), (q15_2, .inl (cyI, 100, .inl x_z0)), (q23_3, .inl (cyI, 100, .inl x_z0)), (q31_4, .inl (cyI, 100, .inl x_z0)), (q39_5, .inl (cyZ, 100, .inl x_z0)), (q48_6, .inl (cyI, 2000, .inl x_z0)), (q56_7, .inl (cyI, 100, .inl x_z0))] := hD
  have hP9 := hP.sub (ws' := [(h0, .inr (4, [.ref q7_1, .ref q15_2, .int 0, .ref q23_3, .ref q31_4, .ref q39_5, .ref q48_6, .ref q56_7, .int 0])), (q7_1, .inl (cyI, 100, .inl x_z0)), (q15_2, .inl (cyI, 100, .inl x_z0)), (q23_3, .inl (cyI, 100, .inl x_z0)), (q31_4, .inl (cyI, 100, .inl x_z0)), (q39_5, .inl (cyZ, 100, .inl x_z0)), (q48_6, .inl (cyI, 2000, .inl x_z0)), (q56_7, .inl (cyI, 100, .inl x_z0))]) [0, 1, 2, 3, 4, 5, 6, 7] rfl
  have hD9 := hD.sub (ws' := [(h0, .inr (4, [.ref q7_1, .ref q15_2, .int 0, .ref q23_3, .ref q31_4, .ref q39_5, .ref q48_6, .ref q56_7, .int 0])), (q7_1, .inl (cyI, 100, .inl x_z0)), (q15_2, .inl (cyI, 100, .inl x_z0)), (q23_3, .inl (cyI, 100, .inl x_z0)), (q31_4, .inl (cyI, 100, .inl x_z0)), (q39_5, .inl (cyZ, 100, .inl x_z0)), (q48_6, .inl (cyI, 2000, .inl x_z0)), (q56_7, .inl (cyI, 100, .inl x_z0))]) [0, 1, 2, 3, 4, 5, 6, 7] (by decide) rfl
  exact W.vret hx hb hr (fun t ht hW => ⟨⟨(), rfl, trivial, q7_1, q15_2, q23_3, q31_4, q39_5, q48_6, q56_7, by rw [ht]; exact hP9, va_K.moved hW.alike hK, hD9⟩, hS.F ht⟩) hS.2.2 dX4_init_61

theorem i_X0_init_X0 : ∀ w ∈ wsX00, w ∈ wsX0_init := fun _ h => List.mem_cons_of_mem _ (List.mem_append_right _ h)
set_option maxHeartbeats 4000000 in
set_option maxRecDepth 100000 in
theorem c_X0_init (l : Launch) (dC : Nat → ClassId) (dI : Nat → Nat → Nat) (cyI cyZ cyJ : ClassId) (sz : Nat) (h0 : Nat) : Met l yX0_init wsX0_init ({ frames := 1, cells := 9, slots := 6284, locals := 12 }) (va_Pc [.ref h0] (x_PreD (dC, dI) (x_T cyI cyZ cyJ) [(h0, .inr (0, [.int 0, .int 0, .int 0, .int 0, .int 0, .null, .int 0, .null, .null, .null, .int 0, .null, .null, .null, .null, .int 0, .null]))] sz)) (va_Qv (fun _ : Unit => True) (fun (_ : Unit) (t : State) => ∃ (a5 : Nat) (a7 : Nat) (a8 : Nat) (a9 : Nat) (a11 : Nat) (a12 : Nat) (a13 : Nat) (a14 : Nat) (a16 : Nat), va_P (dC, dI) vwCl [(h0, .inr (0, [.int 0, .int 0, .int (-1), .int 0, .int 0, .ref a5, .int 0, .ref a7, .ref a8, .ref a9, .int 0, .ref a11, .ref a12, .ref a13, .ref a14, .int 0, .ref a16])), (a5, .inl (cyI, 20, .inl x_z0)), (a7, .inl (cyI, 1000, .inl x_z0)), (a8, .inl (cyI, 1000, .inl x_z0)), (a9, .inl (cyI, 1000, .inl x_z0)), (a11, .inl (cyI, 64, .inl x_z0)), (a12, .inl (cyI, 1000, .inl x_z0)), (a13, .inl (cyI, 1000, .inl x_z0)), (a14, .inl (cyI, 200, .inl x_z0)), (a16, .inl (cyZ, 1000, .inl x_z0))] t.heap ∧ va_K (dC, dI) vwCl (x_T cyI cyZ cyJ) t ∧ va_D (va_A [(h0, .inr (0, [.int 0, .int 0, .int 0, .int 0, .int 0, .null, .int 0, .null, .null, .null, .int 0, .null, .null, .null, .null, .int 0, .null]))] sz) [(h0, .inr (0, [.int 0, .int 0, .int (-1), .int 0, .int 0, .ref a5, .int 0, .ref a7, .ref a8, .ref a9, .int 0, .ref a11, .ref a12, .ref a13, .ref a14, .int 0, .ref a16])), (a5, .inl (cyI, 20, .inl x_z0)), (a7, .inl (cyI, 1000, .inl x_z0)), (a8, .inl (cyI, 1000, .inl x_z0)), (a9, .inl (cyI, 1000, .inl x_z0)), (a11, .inl (cyI, 64, .inl x_z0)), (a12, .inl (cyI, 1000, .inl x_z0)), (a13, .inl (cyI, 1000, .inl x_z0)), (a14, .inl (cyI, 200, .inl x_z0)), (a16, .inl (cyZ, 1000, .inl x_z0))]) (va_A [(h0, .inr (0, [.int 0, .int 0, .int 0, .int 0, .int 0, .null, .int 0, .null, .null, .null, .int 0, .null, .null, .null, .null, .int 0, .null]))] sz)) 9 6284 (va_A [(h0, .inr (0, [.int 0, .int 0, .int 0, .int 0, .int 0, .null, .int 0, .null, .null, .null, .int 0, .null, .null, .null, .null, .int 0, .null]))] sz) := by
  refine Met.ofW (cc := cX0_init) (maxL := 1) (ret := none) (by decide) rfl ?_
  intro p e s m args below meth c s₁ B hml hv
  obtain ⟨rfl, ⟨hsz, hP, hK, hN⟩, hD0⟩ := hv
  have hx := B.exec
  have hb := B.bytes
  have hr := B.returns
  have hts := atoms_spec (ws := wsX0_init) B.pre
  have hown : s.vm.findClass RX0 = some m.cls := findClass_of_methodNamed B.named
  have hlocks := B.notSynchronized
  have hin : meth.name = "<init>" := (name_of_methodNamed B.named B.method).1
  have k_1 := hts (.methodLink RX0 3 objectInit) (by decide +kernel)
  have k_2 := hts (.instanceMethod objectInit) (by decide +kernel)
  have k_3 := hts (.code objectInit ⟨#[0xb1]⟩ 1 none) (by decide +kernel)
  have k_4 := hts (.fieldLink RX0 9 "FlowJudge$Code" "result" "I") (by decide +kernel)
  have k_5 := hts (.arrayClass .int) (by decide +kernel)
  have k_6 := hts (.fieldLink RX0 15 "FlowJudge$Code" "arguments" "[I") (by decide +kernel)
  have k_7 := hts (.fieldLink RX0 19 "FlowJudge$Code" "ops" "[I") (by decide +kernel)
  have k_8 := hts (.fieldLink RX0 22 "FlowJudge$Code" "as" "[I") (by decide +kernel)
  have k_9 := hts (.fieldLink RX0 25 "FlowJudge$Code" "bs" "[I") (by decide +kernel)
  have k_10 := hts (.fieldLink RX0 28 "FlowJudge$Code" "switched" "[I") (by decide +kernel)
  have k_11 := hts (.fieldLink RX0 31 "FlowJudge$Code" "firstSwitched" "[I") (by decide +kernel)
  have k_12 := hts (.fieldLink RX0 34 "FlowJudge$Code" "upToSwitched" "[I") (by decide +kernel)
  have k_13 := hts (.fieldLink RX0 37 "FlowJudge$Code" "rows" "[I") (by decide +kernel)
  have k_14 := hts (.arrayClass .boolean) (by decide +kernel)
  have k_15 := hts (.fieldLink RX0 40 "FlowJudge$Code" "isTarget" "[Z") (by decide +kernel)
  subst hsz
  have hD := hD0.self (sz := s.heap.size)
  generalize hAe : va_A [(h0, .inr (0, [.int 0, .int 0, .int 0, .int 0, .int 0, .null, .int 0, .null, .null, .null, .int 0, .null, .null, .null, .null, .int 0, .null]))] s.heap.size = A at hD ⊢
  have hA : ∀ q : Nat, s.heap.size ≤ q → A q := fun q h => by rw [← hAe]; exact Or.inr h
  have hS : va_S A s.heap s.heap [] := va_S.rf
  have hP : va_P (dC, dI) vwCl [(h0, .inr (0, [.int 0, .int 0, .int 0, .int 0, .int 0, .null, .int 0, .null, .null, .null, .int 0, .null, .null, .null, .null, .int 0, .null]))] s.heap := hP
  have hl := lv_entry ([.ref h0]) (n := 1) (Nat.le_of_ble_eq_true rfl)
  rw [lg_entry_eq]
  generalize (lg_sl ([.ref h0]) ++ List.replicate (1 - (lg_sl ([.ref h0])).length) Slot.unset).toArray = ls at hl ⊢
  have hl : lv_has ls 1 [(0, .ref h0)] := hl
  obtain ⟨H, hH⟩ : ∃ z, z = s.heap := ⟨_, rfl⟩
  refine x_here hH ?_
  have hP : va_P (dC, dI) vwCl [(h0, .inr (0, [.int 0, .int 0, .int 0, .int 0, .int 0, .null, .int 0, .null, .null, .null, .int 0, .null, .null, .null, .null, .int 0, .null]))] H := by rw [hH]; exact hP
  have hS : va_S A s.heap H [] := by rw [hH]; exact va_S.rf
  clear hH
  refine lv_aload_n hx hb dX0_init_0 rfl (lv_at hl 0 rfl) ?_
  refine W.objInit hx hb hown k_1 k_2 k_3 rfl (by rw [hml]; exact hl.1) rfl dX0_init_1 (Nat.le_of_ble_eq_true rfl) (Nat.le_of_ble_eq_true rfl) ?_
  refine W.eq (g2 := F0 m 4 ls []) rfl ?_
  refine lv_aload_n hx hb dX0_init_4 rfl (lv_at hl 0 rfl) ?_
  refine lv_iconst (v := (-1)) hx hb dX0_init_5 (by decide) ?_
  refine va_put (D := (dC, dI)) (ci := 0) (v := .int (-1)) (ty := .int) (C := RX0) (T := TX0) (N := 17) hx hb hts i_X0_init_X0 tyX0 tyX0_ok nmX0 hown hK hP hD hS 0 rfl rfl 2 (by decide) k_4 (fun _ h9 => h9) rfl (by decide +kernel) rfl rfl (Nat.le_of_ble_eq_true rfl) dX0_init_6 (fun H locs hP hD hS => ?_)
  have hP : va_P (dC, dI) vwCl [(h0, .inr (0, [.int 0, .int 0, .int (-1), .int 0, .int 0, .null, .int 0, .null, .null, .null, .int 0, .null, .null, .null, .null, .int 0, .null]))] H := hP
  have hD : va_D A [(h0, .inr (0, [.int 0, .int 0, .int (-1), .int 0, .int 0, .null, .int 0, .null, .null, .null, .int 0, .null, .null, .null, .null, .int 0, .null]))] := hD
  refine lv_aload_n hx hb dX0_init_9 rfl (lv_at hl 0 rfl) ?_
  refine lv_bipush (v := 20) hx hb dX0_init_10 (by decide) ?_
  refine va_newa (atype := .int) (ty := .int) (n := 20) (N' := 20) (a0 := (20, .inl x_z0)) hx hb k_5 rfl hK hP hD hS hA (fun _ => x_zcI _ _) (by decide) (by decide) (Nat.le_of_ble_eq_true rfl) (Nat.le_of_ble_eq_true rfl) (Nat.le_of_ble_eq_true rfl) dX0_init_12 (fun q12_1 cN H hKn hP hD hS => ?_)
  obtain rfl : cyI = cN := x_one (i := 0) (j := 3) hKn rfl rfl (fun _ h => by cases h)
  clear hKn
  have hP : va_P (dC, dI) vwCl [(h0, .inr (0, [.int 0, .int 0, .int (-1), .int 0, .int 0, .null, .int 0, .null, .null, .null, .int 0, .null, .null, .null, .null, .int 0, .null])), (q12_1, .inl (cyI, 20, .inl x_z0))] H := hP
  have hD : va_D A [(h0, .inr (0, [.int 0, .int 0, .int (-1), .int 0, .int 0, .null, .int 0, .null, .null, .null, .int 0, .null, .null, .null, .null, .int 0, .null])), (q12_1, .inl (cyI, 20, .inl x_z0))] := hD
  refine W.widen (k := 1) (n := 20) (Nat.le_of_ble_eq_true rfl) (Nat.le_of_ble_eq_true rfl) ?_
  refine va_putF (D := (dC, dI)) (ci := 0) (v := .ref q12_1) (ty := .array .int) (C := RX0) (T := TX0) (N := 17) hx hb hts i_X0_init_X0 tyX0 tyX0_ok nmX0 hown hK hP hD hS 0 rfl rfl 5 (by decide) k_6 (fun _ h9 => h9) rfl hin rfl (by decide +kernel) rfl rfl (Nat.le_of_ble_eq_true rfl) dX0_init_14 (fun H locs hP hD hS => ?_)
  have hP : va_P (dC, dI) vwCl [(h0, .inr (0, [.int 0, .int 0, .int (-1), .int 0, .int 0, .ref q12_1, .int 0, .null, .null, .null, .int 0, .null, .null, .null, .null, .int 0, .null])), (q12_1, .inl (cyI, 20, .inl x_z0))] H := hP
  have hD : va_D A [(h0, .inr (0, [.int 0, .int 0, .int (-1), .int 0, .int 0, .ref q12_1, .int 0, .null, .null, .null, .int 0, .null, .null, .null, .null, .int 0, .null])), (q12_1, .inl (cyI, 20, .inl x_z0))] := hD
  refine lv_aload_n hx hb dX0_init_17 rfl (lv_at hl 0 rfl) ?_
  refine lv_sipush (v := 1000) hx hb dX0_init_18 (by decide) ?_
  refine va_newa (atype := .int) (ty := .int) (n := 1000) (N' := 1000) (a0 := (1000, .inl x_z0)) hx hb k_5 rfl hK hP hD hS hA (fun _ => x_zcI _ _) (by decide) (by decide) (Nat.le_of_ble_eq_true rfl) (Nat.le_of_ble_eq_true rfl) (Nat.le_of_ble_eq_true rfl) dX0_init_21 (fun q21_2 cN H hKn hP hD hS => ?_)
  obtain rfl : cyI = cN := x_one (i := 0) (j := 3) hKn rfl rfl (fun _ h => by cases h)
  clear hKn
  have hP : va_P (dC, dI) vwCl [(h0, .inr (0, [.int 0, .int 0, .int (-1), .int 0, .int 0, .ref q12_1, .int 0, .null, .null, .null, .int 0, .null, .null, .null, .null, .int 0, .null])), (q12_1, .inl (cyI, 20, .inl x_z0)), (q21_2, .inl (cyI, 1000, .inl x_z0))] H := hP
  have hD : va_D A [(h0, .inr (0, [.int 0, .int 0, .int (-1), .int 0, .int 0, .ref q12_1, .int 0, .null, .null, .null, .int 0, .null, .null, .null, .null, .int 0, .null])), (q12_1, .inl (cyI, 20, .inl x_z0)), (q21_2, .inl (cyI, 1000, .inl x_z0))] := hD
  refine W.widen (k := 2) (n := 1020) (Nat.le_of_ble_eq_true rfl) (Nat.le_of_ble_eq_true rfl) ?_
  refine va_putF (D := (dC, dI)) (ci := 0) (v := .ref q21_2) (ty := .array .int) (C := RX0) (T := TX0) (N := 17) hx hb hts i_X0_init_X0 tyX0 tyX0_ok nmX0 hown hK hP hD hS 0 rfl rfl 7 (by decide) k_7 (fun _ h9 => h9) rfl hin rfl (by decide +kernel) rfl rfl (Nat.le_of_ble_eq_true rfl) dX0_init_23 (fun H locs hP hD hS => ?_)
  have hP : va_P (dC, dI) vwCl [(h0, .inr (0, [.int 0, .int 0, .int (-1), .int 0, .int 0, .ref q12_1, .int 0, .ref q21_2, .null, .null, .int 0, .null, .null, .null, .null, .int 0, .null])), (q12_1, .inl (cyI, 20, .inl x_z0)), (q21_2, .inl (cyI, 1000, .inl x_z0))] H := hP
  have hD : va_D A [(h0, .inr (0, [.int 0, .int 0, .int (-1), .int 0, .int 0, .ref q12_1, .int 0, .ref q21_2, .null, .null, .int 0, .null, .null, .null, .null, .int 0, .null])), (q12_1, .inl (cyI, 20, .inl x_z0)), (q21_2, .inl (cyI, 1000, .inl x_z0))] := hD
  refine lv_aload_n hx hb dX0_init_26 rfl (lv_at hl 0 rfl) ?_
  refine lv_sipush (v := 1000) hx hb dX0_init_27 (by decide) ?_
  refine va_newa (atype := .int) (ty := .int) (n := 1000) (N' := 1000) (a0 := (1000, .inl x_z0)) hx hb k_5 rfl hK hP hD hS hA (fun _ => x_zcI _ _) (by decide) (by decide) (Nat.le_of_ble_eq_true rfl) (Nat.le_of_ble_eq_true rfl) (Nat.le_of_ble_eq_true rfl) dX0_init_30 (fun q30_3 cN H hKn hP hD hS => ?_)
  obtain rfl : cyI = cN := x_one (i := 0) (j := 3) hKn rfl rfl (fun _ h => by cases h)
  clear hKn
  have hP : va_P (dC, dI) vwCl [(h0, .inr (0, [.int 0, .int 0, .int (-1), .int 0, .int 0, .ref q12_1, .int 0, .ref q21_2, .null, .null, .int 0, .null, .null, .null, .null, .int 0, .null])), (q12_1, .inl (cyI, 20, .inl x_z0)), (q21_2, .inl (cyI, 1000, .inl x_z0)), (q30_3, .inl (cyI, 1000, .inl x_z0))] H := hP
  have hD : va_D A [(h0, .inr (0, [.int 0, .int 0, .int (-1), .int 0, .int 0, .ref q12_1, .int 0, .ref q21_2, .null, .null, .int 0, .null, .null, .null, .null, .int 0, .null])), (q12_1, .inl (cyI, 20, .inl x_z0)), (q21_2, .inl (cyI, 1000, .inl x_z0)), (q30_3, .inl (cyI, 1000, .inl x_z0))] := hD
  refine W.widen (k := 3) (n := 2020) (Nat.le_of_ble_eq_true rfl) (Nat.le_of_ble_eq_true rfl) ?_
  refine va_putF (D := (dC, dI)) (ci := 0) (v := .ref q30_3) (ty := .array .int) (C := RX0) (T := TX0) (N := 17) hx hb hts i_X0_init_X0 tyX0 tyX0_ok nmX0 hown hK hP hD hS 0 rfl rfl 8 (by decide) k_8 (fun _ h9 => h9) rfl hin rfl (by decide +kernel) rfl rfl (Nat.le_of_ble_eq_true rfl) dX0_init_32 (fun H locs hP hD hS => ?_)
  have hP : va_P (dC, dI) vwCl [(h0, .inr (0, [.int 0, .int 0, .int (-1), .int 0, .int 0, .ref q12_1, .int 0, .ref q21_2, .ref q30_3, .null, .int 0, .null, .null, .null, .null, .int 0, .null])), (q12_1, .inl (cyI, 20, .inl x_z0)), (q21_2, .inl (cyI, 1000, .inl x_z0)), (q30_3, .inl (cyI, 1000, .inl x_z0))] H := hP
  have hD : va_D A [(h0, .inr (0, [.int 0, .int 0, .int (-1), .int 0, .int 0, .ref q12_1, .int 0, .ref q21_2, .ref q30_3, .null, .int 0, .null, .null, .null, .null, .int 0, .null])), (q12_1, .inl (cyI, 20, .inl x_z0)), (q21_2, .inl (cyI, 1000, .inl x_z0)), (q30_3, .inl (cyI, 1000, .inl x_z0))] := hD
  refine lv_aload_n hx hb dX0_init_35 rfl (lv_at hl 0 rfl) ?_
  refine lv_sipush (v := 1000) hx hb dX0_init_36 (by decide) ?_
  refine va_newa (atype := .int) (ty := .int) (n := 1000) (N' := 1000) (a0 := (1000, .inl x_z0)) hx hb k_5 rfl hK hP hD hS hA (fun _ => x_zcI _ _) (by decide) (by decide) (Nat.le_of_ble_eq_true rfl) (Nat.le_of_ble_eq_true rfl) (Nat.le_of_ble_eq_true rfl) dX0_init_39 (fun q39_4 cN H hKn hP hD hS => ?_)
  obtain rfl : cyI = cN := x_one (i := 0) (j := 3) hKn rfl rfl (fun _ h => by cases h)
  clear hKn
  have hP : va_P (dC, dI) vwCl [(h0, .inr (0, [.int 0, .int 0, .int (-1), .int 0, .int 0, .ref q12_1, .int 0, .ref q21_2, .ref q30_3, .null, .int 0, .null, .null, .null, .null, .int 0, .null])), (q12_1, .inl (cyI, 20, .inl x_z0)), (q21_2, .inl (cyI, 1000, .inl x_z0)), (q30_3, .inl (cyI, 1000, .inl x_z0)), (q39_4, .inl (cyI, 1000, .inl x_z0))] H := hP
  have hD : va_D A [(h0, .inr (0, [.int 0, .int 0, .int (-1), .int 0, .int 0, .ref q12_1, .int 0, .ref q21_2, .ref q30_3, .null, .int 0, .null, .null, .null, .null, .int 0, .null])), (q12_1, .inl (cyI, 20, .inl x_z0)), (q21_2, .inl (cyI, 1000, .inl x_z0)), (q30_3, .inl (cyI, 1000, .inl x_z0)), (q39_4, .inl (cyI, 1000, .inl x_z0))] := hD
  refine W.widen (k := 4) (n := 3020) (Nat.le_of_ble_eq_true rfl) (Nat.le_of_ble_eq_true rfl) ?_
  refine va_putF (D := (dC, dI)) (ci := 0) (v := .ref q39_4) (ty := .array .int) (C := RX0) (T := TX0) (N := 17) hx hb hts i_X0_init_X0 tyX0 tyX0_ok nmX0 hown hK hP hD hS 0 rfl rfl 9 (by decide) k_9 (fun _ h9 => h9) rfl hin rfl (by decide +kernel) rfl rfl (Nat.le_of_ble_eq_true rfl) dX0_init_41 (fun H locs hP hD hS => ?_)
  have hP : va_P (dC, dI) vwCl [(h0, .inr (0, [.int 0, .int 0, .int (-1), .int 0, .int 0, .ref q12_1, .int 0, .ref q21_2, .ref q30_3, .ref q39_4, .int 0, .null, .null, .null, .null, .int 0, .null])), (q12_1, .inl (cyI, 20, .inl x_z0)), (q21_2, .inl (cyI, 1000, .inl x_z0)), (q30_3, .inl (cyI, 1000, .inl x_z0)), (q39_4, .inl (cyI, 1000, .inl x_z0))] H := hP
  have hD : va_D A [(h0, .inr (0, [.int 0, .int 0, .int (-1), .int 0, .int 0, .ref q12_1, .int 0, .ref q21_2, .ref q30_3, .ref q39_4, .int 0, .null, .null, .null, .null, .int 0, .null])), (q12_1, .inl (cyI, 20, .inl x_z0)), (q21_2, .inl (cyI, 1000, .inl x_z0)), (q30_3, .inl (cyI, 1000, .inl x_z0)), (q39_4, .inl (cyI, 1000, .inl x_z0))] := hD
  refine lv_aload_n hx hb dX0_init_44 rfl (lv_at hl 0 rfl) ?_
  refine lv_bipush (v := 64) hx hb dX0_init_45 (by decide) ?_
  refine va_newa (atype := .int) (ty := .int) (n := 64) (N' := 64) (a0 := (64, .inl x_z0)) hx hb k_5 rfl hK hP hD hS hA (fun _ => x_zcI _ _) (by decide) (by decide) (Nat.le_of_ble_eq_true rfl) (Nat.le_of_ble_eq_true rfl) (Nat.le_of_ble_eq_true rfl) dX0_init_47 (fun q47_5 cN H hKn hP hD hS => ?_)
  obtain rfl : cyI = cN := x_one (i := 0) (j := 3) hKn rfl rfl (fun _ h => by cases h)
  clear hKn
  have hP : va_P (dC, dI) vwCl [(h0, .inr (0, [.int 0, .int 0, .int (-1), .int 0, .int 0, .ref q12_1, .int 0, .ref q21_2, .ref q30_3, .ref q39_4, .int 0, .null, .null, .null, .null, .int 0, .null])), (q12_1, .inl (cyI, 20, .inl x_z0)), (q21_2, .inl (cyI, 1000, .inl x_z0)), (q30_3, .inl (cyI, 1000, .inl x_z0)), (q39_4, .inl (cyI, 1000, .inl x_z0)), (q47_5, .inl (cyI, 64, .inl x_z0))] H := hP
  have hD : va_D A [(h0, .inr (0, [.int 0, .int 0, .int (-1), .int 0, .int 0, .ref q12_1, .int 0, .ref q21_2, .ref q30_3, .ref q39_4, .int 0, .null, .null, .null, .null, .int 0, .null])), (q12_1, .inl (cyI, 20, .inl x_z0)), (q21_2, .inl (cyI, 1000, .inl x_z0)), (q30_3, .inl (cyI, 1000, .inl x_z0)), (q39_4, .inl (cyI, 1000, .inl x_z0)), (q47_5, .inl (cyI, 64, .inl x_z0))] := hD
  refine W.widen (k := 5) (n := 3084) (Nat.le_of_ble_eq_true rfl) (Nat.le_of_ble_eq_true rfl) ?_
  refine va_put (D := (dC, dI)) (ci := 0) (v := .ref q47_5) (ty := .array .int) (C := RX0) (T := TX0) (N := 17) hx hb hts i_X0_init_X0 tyX0 tyX0_ok nmX0 hown hK hP hD hS 0 rfl rfl 11 (by decide) k_10 (fun _ h9 => h9) rfl (by decide +kernel) rfl rfl (Nat.le_of_ble_eq_true rfl) dX0_init_49 (fun H locs hP hD hS => ?_)
  have hP : va_P (dC, dI) vwCl [(h0, .inr (0, [.int 0, .int 0, .int (-1), .int 0, .int 0, .ref q12_1, .int 0, .ref q21_2, .ref q30_3, .ref q39_4, .int 0, .ref q47_5, .null, .null, .null, .int 0, .null])), (q12_1, .inl (cyI, 20, .inl x_z0)), (q21_2, .inl (cyI, 1000, .inl x_z0)), (q30_3, .inl (cyI, 1000, .inl x_z0)), (q39_4, .inl (cyI, 1000, .inl x_z0)), (q47_5, .inl (cyI, 64, .inl x_z0))] H := hP
  have hD : va_D A [(h0, .inr (0, [.int 0, .int 0, .int (-1), .int 0, .int 0, .ref q12_1, .int 0, .ref q21_2, .ref q30_3, .ref q39_4, .int 0, .ref q47_5, .null, .null, .null, .int 0, .null])), (q12_1, .inl (cyI, 20, .inl x_z0)), (q21_2, .inl (cyI, 1000, .inl x_z0)), (q30_3, .inl (cyI, 1000, .inl x_z0)), (q39_4, .inl (cyI, 1000, .inl x_z0)), (q47_5, .inl (cyI, 64, .inl x_z0))] := hD
  refine lv_aload_n hx hb dX0_init_52 rfl (lv_at hl 0 rfl) ?_
  refine lv_sipush (v := 1000) hx hb dX0_init_53 (by decide) ?_
  refine va_newa (atype := .int) (ty := .int) (n := 1000) (N' := 1000) (a0 := (1000, .inl x_z0)) hx hb k_5 rfl hK hP hD hS hA (fun _ => x_zcI _ _) (by decide) (by decide) (Nat.le_of_ble_eq_true rfl) (Nat.le_of_ble_eq_true rfl) (Nat.le_of_ble_eq_true rfl) dX0_init_56 (fun q56_6 cN H hKn hP hD hS => ?_)
  obtain rfl : cyI = cN := x_one (i := 0) (j := 3) hKn rfl rfl (fun _ h => by cases h)
  clear hKn
  have hP : va_P (dC, dI) vwCl [(h0, .inr (0, [.int 0, .int 0, .int (-1), .int 0, .int 0, .ref q12_1, .int 0, .ref q21_2, .ref q30_3, .ref q39_4, .int 0, .ref q47_5, .null, .null, .null, .int 0, .null])), (q12_1, .inl (cyI, 20, .inl x_z0)), (q21_2, .inl (cyI, 1000, .inl x_z0)), (q30_3, .inl (cyI, 1000, .inl x_z0)), (q39_4, .inl (cyI, 1000, .inl x_z0)), (q47_5, .inl (cyI, 64, .inl x_z0)), (q56_6, .inl (cyI, 1000, .inl x_z0))] H := hP
  have hD : va_D A [(h0, .inr (0, [.int 0, .int 0, .int (-1), .int 0, .int 0, .ref q12_1, .int 0, .ref q21_2, .ref q30_3, .ref q39_4, .int 0, .ref q47_5, .null, .null, .null, .int 0, .null])), (q12_1, .inl (cyI, 20, .inl x_z0)), (q21_2, .inl (cyI, 1000, .inl x_z0)), (q30_3, .inl (cyI, 1000, .inl x_z0)), (q39_4, .inl (cyI, 1000, .inl x_z0)), (q47_5, .inl (cyI, 64, .inl x_z0)), (q56_6, .inl (cyI, 1000, .inl x_z0))] := hD
  refine W.widen (k := 6) (n := 4084) (Nat.le_of_ble_eq_true rfl) (Nat.le_of_ble_eq_true rfl) ?_
  refine va_putF (D := (dC, dI)) (ci := 0) (v := .ref q56_6) (ty := .array .int) (C := RX0) (T := TX0) (N := 17) hx hb hts i_X0_init_X0 tyX0 tyX0_ok nmX0 hown hK hP hD hS 0 rfl rfl 12 (by decide) k_11 (fun _ h9 => h9) rfl hin rfl (by decide +kernel) rfl rfl (Nat.le_of_ble_eq_true rfl) dX0_init_58 (fun H locs hP hD hS => ?_)
  have hP : va_P (dC, dI) vwCl [(h0, .inr (0, [.int 0, .int 0, .int (-1), .int 0, .int 0, .ref q12_1, .int 0, .ref q21_2, .ref q30_3, .ref q39_4, .int 0, .ref q47_5, .ref q56_6, .null, .null, .int 0, .null])), (q12_1, .inl (cyI, 20, .inl x_z0)), (q21_2, .inl (cyI, 1000, .inl x_z0)), (q30_3, .inl (cyI, 1000, .inl x_z0)), (q39_4, .inl (cyI, 1000, .inl x_z0)), (q47_5, .inl (cyI, 64, .inl x_z0)), (q56_6, .inl (cyI, 1000, .inl x_z0))] H := hP
  have hD : va_D A [(h0, .inr (0, [.int 0, .int 0, .int (-1), .int 0, .int 0, .ref q12_1, .int 0, .ref q21_2, .ref q30_3, .ref q39_4, .int 0, .ref q47_5, .ref q56_6, .null, .null, .int 0, .null])), (q12_1, .inl (cyI, 20, .inl x_z0)), (q21_2, .inl (cyI, 1000, .inl x_z0)), (q30_3, .inl (cyI, 1000, .inl x_z0)), (q39_4, .inl (cyI, 1000, .inl x_z0)), (q47_5, .inl (cyI, 64, .inl x_z0)), (q56_6, .inl (cyI, 1000, .inl x_z0))] := hD
  refine lv_aload_n hx hb dX0_init_61 rfl (lv_at hl 0 rfl) ?_
  refine lv_sipush (v := 1000) hx hb dX0_init_62 (by decide) ?_
  refine va_newa (atype := .int) (ty := .int) (n := 1000) (N' := 1000) (a0 := (1000, .inl x_z0)) hx hb k_5 rfl hK hP hD hS hA (fun _ => x_zcI _ _) (by decide) (by decide) (Nat.le_of_ble_eq_true rfl) (Nat.le_of_ble_eq_true rfl) (Nat.le_of_ble_eq_true rfl) dX0_init_65 (fun q65_7 cN H hKn hP hD hS => ?_)
  obtain rfl : cyI = cN := x_one (i := 0) (j := 3) hKn rfl rfl (fun _ h => by cases h)
  clear hKn
  have hP : va_P (dC, dI) vwCl [(h0, .inr (0, [.int 0, .int 0, .int (-1), .int 0, .int 0, .ref q12_1, .int 0, .ref q21_2, .ref q30_3, .ref q39_4, .int 0, .ref q47_5, .ref q56_6, .null, .null, .int 0, .null])), (q12_1, .inl (cyI, 20, .inl x_z0)), (q21_2, .inl (cyI, 1000, .inl x_z0)), (q30_3, .inl (cyI, 1000, .inl x_z0)), (q39_4, .inl (cyI, 1000, .inl x_z0)), (q47_5, .inl (cyI, 64, .inl x_z0)), (q56_6, .inl (cyI, 1000, .inl x_z0)), (q65_7, .inl (cyI, 1000, .inl x_z0))] H := hP
  have hD : va_D A [(h0, .inr (0, [.int 0, .int 0, .int (-1), .int 0, .int 0, .ref q12_1, .int 0, .ref q21_2, .ref q30_3, .ref q39_4, .int 0, .ref q47_5, .ref q56_6, .null, .null, .int 0, .null])), (q12_1, .inl (cyI, 20, .inl x_z0)), (q21_2, .inl (cyI, 1000, .inl x_z0)), (q30_3, .inl (cyI, 1000, .inl x_z0)), (q39_4, .inl (cyI, 1000, .inl x_z0)), (q47_5, .inl (cyI, 64, .inl x_z0)), (q56_6, .inl (cyI, 1000, .inl x_z0)), (q65_7, .inl (cyI, 1000, .inl x_z0))] := hD
  refine W.widen (k := 7) (n := 5084) (Nat.le_of_ble_eq_true rfl) (Nat.le_of_ble_eq_true rfl) ?_
  refine va_putF (D := (dC, dI)) (ci := 0) (v := .ref q65_7) (ty := .array .int) (C := RX0) (T := TX0) (N := 17) hx hb hts i_X0_init_X0 tyX0 tyX0_ok nmX0 hown hK hP hD hS 0 rfl rfl 13 (by decide) k_12 (fun _ h9 => h9) rfl hin rfl (by decide +kernel) rfl rfl (Nat.le_of_ble_eq_true rfl) dX0_init_67 (fun H locs hP hD hS => ?_)
  have hP : va_P (dC, dI) vwCl [(h0, .inr (0, [.int 0, .int 0, .int (-1), .int 0, .int 0, .ref q12_1, .int 0, .ref q21_2, .ref q30_3, .ref q39_4, .int 0, .ref q47_5, .ref q56_6, .ref q65_7, .null, .int 0, .null])), (q12_1, .inl (cyI, 20, .inl x_z0)), (q21_2, .inl (cyI, 1000, .inl x_z0)), (q30_3, .inl (cyI, 1000, .inl x_z0)), (q39_4, .inl (cyI, 1000, .inl x_z0)), (q47_5, .inl (cyI, 64, .inl x_z0)), (q56_6, .inl (cyI, 1000, .inl x_z0)), (q65_7, .inl (cyI, 1000, .inl x_z0))] H := hP
  have hD : va_D A [(h0, .inr (0, [.int 0, .int 0, .int (-1), .int 0, .int 0, .ref q12_1, .int 0, .ref q21_2, .ref q30_3, .ref q39_4, .int 0, .ref q47_5, .ref q56_6, .ref q65_7, .null, .int 0, .null])), (q12_1, .inl (cyI, 20, .inl x_z0)), (q21_2, .inl (cyI, 1000, .inl x_z0)), (q30_3, .inl (cyI, 1000, .inl x_z0)), (q39_4, .inl (cyI, 1000, .inl x_z0)), (q47_5, .inl (cyI, 64, .inl x_z0)), (q56_6, .inl (cyI, 1000, .inl x_z0)), (q65_7, .inl (cyI, 1000, .inl x_z0))] := hD
  refine lv_aload_n hx hb dX0_init_70 rfl (lv_at hl 0 rfl) ?_
  refine lv_sipush (v := 200) hx hb dX0_init_71 (by decide) ?_
  refine va_newa (atype := .int) (ty := .int) (n := 200) (N' := 200) (a0 := (200, .inl x_z0)) hx hb k_5 rfl hK hP hD hS hA (fun _ => x_zcI _ _) (by decide) (by decide) (Nat.le_of_ble_eq_true rfl) (Nat.le_of_ble_eq_true rfl) (Nat.le_of_ble_eq_true rfl) dX0_init_74 (fun q74_8 cN H hKn hP hD hS => ?_)
  obtain rfl : cyI = cN := x_one (i := 0) (j := 3) hKn rfl rfl (fun _ h => by cases h)
  clear hKn
  have hP : va_P (dC, dI) vwCl [(h0, .inr (0, [.int 0, .int 0, .int (-1), .int 0, .int 0, .ref q12_1, .int 0, .ref q21_2, .ref q30_3, .ref q39_4, .int 0, .ref q47_5, .ref q56_6, .ref q65_7, .null, .int 0, .null])), (q12_1, .inl (cyI, 20, .inl x_z0)), (q21_2, .inl (cyI, 1000, .inl x_z0)), (q30_3, .inl (cyI, 1000, .inl x_z0)), (q39_4, .inl (cyI, 1000, .inl x_z0)), (q47_5, .inl (cyI, 64, .inl x_z0)), (q56_6, .inl (cyI, 1000, .inl x_z0)), (q65_7, .inl (cyI, 1000, .inl x_z0)), (q74_8, .inl (cyI, 200, .inl x_z0))] H := hP
  have hD : va_D A [(h0, .inr (0, [.int 0, .int 0, .int (-1), .int 0, .int 0, .ref q12_1, .int 0, .ref q21_2, .ref q30_3, .ref q39_4, .int 0, .ref q47_5, .ref q56_6, .ref q65_7, .null, .int 0, .null])), (q12_1, .inl (cyI, 20, .inl x_z0)), (q21_2, .inl (cyI, 1000, .inl x_z0)), (q30_3, .inl (cyI, 1000, .inl x_z0)), (q39_4, .inl (cyI, 1000, .inl x_z0)), (q47_5, .inl (cyI, 64, .inl x_z0)), (q56_6, .inl (cyI, 1000, .inl x_z0)), (q65_7, .inl (cyI, 1000, .inl x_z0)), (q74_8, .inl (cyI, 200, .inl x_z0))] := hD
  refine W.widen (k := 8) (n := 5284) (Nat.le_of_ble_eq_true rfl) (Nat.le_of_ble_eq_true rfl) ?_
  refine va_putF (D := (dC, dI)) (ci := 0) (v := .ref q74_8) (ty := .array .int) (C := RX0) (T := TX0) (N := 17) hx hb hts i_X0_init_X0 tyX0 tyX0_ok nmX0 hown hK hP hD hS 0 rfl rfl 14 (by decide) k_13 (fun _ h9 => h9) rfl hin rfl (by decide +kernel) rfl rfl (Nat.le_of_ble_eq_true rfl) dX0_init_76 (fun H locs hP hD hS => ?_)
  have hP : va_P (dC, dI) vwCl [(h0, .inr (0, [.int 0, .int 0, .int (-1), .int 0, .int 0, .ref q12_1, .int 0, .ref q21_2, .ref q30_3, .ref q39_4, .int 0, .ref q47_5, .ref q56_6, .ref q65_7, .ref q74_8, .int 0, .null])), (q12_1, .inl (cyI, 20, .inl x_z0)), (q21_2, .inl (cyI, 1000, .inl x_z0)), (q30_3, .inl (cyI, 1000, .inl x_z0)), (q39_4, .inl (cyI, 1000, .inl x_z0)), (q47_5, .inl (cyI, 64, .inl x_z0)), (q56_6, .inl (cyI, 1000, .inl x_z0)), (q65_7, .inl (cyI, 1000, .inl x_z0)), (q74_8, .inl (cyI, 200, .inl x_z0))] H := hP
  have hD : va_D A [(h0, .inr (0, [.int 0, .int 0, .int (-1), .int 0, .int 0, .ref q12_1, .int 0, .ref q21_2, .ref q30_3, .ref q39_4, .int 0, .ref q47_5, .ref q56_6, .ref q65_7, .ref q74_8, .int 0, .null])), (q12_1, .inl (cyI, 20, .inl x_z0)), (q21_2, .inl (cyI, 1000, .inl x_z0)), (q30_3, .inl (cyI, 1000, .inl x_z0)), (q39_4, .inl (cyI, 1000, .inl x_z0)), (q47_5, .inl (cyI, 64, .inl x_z0)), (q56_6, .inl (cyI, 1000, .inl x_z0)), (q65_7, .inl (cyI, 1000, .inl x_z0)), (q74_8, .inl (cyI, 200, .inl x_z0))] := hD
  refine lv_aload_n hx hb dX0_init_79 rfl (lv_at hl 0 rfl) ?_
  refine lv_sipush (v := 1000) hx hb dX0_init_80 (by decide) ?_
  refine va_newa (atype := .boolean) (ty := .boolean) (n := 1000) (N' := 1000) (a0 := (1000, .inl x_z0)) hx hb k_14 rfl hK hP hD hS hA (fun _ => x_zcZ _ _) (by decide) (by decide) (Nat.le_of_ble_eq_true rfl) (Nat.le_of_ble_eq_true rfl) (Nat.le_of_ble_eq_true rfl) dX0_init_83 (fun q83_9 cN H hKn hP hD hS => ?_)
  obtain rfl : cyZ = cN := x_one (i := 1) (j := 3) hKn rfl rfl (fun _ h => by cases h)
  clear hKn
  have hP : va_P (dC, dI) vwCl [(h0, .inr (0, [.int 0, .int 0, .int (-1), .int 0, .int 0, .ref q12_1, .int 0, .ref q21_2, .ref q30_3, .ref q39_4, .int 0, .ref q47_5, .ref q56_6, .ref q65_7, .ref q74_8, .int 0, .null])), (q12_1, .inl (cyI, 20, .inl x_z0)), (q21_2, .inl (cyI, 1000, .inl x_z0)), (q30_3, .inl (cyI, 1000, .inl x_z0)), (q39_4, .inl (cyI, 1000, .inl x_z0)), (q47_5, .inl (cyI, 64, .inl x_z0)), (q56_6, .inl (cyI, 1000, .inl x_z0)), (q65_7, .inl (cyI, 1000, .inl x_z0)), (q74_8, .inl (cyI, 200, .inl x_z0)), (q83_9, .inl (cyZ, 1000, .inl x_z0))] H := hP
  have hD : va_D A [(h0, .inr (0, [.int 0, .int 0, .int (-1), .int 0, .int 0, .ref q12_1, .int 0, .ref q21_2, .ref q30_3, .ref q39_4, .int 0, .ref q47_5, .ref q56_6, .ref q65_7, .ref q74_8, .int 0, .null])), (q12_1, .inl (cyI, 20, .inl x_z0)), (q21_2, .inl (cyI, 1000, .inl x_z0)), (q30_3, .inl (cyI, 1000, .inl x_z0)), (q39_4, .inl (cyI, 1000, .inl x_z0)), (q47_5, .inl (cyI, 64, .inl x_z0)), (q56_6, .inl (cyI, 1000, .inl x_z0)), (q65_7, .inl (cyI, 1000, .inl x_z0)), (q74_8, .inl (cyI, 200, .inl x_z0)), (q83_9, .inl (cyZ, 1000, .inl x_z0))] := hD
  refine W.widen (k := 9) (n := 6284) (Nat.le_of_ble_eq_true rfl) (Nat.le_of_ble_eq_true rfl) ?_
  refine va_putF (D := (dC, dI)) (ci := 0) (v := .ref q83_9) (ty := .array .boolean) (C := RX0) (T := TX0) (N := 17) hx hb hts i_X0_init_X0 tyX0 tyX0_ok nmX0 hown hK hP hD hS 0 rfl rfl 16 (by decide) k_15 (fun _ h9 => h9) rfl hin rfl (by decide +kernel) rfl rfl (Nat.le_of_ble_eq_true rfl) dX0_init_85 (fun H locs hP hD hS => ?_)
  have hP : va_P (dC, dI) vwCl [(h0, .inr (0, [.int 0, .int 0, .int (-1), .int 0, .int 0, .ref q12_1, .int 0, .ref q21_2, .ref q30_3, .ref q39_4, .int 0, .ref q47_5, .ref q56_6, .ref q65_7, .ref q74_8, .int 0, .ref q83_9])), (q12_1, .inl (cyI, 20, .inl x_z0)), (q21_2, .inl (cyI, 1000, .inl x_z0)), (q30_3, .inl (cyI, 1000, .inl x_z0)), (q39_4, .inl (cyI, 1000, .inl x_z0)), (q47_5, .inl (cyI, 64, .inl x_z0)), (q56_6, .inl (cyI, 1000, .inl x_z0)), (q65_7, .inl (cyI, 1000, .inl x_z0)), (q74_8, .inl (cyI, 200, .inl x_z0)), (q83_9, .inl (cyZ, 1000, .inl x_z0))] H := hP
  have hD : va_D A [(h0, .inr (0, [.int 0, .int 0, .int (-1), .int 0, .int 0, .ref q12_1, .int 0, .ref q21_2, .ref q30_3, .ref q39_4, .int 0, .ref q47_5, .ref q56_6, .ref q65_7, .ref q74_8, .int 0, .ref q83_9])), (q12_1, .inl (cyI, 20, .inl x_z0)), (q21_2, .inl (cyI, 1000, .inl x_z0)), (q30_3, .inl (cyI, 1000, .inl x_z0)), (q39_4, .inl (cyI, 1000, .inl x_z0)), (q47_5, .inl (cyI, 64, .inl x_z0)), (q56_6, .inl (cyI, 1000, .inl x_z0)), (q65_7, .inl (cyI, 1000, .inl x_z0)), (q74_8, .inl (cyI, 200, .inl x_z0)), (q83_9, .inl (cyZ, 1000, .inl x_z0))] := hD
  have hP9 := hP.sub (ws' := [(h0, .inr (0, [.int 0, .int 0, .int (-1), .int 0, .int 0, .ref q12_1, .int 0, .ref q21_2, .ref q30_3, .ref q39_4, .int 0, .ref q47_5, .ref q56_6, .ref q65_7, .ref q74_8, .int 0, .ref q83_9])), (q12_1, .inl (cyI, 20, .inl x_z0)), (q21_2, .inl (cyI, 1000, .inl x_z0)), (q30_3, .inl (cyI, 1000, .inl x_z0)), (q39_4, .inl (cyI, 1000, .inl x_z0)), (q47_5, .inl (cyI, 64, .inl x_z0)), (q56_6, .inl (cyI, 1000, .inl x_z0)), (q65_7, .inl (cyI, 1000, .inl x_z0)), (q74_8, .inl (cyI, 200, .inl x_z0)), (q83_9, .inl (cyZ, 1000, .inl x_z0))]) [0, 1, 2, 3, 4, 5, 6, 7, 8, 9] rfl
  have hD9 := hD.sub (ws' := [(h0, .inr (0, [.int 0, .int 0, .int (-1), .int 0, .int 0, .ref q12_1, .int 0, .ref q21_2, .ref q30_3, .ref q39_4, .int 0, .ref q47_5, .ref q56_6, .ref q65_7, .ref q74_8, .int 0, .ref q83_9])), (q12_1, .inl (cyI, 20, .inl x_z0)), (q21_2, .inl (cyI, 1000, .inl x_z0)), (q30_3, .inl (cyI, 1000, .inl x_z0)), (q39_4, .inl (cyI, 1000, .inl x_z0)), (q47_5, .inl (cyI, 64, .inl x_z0)), (q56_6, .inl (cyI, 1000, .inl x_z0)), (q65_7, .inl (cyI, 1000, .inl x_z0)), (q74_8, .inl (cyI, 200, .inl x_z0)), (q83_9, .inl (cyZ, 1000, .inl x_z0))]) [0, 1, 2, 3, 4, 5, 6, 7, 8, 9] (by decide) rfl
  exact W.vret hx hb hr (fun t ht hW => ⟨⟨(), rfl, trivial, q12_1, q21_2, q30_3, q39_4, q47_5, q56_6, q65_7, q74_8, q83_9, by rw [ht]; exact hP9, va_K.moved hW.alike hK, hD9⟩, hS.F ht⟩) hS.2.2 dX0_init_88

theorem i_X1_init_X1 : ∀ w ∈ wsX10, w ∈ wsX1_init := fun _ h => List.mem_cons_of_mem _ (List.mem_append_right _ h)
set_option maxHeartbeats 4000000 in
set_option maxRecDepth 100000 in
theorem c_X1_init (l : Launch) (dC : Nat → ClassId) (dI : Nat → Nat → Nat) (cyI cyZ cyJ : ClassId) (sz : Nat) (h0 : Nat) : Met l yX1_init wsX1_init ({ frames := 1, cells := 5, slots := 80, locals := 12 }) (va_Pc [.ref h0] (x_PreD (dC, dI) (x_T cyI cyZ cyJ) [(h0, .inr (1, [.null, .null, .null, .null, .null, .int 0]))] sz)) (va_Qv (fun _ : Unit => True) (fun (_ : Unit) (t : State) => ∃ (a0 : Nat) (a1 : Nat) (a2 : Nat) (a3 : Nat) (a4 : Nat), va_P (dC, dI) vwCl [(h0, .inr (1, [.ref a0, .ref a1, .ref a2, .ref a3, .ref a4, .int 1])), (a0, .inl (cyI, 16, .inl x_z0)), (a1, .inl (cyI, 16, .inl x_z0)), (a2, .inl (cyI, 16, .inl x_z0)), (a3, .inl (cyI, 16, .inl (upd x_z0 (Int32.toNatClampNeg 0) (-1)))), (a4, .inl (cyI, 16, .inl x_z0))] t.heap ∧ va_K (dC, dI) vwCl (x_T cyI cyZ cyJ) t ∧ va_D (va_A [(h0, .inr (1, [.null, .null, .null, .null, .null, .int 0]))] sz) [(h0, .inr (1, [.ref a0, .ref a1, .ref a2, .ref a3, .ref a4, .int 1])), (a0, .inl (cyI, 16, .inl x_z0)), (a1, .inl (cyI, 16, .inl x_z0)), (a2, .inl (cyI, 16, .inl x_z0)), (a3, .inl (cyI, 16, .inl (upd x_z0 (Int32.toNatClampNeg 0) (-1)))), (a4, .inl (cyI, 16, .inl x_z0))]) (va_A [(h0, .inr (1, [.null, .null, .null, .null, .null, .int 0]))] sz)) 5 80 (va_A [(h0, .inr (1, [.null, .null, .null, .null, .null, .int 0]))] sz) := by
  refine Met.ofW (cc := cX1_init) (maxL := 1) (ret := none) (by decide) rfl ?_
  intro p e s m args below meth c s₁ B hml hv
  obtain ⟨rfl, ⟨hsz, hP, hK, hN⟩, hD0⟩ := hv
  have hx := B.exec
  have hb := B.bytes
  have hr := B.returns
  have hts := atoms_spec (ws := wsX1_init) B.pre
  have hown : s.vm.findClass RX1 = some m.cls := findClass_of_methodNamed B.named
  have hlocks := B.notSynchronized
  have hin : meth.name = "<init>" := (name_of_methodNamed B.named B.method).1
  have k_1 := hts (.methodLink RX1 3 objectInit) (by decide +kernel)
  have k_2 := hts (.instanceMethod objectInit) (by decide +kernel)
  have k_3 := hts (.code objectInit ⟨#[0xb1]⟩ 1 none) (by decide +kernel)
  have k_4 := hts (.arrayClass .int) (by decide +kernel)
  have k_5 := hts (.fieldLink RX1 9 "FlowJudge$Contexts" "parents" "[I") (by decide +kernel)
  have k_6 := hts (.fieldLink RX1 15 "FlowJudge$Contexts" "addresses" "[I") (by decide +kernel)
  have k_7 := hts (.fieldLink RX1 18 "FlowJudge$Contexts" "lengths" "[I") (by decide +kernel)
  have k_8 := hts (.fieldLink RX1 21 "FlowJudge$Contexts" "firstBelow" "[I") (by decide +kernel)
  have k_9 := hts (.fieldLink RX1 24 "FlowJudge$Contexts" "nextBeside" "[I") (by decide +kernel)
  have k_10 := hts (.fieldLink RX1 27 "FlowJudge$Contexts" "count" "I") (by decide +kernel)
  subst hsz
  have hD := hD0.self (sz := s.heap.size)
  generalize hAe : va_A [(h0, .inr (1, [.null, .null, .null, .null, .null, .int 0]))] s.heap.size = A at hD ⊢
  have hA : ∀ q : Nat, s.heap.size ≤ q → A q := fun q h => by rw [← hAe]; exact Or.inr h
  have hS : va_S A s.heap s.heap [] := va_S.rf
  have hP : va_P (dC, dI) vwCl [(h0, .inr (1, [.null, .null, .null, .null, .null, .int 0]))] s.heap := hP
  have hl := lv_entry ([.ref h0]) (n := 1) (Nat.le_of_ble_eq_true rfl)
  rw [lg_entry_eq]
  generalize (lg_sl ([.ref h0]) ++ List.replicate (1 - (lg_sl ([.ref h0])).length) Slot.unset).toArray = ls at hl ⊢
  have hl : lv_has ls 1 [(0, .ref h0)] := hl
  obtain ⟨H, hH⟩ : ∃ z, z = s.heap := ⟨_, rfl⟩
  refine x_here hH ?_
  have hP : va_P (dC, dI) vwCl [(h0, .inr (1, [.null, .null, .null, .null, .null, .int 0]))] H := by rw [hH]; exact hP
  have hS : va_S A s.heap H [] := by rw [hH]; exact va_S.rf
  clear hH
  refine lv_aload_n hx hb dX1_init_0 rfl (lv_at hl 0 rfl) ?_
  refine W.objInit hx hb hown k_1 k_2 k_3 rfl (by rw [hml]; exact hl.1) rfl dX1_init_1 (Nat.le_of_ble_eq_true rfl) (Nat.le_of_ble_eq_true rfl) ?_
  refine W.eq (g2 := F0 m 4 ls []) rfl ?_
  refine lv_aload_n hx hb dX1_init_4 rfl (lv_at hl 0 rfl) ?_
  refine lv_bipush (v := 16) hx hb dX1_init_5 (by decide) ?_
  refine va_newa (atype := .int) (ty := .int) (n := 16) (N' := 16) (a0 := (16, .inl x_z0)) hx hb k_4 rfl hK hP hD hS hA (fun _ => x_zcI _ _) (by decide) (by decide) (Nat.le_of_ble_eq_true rfl) (Nat.le_of_ble_eq_true rfl) (Nat.le_of_ble_eq_true rfl) dX1_init_7 (fun q7_1 cN H hKn hP hD hS => ?_)
  obtain rfl : cyI = cN := x_one (i := 0) (j := 3) hKn rfl rfl (fun _ h => by cases h)
  clear hKn
  have hP : va_P (dC, dI) vwCl [(h0, .inr (1, [.null, .null, .null, .null, .null, .int 0])), (q7_1, .inl (cyI, 16, .inl x_z0))] H := hP
  have hD : va_D A [(h0, .inr (1, [.null, .null, .null, .null, .null, .int 0])), (q7_1, .inl (cyI, 16, .inl x_z0))] := hD
  refine W.widen (k := 1) (n := 16) (Nat.le_of_ble_eq_true rfl) (Nat.le_of_ble_eq_true rfl) ?_
  refine va_put (D := (dC, dI)) (ci := 1) (v := .ref q7_1) (ty := .array .int) (C := RX1) (T := TX1) (N := 6) hx hb hts i_X1_init_X1 tyX1 tyX1_ok nmX1 hown hK hP hD hS 0 rfl rfl 0 (by decide) k_5 (fun _ h9 => h9) rfl (by decide +kernel) rfl rfl (Nat.le_of_ble_eq_true rfl) dX1_init_9 (fun H locs hP hD hS => ?_)
  have hP : va_P (dC, dI) vwCl [(h0, .inr (1, [.ref q7_1, .null, .null, .null, .null, .int 0])), (q7_1, .inl (cyI, 16, .inl x_z0))] H := hP
  have hD : va_D A [(h0, .inr (1, [.ref q7_1, .null, .null, .null, .null, .int 0])), (q7_1, .inl (cyI, 16, .inl x_z0))] := hD
  refine lv_aload_n hx hb dX1_init_12 rfl (lv_at hl 0 rfl) ?_
  refine lv_bipush (v := 16) hx hb dX1_init_13 (by decide) ?_
  refine va_newa (atype := .int) (ty := .int) (n := 16) (N' := 16) (a0 := (16, .inl x_z0)) hx hb k_4 rfl hK hP hD hS hA (fun _ => x_zcI _ _) (by decide) (by decide) (Nat.le_of_ble_eq_true rfl) (Nat.le_of_ble_eq_true rfl) (Nat.le_of_ble_eq_true rfl) dX1_init_15 (fun q15_2 cN H hKn hP hD hS => ?_)
  obtain rfl : cyI = cN := x_one (i := 0) (j := 3) hKn rfl rfl (fun _ h => by cases h)
  clear hKn
  have hP : va_P (dC, dI) vwCl [(h0, .inr (1, [.ref q7_1, .null, .null, .null, .null, .int 0])), (q7_1, .inl (cyI, 16, .inl x_z0)), (q15_2, .inl (cyI, 16, .inl x_z0))] H := hP
  have hD : va_D A [(h0, .inr (1, [.ref q7_1, .null, .null, .null, .null, .int 0])), (q7_1, .inl (cyI, 16, .inl x_z0)), (q15_2, .inl (cyI, 16, .inl x_z0))] := hD
  refine W.widen (k := 2) (n := 32) (Nat.le_of_ble_eq_true rfl) (Nat.le_of_ble_eq_true rfl) ?_
  refine va_put (D := (dC, dI)) (ci := 1) (v := .ref q15_2) (ty := .array .int) (C := RX1) (T := TX1) (N := 6) hx hb hts i_X1_init_X1 tyX1 tyX1_ok nmX1 hown hK hP hD hS 0 rfl rfl 1 (by decide) k_6 (fun _ h9 => h9) rfl (by decide +kernel) rfl rfl (Nat.le_of_ble_eq_true rfl) dX1_init_17 (fun H locs hP hD hS => ?_)
  have hP : va_P (dC, dI) vwCl [(h0, .inr (1, [.ref q7_1, .ref q15_2, .null, .null, .null, .int 0])), (q7_1, .inl (cyI, 16, .inl x_z0)), (q15_2, .inl (cyI, 16, .inl x_z0))] H := hP
  have hD : va_D A [(h0, .inr (1, [.ref q7_1, .ref q15_2, .null, .null, .null, .int 0])), (q7_1, .inl (cyI, 16, .inl x_z0)), (q15_2, .inl (cyI, 16, .inl x_z0))] := hD
  refine lv_aload_n hx hb dX1_init_20 rfl (lv_at hl 0 rfl) ?_
  refine lv_bipush (v := 16) hx hb dX1_init_21 (by decide) ?_
  refine va_newa (atype := .int) (ty := .int) (n := 16) (N' := 16) (a0 := (16, .inl x_z0)) hx hb k_4 rfl hK hP hD hS hA (fun _ => x_zcI _ _) (by decide) (by decide) (Nat.le_of_ble_eq_true rfl) (Nat.le_of_ble_eq_true rfl) (Nat.le_of_ble_eq_true rfl) dX1_init_23 (fun q23_3 cN H hKn hP hD hS => ?_)
  obtain rfl : cyI = cN := x_one (i := 0) (j := 3) hKn rfl rfl (fun _ h => by cases h)
  clear hKn
  have hP : va_P (dC, dI) vwCl [(h0, .inr (1, [.ref q7_1, .ref q15_2, .null, .null, .null, .int 0])), (q7_1, .inl (cyI, 16, .inl x_z0)), (q15_2, .inl (cyI, 16, .inl x_z0)), (q23_3, .inl (cyI, 16, .inl x_z0))] H := hP
  have hD : va_D A [(h0, .inr (1, [.ref q7_1, .ref q15_2, .null, .null, .null, .int 0])), (q7_1, .inl (cyI, 16, .inl x_z0)), (q15_2, .inl (cyI, 16, .inl x_z0)), (q23_3, .inl (cyI, 16, .inl x_z0))] := hD
  refine W.widen (k := 3) (n := 48) (Nat.le_of_ble_eq_true rfl) (Nat.le_of_ble_eq_true rfl) ?_
  refine va_put (D := (dC, dI)) (ci := 1) (v := .ref q23_3) (ty := .array .int) (C := RX1) (T := TX1) (N := 6) hx hb hts i_X1_init_X1 tyX1 tyX1_ok nmX1 hown hK hP hD hS 0 rfl rfl 2 (by decide) k_7 (fun _ h9 => h9) rfl (by decide +kernel) rfl rfl (Nat.le_of_ble_eq_true rfl) dX1_init_25 (fun H locs hP hD hS => ?_)
  have hP : va_P (dC, dI) vwCl [(h0, .inr (1, [.ref q7_1, .ref q15_2, .ref q23_3, .null, .null, .int 0])), (q7_1, .inl (cyI, 16, .inl x_z0)), (q15_2, .inl (cyI, 16, .inl x_z0)), (q23_3, .inl (cyI, 16, .inl x_z0))] H := hP
  have hD : va_D A [(h0, .inr (1, [.ref q7_1, .ref q15_2, .ref q23_3, .null, .null, .int 0])), (q7_1, .inl (cyI, 16, .inl x_z0)), (q15_2, .inl (cyI, 16, .inl x_z0)), (q23_3, .inl (cyI, 16, .inl x_z0))] := hD
  refine lv_aload_n hx hb dX1_init_28 rfl (lv_at hl 0 rfl) ?_
  refine lv_bipush (v := 16) hx hb dX1_init_29 (by decide) ?_
  refine va_newa (atype := .int) (ty := .int) (n := 16) (N' := 16) (a0 := (16, .inl x_z0)) hx hb k_4 rfl hK hP hD hS hA (fun _ => x_zcI _ _) (by decide) (by decide) (Nat.le_of_ble_eq_true rfl) (Nat.le_of_ble_eq_true rfl) (Nat.le_of_ble_eq_true rfl) dX1_init_31 (fun q31_4 cN H hKn hP hD hS => ?_)
  obtain rfl : cyI = cN := x_one (i := 0) (j := 3) hKn rfl rfl (fun _ h => by cases h)
  clear hKn
  have hP : va_P (dC, dI) vwCl [(h0, .inr (1, [.ref q7_1, .ref q15_2, .ref q23_3, .null, .null, .int 0])), (q7_1, .inl (cyI, 16, .inl x_z0)), (q15_2, .inl (cyI, 16, .inl x_z0)), (q23_3, .inl (cyI, 16, .inl x_z0)), (q31_4, .inl (cyI, 16, .inl x_z0))] H := hP
  have hD : va_D A [(h0, .inr (1, [.ref q7_1, .ref q15_2, .ref q23_3, .null, .null, .int 0])), (q7_1, .inl (cyI, 16, .inl x_z0)), (q15_2, .inl (cyI, 16, .inl x_z0)), (q23_3, .inl (cyI, 16, .inl x_z0)), (q31_4, .inl (cyI, 16, .inl x_z0))] := hD
  refine W.widen (k := 4) (n := 64) (Nat.le_of_ble_eq_true rfl) (Nat.le_of_ble_eq_true rfl) ?_
  refine va_put (D := (dC, dI)) (ci := 1) (v := .ref q31_4) (ty := .array .int) (C := RX1) (T := TX1) (N := 6) hx hb hts i_X1_init_X1 tyX1 tyX1_ok nmX1 hown hK hP hD hS 0 rfl rfl 3 (by decide) k_8 (fun _ h9 => h9) rfl (by decide +kernel) rfl rfl (Nat.le_of_ble_eq_true rfl) dX1_init_33 (fun H locs hP hD hS => ?_)
  have hP : va_P (dC, dI) vwCl [(h0, .inr (1, [.ref q7_1, .ref q15_2, .ref q23_3, .ref q31_4, .null, .int 0])), (q7_1, .inl (cyI, 16, .inl x_z0)), (q15_2, .inl (cyI, 16, .inl x_z0)), (q23_3, .inl (cyI, 16, .inl x_z0)), (q31_4, .inl (cyI, 16, .inl x_z0))] H := hP
  have hD : va_D A [(h0, .inr (1, [.ref q7_1, .ref q15_2, .ref q23_3, .ref q31_4, .null, .int 0])), (q7_1, .inl (cyI, 16, .inl x_z0)), (q15_2, .inl (cyI, 16, .inl x_z0)), (q23_3, .inl (cyI, 16, .inl x_z0)), (q31_4, .inl (cyI, 16, .inl x_z0))] := hD
  refine lv_aload_n hx hb dX1_init_36 rfl (lv_at hl 0 rfl) ?_
  refine lv_bipush (v := 16) hx hb dX1_init_37 (by decide) ?_
  refine va_newa (atype := .int) (ty := .int) (n := 16) (N' := 16) (a0 := (16, .inl x_z0)) hx hb k_4 rfl hK hP hD hS hA (fun _ => x_zcI _ _) (by decide) (by decide) (Nat.le_of_ble_eq_true rfl) (Nat.le_of_ble_eq_true rfl) (Nat.le_of_ble_eq_true rfl) dX1_init_39 (fun q39_5 cN H hKn hP hD hS => ?_)
  obtain rfl : cyI = cN := x_one (i := 0) (j := 3) hKn rfl rfl (fun _ h => by cases h)
  clear hKn
  have hP : va_P (dC, dI) vwCl [(h0, .inr (1, [.ref q7_1, .ref q15_2, .ref q23_3, .ref q31_4, .null, .int 0])), (q7_1, .inl (cyI, 16, .inl x_z0)), (q15_2, .inl (cyI, 16, .inl x_z0)), (q23_3, .inl (cyI, 16, .inl x_z0)), (q31_4, .inl (cyI, 16, .inl x_z0)), (q39_5, .inl (cyI, 16, .inl x_z0))] H := hP
  have hD : va_D A [(h0, .inr (1, [.ref q7_1, .ref q15_2, .ref q23_3, .ref q31_4, .null, .int 0])), (q7_1, .inl (cyI, 16, .inl x_z0)), (q15_2, .inl (cyI, 16, .inl x_z0)), (q23_3, .inl (cyI, 16, .inl x_z0)), (q31_4, .inl (cyI, 16, .inl x_z0)), (q39_5, .inl (cyI, 16, .inl x_z0))] := hD
  refine W.widen (k := 5) (n := 80) (Nat.le_of_ble_eq_true rfl) (Nat.le_of_ble_eq_true rfl) ?_
  refine va_put (D := (dC, dI)) (ci := 1) (v := .ref q39_5) (ty := .array .int) (C := RX1) (T := TX1) (N := 6) hx hb hts i_X1_init_X1 tyX1 tyX1_ok nmX1 hown hK hP hD hS 0 rfl rfl 4 (by decide) k_9 (fun _ h9 => h9) rfl (by decide +kernel) rfl rfl (Nat.le_of_ble_eq_true rfl) dX1_init_41 (fun H locs hP hD hS => ?_)
  have hP : va_P (dC, dI) vwCl [(h0, .inr (1, [.ref q7_1, .ref q15_2, .ref q23_3, .ref q31_4, .ref q39_5, .int 0])), (q7_1, .inl (cyI, 16, .inl x_z0)), (q15_2, .inl (cyI, 16, .inl x_z0)), (q23_3, .inl (cyI, 16, .inl x_z0)), (q31_4, .inl (cyI, 16, .inl x_z0)), (q39_5, .inl (cyI, 16, .inl x_z0))] H := hP
  have hD : va_D A [(h0, .inr (1, [.ref q7_1, .ref q15_2, .ref q23_3, .ref q31_4, .ref q39_5, .int 0])), (q7_1, .inl (cyI, 16, .inl x_z0)), (q15_2, .inl (cyI, 16, .inl x_z0)), (q23_3, .inl (cyI, 16, .inl x_z0)), (q31_4, .inl (cyI, 16, .inl x_z0)), (q39_5, .inl (cyI, 16, .inl x_z0))] := hD
  refine lv_aload_n hx hb dX1_init_44 rfl (lv_at hl 0 rfl) ?_
  refine va_get (D := (dC, dI)) (ci := 1) (v := .ref q31_4) (C := RX1) (T := TX1) (N := 6) hx hb hts i_X1_init_X1 hown hK hP 0 rfl rfl 3 (by decide) k_8 (fun _ h9 => h9) rfl dX1_init_45 ?_
  refine lv_iconst (v := 0) hx hb dX1_init_48 (by decide) ?_
  refine lv_iconst (v := (-1)) hx hb dX1_init_49 (by decide) ?_
  refine va_iast hx hb hK hP hD hS 4 0 rfl rfl (x_lit _ _ (by decide)) dX1_init_50 (fun H locs hP hD hS => ?_)
  have hP : va_P (dC, dI) vwCl [(h0, .inr (1, [.ref q7_1, .ref q15_2, .ref q23_3, .ref q31_4, .ref q39_5, .int 0])), (q7_1, .inl (cyI, 16, .inl x_z0)), (q15_2, .inl (cyI, 16, .inl x_z0)), (q23_3, .inl (cyI, 16, .inl x_z0)), (q31_4, .inl (cyI, 16, .inl (upd x_z0 (Int32.toNatClampNeg 0) (-1)))), (q39_5, .inl (cyI, 16, .inl x_z0))] H := hP
  have hD : va_D A [(h0, .inr (1, [.ref q7_1, .ref q15_2, .ref q23_3, .ref q31_4, .ref q39_5, .int 0])), (q7_1, .inl (cyI, 16, .inl x_z0)), (q15_2, .inl (cyI, 16, .inl x_z0)), (q23_3, .inl (cyI, 16, .inl x_z0)), (q31_4, .inl (cyI, 16, .inl (upd x_z0 (Int32.toNatClampNeg 0) (-1)))), (q39_5, .inl (cyI, 16, .inl x_z0))] := hD
  refine lv_aload_n hx hb dX1_init_51 rfl (lv_at hl 0 rfl) ?_
  refine lv_iconst (v := 1) hx hb dX1_init_52 (by decide) ?_
  refine va_put (D := (dC, dI)) (ci := 1) (v := .int 1) (ty := .int) (C := RX1) (T := TX1) (N := 6) hx hb hts i_X1_init_X1 tyX1 tyX1_ok nmX1 hown hK hP hD hS 0 rfl rfl 5 (by decide) k_10 (fun _ h9 => h9) rfl (by decide +kernel) rfl rfl (Nat.le_of_ble_eq_true rfl) dX1_init_53 (fun H locs hP hD hS => ?_)
  have hP : va_P (dC, dI) vwCl [(h0, .inr (1, [.ref q7_1, .ref q15_2, .ref q23_3, .ref q31_4, .ref q39_5, .int 1])), (q7_1, .inl (cyI, 16, .inl x_z0)), (q15_2, .inl (cyI, 16, .inl x_z0)), (q23_3, .inl (cyI, 16, .inl x_z0)), (q31_4, .inl (cyI, 16, .inl (upd x_z0 (Int32.toNatClampNeg 0) (-1)))), (q39_5, .inl (cyI, 16, .inl x_z0))] H := hP
  have hD : va_D A [(h0, .inr (1, [.ref q7_1, .ref q15_2, .ref q23_3, .ref q31_4, .ref q39_5, .int 1])), (q7_1, .inl (cyI, 16, .inl x_z0)), (q15_2, .inl (cyI, 16, .inl x_z0)), (q23_3, .inl (cyI, 16, .inl x_z0)), (q31_4, .inl (cyI, 16, .inl (upd x_z0 (Int32.toNatClampNeg 0) (-1)))), (q39_5, .inl (cyI, 16, .inl x_z0))] := hD
  have hP9 := hP.sub (ws' := [(h0, .inr (1, [.ref q7_1, .ref q15_2, .ref q23_3, .ref q31_4, .ref q39_5, .int 1])), (q7_1, .inl (cyI, 16, .inl x_z0)), (q15_2, .inl (cyI, 16, .inl x_z0)), (q23_3, .inl (cyI, 16, .inl x_z0)), (q31_4, .inl (cyI, 16, .inl (upd x_z0 (Int32.toNatClampNeg 0) (-1)))), (q39_5, .inl (cyI, 16, .inl x_z0))]) [0, 1, 2, 3, 4, 5] rfl
  have hD9 := hD.sub (ws' := [(h0, .inr (1, [.ref q7_1, .ref q15_2, .ref q23_3, .ref q31_4, .ref q39_5, .int 1])), (q7_1, .inl (cyI, 16, .inl x_z0)), (q15_2, .inl (cyI, 16, .inl x_z0)), (q23_3, .inl (cyI, 16, .inl x_z0)), (q31_4, .inl (cyI, 16, .inl (upd x_z0 (Int32.toNatClampNeg 0) (-1)))), (q39_5, .inl (cyI, 16, .inl x_z0))]) [0, 1, 2, 3, 4, 5] (by decide) rfl
  exact W.vret hx hb hr (fun t ht hW => ⟨⟨(), rfl, trivial, q7_1, q15_2, q23_3, q31_4, q39_5, by rw [ht]; exact hP9, va_K.moved hW.alike hK, hD9⟩, hS.F ht⟩) hS.2.2 dX1_init_56

theorem i_X3_init_X3 : ∀ w ∈ wsX30, w ∈ wsX3_init := fun _ h => List.mem_cons_of_mem _ (List.mem_append_right _ h)
set_option maxHeartbeats 4000000 in
set_option maxRecDepth 100000 in
theorem c_X3_init (l : Launch) (dC : Nat → ClassId) (dI : Nat → Nat → Nat) (cyI cyZ cyJ : ClassId) (sz : Nat) (h0 : Nat) (b0 : Nat) (b1 : Nat) : Met l yX3_init wsX3_init ({ frames := 1, cells := 10, slots := 1536, locals := 23 }) (va_Pc [.ref h0, .ref b0, .ref b1] (x_PreD (dC, dI) (x_T cyI cyZ cyJ) [(h0, .inr (3, [.null, .null, .int 0, .int 0, .int 0, .null, .null, .null, .null, .null, .null, .null, .null, .int 0, .int 0, .null, .null]))] sz)) (va_Qv (fun _ : Unit => True) (fun (_ : Unit) (t : State) => ∃ (a5 : Nat) (a6 : Nat) (a7 : Nat) (a8 : Nat) (a9 : Nat) (a10 : Nat) (a11 : Nat) (a12 : Nat) (a15 : Nat) (a16 : Nat) (gn : Nat → Int32), va_P (dC, dI) vwCl [(h0, .inr (3, [.ref b0, .ref b1, .int 0, .int 0, .int 0, .ref a5, .ref a6, .ref a7, .ref a8, .ref a9, .ref a10, .ref a11, .ref a12, .int (-1), .int (-1), .ref a15, .ref a16])), (a5, .inl (cyI, 1024, .inl x_z0)), (a6, .inl (cyI, 32, .inl x_z0)), (a7, .inl (cyI, 32, .inl x_z0)), (a8, .inl (cyI, 32, .inl x_z0)), (a9, .inl (cyI, 32, .inl x_z0)), (a10, .inl (cyI, 256, .inl gn)), (a11, .inl (cyI, 32, .inl x_z0)), (a12, .inl (cyI, 32, .inl x_z0)), (a15, .inl (cyI, 32, .inl x_z0)), (a16, .inl (cyI, 32, .inl x_z0))] t.heap ∧ va_K (dC, dI) vwCl (x_T cyI cyZ cyJ) t ∧ va_D (va_A [(h0, .inr (3, [.null, .null, .int 0, .int 0, .int 0, .null, .null, .null, .null, .null, .null, .null, .null, .int 0, .int 0, .null, .null]))] sz) [(h0, .inr (3, [.ref b0, .ref b1, .int 0, .int 0, .int 0, .ref a5, .ref a6, .ref a7, .ref a8, .ref a9, .ref a10, .ref a11, .ref a12, .int (-1), .int (-1), .ref a15, .ref a16])), (a5, .inl (cyI, 1024, .inl x_z0)), (a6, .inl (cyI, 32, .inl x_z0)), (a7, .inl (cyI, 32, .inl x_z0)), (a8, .inl (cyI, 32, .inl x_z0)), (a9, .inl (cyI, 32, .inl x_z0)), (a10, .inl (cyI, 256, .inl gn)), (a11, .inl (cyI, 32, .inl x_z0)), (a12, .inl (cyI, 32, .inl x_z0)), (a15, .inl (cyI, 32, .inl x_z0)), (a16, .inl (cyI, 32, .inl x_z0))]) (va_A [(h0, .inr (3, [.null, .null, .int 0, .int 0, .int 0, .null, .null, .null, .null, .null, .null, .null, .null, .int 0, .int 0, .null, .null]))] sz)) 10 1536 (va_A [(h0, .inr (3, [.null, .null, .int 0, .int 0, .int 0, .null, .null, .null, .null, .null, .null, .null, .null, .int 0, .int 0, .null, .null]))] sz) := by
  refine Met.ofW (cc := cX3_init) (maxL := 3) (ret := none) (by decide) rfl ?_
  intro p e s m args below meth c s₁ B hml hv
  obtain ⟨rfl, ⟨hsz, hP, hK, hN⟩, hD0⟩ := hv
  have hx := B.exec
  have hb := B.bytes
  have hr := B.returns
  have hts := atoms_spec (ws := wsX3_init) B.pre
  have hown : s.vm.findClass RX3 = some m.cls := findClass_of_methodNamed B.named
  have hlocks := B.notSynchronized
  have hin : meth.name = "<init>" := (name_of_methodNamed B.named B.method).1
  have k_1 := hts (.methodLink RX3 3 objectInit) (by decide +kernel)
  have k_2 := hts (.instanceMethod objectInit) (by decide +kernel)
  have k_3 := hts (.code objectInit ⟨#[0xb1]⟩ 1 none) (by decide +kernel)
  have k_4 := hts (.arrayClass .int) (by decide +kernel)
  have k_5 := hts (.fieldLink RX3 9 "FlowJudge$Frames" "words" "[I") (by decide +kernel)
  have k_6 := hts (.fieldLink RX3 15 "FlowJudge$Frames" "targets" "[I") (by decide +kernel)
  have k_7 := hts (.fieldLink RX3 18 "FlowJudge$Frames" "ways" "[I") (by decide +kernel)
  have k_8 := hts (.fieldLink RX3 21 "FlowJudge$Frames" "heights" "[I") (by decide +kernel)
  have k_9 := hts (.fieldLink RX3 24 "FlowJudge$Frames" "made" "[I") (by decide +kernel)
  have k_10 := hts (.fieldLink RX3 27 "FlowJudge$Frames" "heads" "[I") (by decide +kernel)
  have k_11 := hts (.fieldLink RX3 30 "FlowJudge$Frames" "nextOfHead" "[I") (by decide +kernel)
  have k_12 := hts (.fieldLink RX3 33 "FlowJudge$Frames" "nextAwaited" "[I") (by decide +kernel)
  have k_13 := hts (.fieldLink RX3 36 "FlowJudge$Frames" "firstAwaited" "I") (by decide +kernel)
  have k_14 := hts (.fieldLink RX3 40 "FlowJudge$Frames" "lastAwaited" "I") (by decide +kernel)
  have k_15 := hts (.fieldLink RX3 43 "FlowJudge$Frames" "order" "[I") (by decide +kernel)
  have k_16 := hts (.fieldLink RX3 46 "FlowJudge$Frames" "otherOrder" "[I") (by decide +kernel)
  have k_17 := hts (.fieldLink RX3 49 "FlowJudge$Frames" "types" "LFlowJudge$Types;") (by decide +kernel)
  have k_18 := hts (.fieldLink RX3 53 "FlowJudge$Frames" "contexts" "LFlowJudge$Contexts;") (by decide +kernel)
  subst hsz
  have hD := hD0.self (sz := s.heap.size)
  generalize hAe : va_A [(h0, .inr (3, [.null, .null, .int 0, .int 0, .int 0, .null, .null, .null, .null, .null, .null, .null, .null, .int 0, .int 0, .null, .null]))] s.heap.size = A at hD ⊢
  have hA : ∀ q : Nat, s.heap.size ≤ q → A q := fun q h => by rw [← hAe]; exact Or.inr h
  have hS : va_S A s.heap s.heap [] := va_S.rf
  have hP : va_P (dC, dI) vwCl [(h0, .inr (3, [.null, .null, .int 0, .int 0, .int 0, .null, .null, .null, .null, .null, .null, .null, .null, .int 0, .int 0, .null, .null]))] s.heap := hP
  have hl := lv_entry ([.ref h0, .ref b0, .ref b1]) (n := 3) (Nat.le_of_ble_eq_true rfl)
  rw [lg_entry_eq]
  generalize (lg_sl ([.ref h0, .ref b0, .ref b1]) ++ List.replicate (3 - (lg_sl ([.ref h0, .ref b0, .ref b1])).length) Slot.unset).toArray = ls at hl ⊢
  have hl : lv_has ls 3 [(0, .ref h0), (1, .ref b0), (2, .ref b1)] := hl
  obtain ⟨H, hH⟩ : ∃ z, z = s.heap := ⟨_, rfl⟩
  refine x_here hH ?_
  have hP : va_P (dC, dI) vwCl [(h0, .inr (3, [.null, .null, .int 0, .int 0, .int 0, .null, .null, .null, .null, .null, .null, .null, .null, .int 0, .int 0, .null, .null]))] H := by rw [hH]; exact hP
  have hS : va_S A s.heap H [] := by rw [hH]; exact va_S.rf
  clear hH
  refine lv_aload_n hx hb dX3_init_0 rfl (lv_at hl 0 rfl) ?_
  refine W.objInit hx hb hown k_1 k_2 k_3 rfl (by rw [hml]; exact hl.1) rfl dX3_init_1 (Nat.le_of_ble_eq_true rfl) (Nat.le_of_ble_eq_true rfl) ?_
  refine W.eq (g2 := F0 m 4 ls []) rfl ?_
  refine lv_aload_n hx hb dX3_init_4 rfl (lv_at hl 0 rfl) ?_
  refine lv_sipush (v := 1024) hx hb dX3_init_5 (by decide) ?_
  refine va_newa (atype := .int) (ty := .int) (n := 1024) (N' := 1024) (a0 := (1024, .inl x_z0)) hx hb k_4 rfl hK hP hD hS hA (fun _ => x_zcI _ _) (by decide) (by decide) (Nat.le_of_ble_eq_true rfl) (Nat.le_of_ble_eq_true rfl) (Nat.le_of_ble_eq_true rfl) dX3_init_8 (fun q8_1 cN H hKn hP hD hS => ?_)
  obtain rfl : cyI = cN := x_one (i := 0) (j := 3) hKn rfl rfl (fun _ h => by cases h)
  clear hKn
  have hP : va_P (dC, dI) vwCl [(h0, .inr (3, [.null, .null, .int 0, .int 0, .int 0, .null, .null, .null, .null, .null, .null, .null, .null, .int 0, .int 0, .null, .null])), (q8_1, .inl (cyI, 1024, .inl x_z0))] H := hP
  have hD : va_D A [(h0, .inr (3, [.null, .null, .int 0, .int 0, .int 0, .null, .null, .null, .null, .null, .null, .null, .null, .int 0, .int 0, .null, .null])), (q8_1, .inl (cyI, 1024, .inl x_z0))] := hD
  refine W.widen (k := 1) (n := 1024) (Nat.le_of_ble_eq_true rfl) (Nat.le_of_ble_eq_true rfl) ?_
  refine va_put (D := (dC, dI)) (ci := 3) (v := .ref q8_1) (ty := .array .int) (C := RX3) (T := TX3) (N := 17) hx hb hts i_X3_init_X3 tyX3 tyX3_ok nmX3 hown hK hP hD hS 0 rfl rfl 5 (by decide) k_5 (fun _ h9 => h9) rfl (by decide +kernel) rfl rfl (Nat.le_of_ble_eq_true rfl) dX3_init_10 (fun H locs hP hD hS => ?_)
  have hP : va_P (dC, dI) vwCl [(h0, .inr (3, [.null, .null, .int 0, .int 0, .int 0, .ref q8_1, .null, .null, .null, .null, .null, .null, .null, .int 0, .int 0, .null, .null])), (q8_1, .inl (cyI, 1024, .inl x_z0))] H := hP
  have hD : va_D A [(h0, .inr (3, [.null, .null, .int 0, .int 0, .int 0, .ref q8_1, .null, .null, .null, .null, .null, .null, .null, .int 0, .int 0, .null, .null])), (q8_1, .inl (cyI, 1024, .inl x_z0))] := hD
  refine lv_aload_n hx hb dX3_init_13 rfl (lv_at hl 0 rfl) ?_
  refine lv_bipush (v := 32) hx hb dX3_init_14 (by decide) ?_
  refine va_newa (atype := .int) (ty := .int) (n := 32) (N' := 32) (a0 := (32, .inl x_z0)) hx hb k_4 rfl hK hP hD hS hA (fun _ => x_zcI _ _) (by decide) (by decide) (Nat.le_of_ble_eq_true rfl) (Nat.le_of_ble_eq_true rfl) (Nat.le_of_ble_eq_true rfl) dX3_init_16 (fun q16_2 cN H hKn hP hD hS => ?_)
  obtain rfl : cyI = cN := x_one (i := 0) (j := 3) hKn rfl rfl (fun _ h => by cases h)
  clear hKn
  have hP : va_P (dC, dI) vwCl [(h0, .inr (3, [.null, .null, .int 0, .int 0, .int 0, .ref q8_1, .null, .null, .null, .null, .null, .null, .null, .int 0, .int 0, .null, .null])), (q8_1, .inl (cyI, 1024, .inl x_z0)), (q16_2, .inl (cyI, 32, .inl x_z0))] H := hP
  have hD : va_D A [(h0, .inr (3, [.null, .null, .int 0, .int 0, .int 0, .ref q8_1, .null, .null, .null, .null, .null, .null, .null, .int 0, .int 0, .null, .null])), (q8_1, .inl (cyI, 1024, .inl x_z0)), (q16_2, .inl (cyI, 32, .inl x_z0))] := hD
  refine W.widen (k := 2) (n := 1056) (Nat.le_of_ble_eq_true rfl) (Nat.le_of_ble_eq_true rfl) ?_
  refine va_put (D := (dC, dI)) (ci := 3) (v := .ref q16_2) (ty := .array .int) (C := RX3) (T := TX3) (N := 17) hx hb hts i_X3_init_X3 tyX3 tyX3_ok nmX3 hown hK hP hD hS 0 rfl rfl 6 (by decide) k_6 (fun _ h9 => h9) rfl (by decide +kernel) rfl rfl (Nat.le_of_ble_eq_true rfl) dX3_init_18 (fun H locs hP hD hS => ?_)
  have hP : va_P (dC, dI) vwCl [(h0, .inr (3, [.null, .null, .int 0, .int 0, .int 0, .ref q8_1, .ref q16_2, .null, .null, .null, .null, .null, .null, .int 0, .int 0, .null, .null])), (q8_1, .inl (cyI, 1024, .inl x_z0)), (q16_2, .inl (cyI, 32, .inl x_z0))] H := hP
  have hD : va_D A [(h0, .inr (3, [.null, .null, .int 0, .int 0, .int 0, .ref q8_1, .ref q16_2, .null, .null, .null, .null, .null, .null, .int 0, .int 0, .null, .null])), (q8_1, .inl (cyI, 1024, .inl x_z0)), (q16_2, .inl (cyI, 32, .inl x_z0))] := hD
  refine lv_aload_n hx hb dX3_init_21 rfl (lv_at hl 0 rfl) ?_
  refine lv_bipush (v := 32) hx hb dX3_init_22 (by decide) ?_
  refine va_newa (atype := .int) (ty := .int) (n := 32) (N' := 32) (a0 := (32, .inl x_z0)) hx hb k_4 rfl hK hP hD hS hA (fun _ => x_zcI _ _) (by decide) (by decide) (Nat.le_of_ble_eq_true rfl) (Nat.le_of_ble_eq_true rfl) (Nat.le_of_ble_eq_true rfl) dX3_init_24 (fun q24_3 cN H hKn hP hD hS => ?_)
  obtain rfl : cyI = cN := x_one (i := 0) (j := 3) hKn rfl rfl (fun _ h => by cases h)
  clear hKn
  have hP : va_P (dC, dI) vwCl [(h0, .inr (3, [.null, .null, .int 0, .int 0, .int 0, .ref q8_1, .ref q16_2, .null, .null, .null, .null, .null, .null, .int 0, .int 0, .null, .null])), (q8_1, .inl (cyI, 1024, .inl x_z0)), (q16_2, .inl (cyI, 32, .inl x_z0)), (q24_3, .inl (cyI, 32, .inl x_z0))] H := hP
  have hD : va_D A [(h0, .inr (3, [.null, .null, .int 0, .int 0, .int 0, .ref q8_1, .ref q16_2, .null, .null, .null, .null, .null, .null, .int 0, .int 0, .null, .null])), (q8_1, .inl (cyI, 1024, .inl x_z0)), (q16_2, .inl (cyI, 32, .inl x_z0)), (q24_3, .inl (cyI, 32, .inl x_z0))] := hD
  refine W.widen (k := 3) (n := 1088) (Nat.le_of_ble_eq_true rfl) (Nat.le_of_ble_eq_true rfl) ?_
  refine va_put (D := (dC, dI)) (ci := 3) (v := .ref q24_3) (ty := .array .int) (C := RX3) (T := TX3) (N := 17) hx hb hts i_X3_init_X3 tyX3 tyX3_ok nmX3 hown hK hP hD hS 0 rfl rfl 7 (by decide) k_7 (fun _ h9 => h9) rfl (by decide +kernel) rfl rfl (Nat.le_of_ble_eq_true rfl) dX3_init_26 (fun H locs hP hD hS => ?_)
  have hP : va_P (dC, dI) vwCl [(h0, .inr (3, [.null, .null, .int 0, .int 0, .int 0, .ref q8_1, .ref q16_2, .ref q24_3, .null, .null, .null, .null, .null, .int 0, .int 0, .null, .null])), (q8_1, .inl (cyI, 1024, .inl x_z0)), (q16_2, .inl (cyI, 32, .inl x_z0)), (q24_3, .inl (cyI, 32, .inl x_z0))] H := hP
  have hD : va_D A [(h0, .inr (3, [.null, .null, .int 0, .int 0, .int 0, .ref q8_1, .ref q16_2, .ref q24_3, .null, .null, .null, .null, .null, .int 0, .int 0, .null, .null])), (q8_1, .inl (cyI, 1024, .inl x_z0)), (q16_2, .inl (cyI, 32, .inl x_z0)), (q24_3, .inl (cyI, 32, .inl x_z0))] := hD
  refine lv_aload_n hx hb dX3_init_29 rfl (lv_at hl 0 rfl) ?_
  refine lv_bipush (v := 32) hx hb dX3_init_30 (by decide) ?_
  refine va_newa (atype := .int) (ty := .int) (n := 32) (N' := 32) (a0 := (32, .inl x_z0)) hx hb k_4 rfl hK hP hD hS hA (fun _ => x_zcI _ _) (by decide) (by decide) (Nat.le_of_ble_eq_true rfl) (Nat.le_of_ble_eq_true rfl) (Nat.le_of_ble_eq_true rfl) dX3_init_32 (fun q32_4 cN H hKn hP hD hS => ?_)
  obtain rfl : cyI = cN := x_one (i := 0) (j := 3) hKn rfl rfl (fun _ h => by cases h)
  clear hKn
  have hP : va_P (dC, dI) vwCl [(h0, .inr (3, [.null, .null, .int 0, .int 0, .int 0, .ref q8_1, .ref q16_2, .ref q24_3, .null, .null, .null, .null, .null, .int 0, .int 0, .null, .null])), (q8_1, .inl (cyI, 1024, .inl x_z0)), (q16_2, .inl (cyI, 32, .inl x_z0)), (q24_3, .inl (cyI, 32, .inl x_z0)), (q32_4, .inl (cyI, 32, .inl x_z0))] H := hP
  have hD : va_D A [(h0, .inr (3, [.null, .null, .int 0, .int 0, .int 0, .ref q8_1, .ref q16_2, .ref q24_3, .null, .null, .null, .null, .null, .int 0, .int 0, .null, .null])), (q8_1, .inl (cyI, 1024, .inl x_z0)), (q16_2, .inl (cyI, 32, .inl x_z0)), (q24_3, .inl (cyI, 32, .inl x_z0)), (q32_4, .inl (cyI, 32, .inl x_z0))] := hD
  refine W.widen (k := 4) (n := 1120) (Nat.le_of_ble_eq_true rfl) (Nat.le_of_ble_eq_true rfl) ?_
  refine va_put (D := (dC, dI)) (ci := 3) (v := .ref q32_4) (ty := .array .int) (C := RX3) (T := TX3) (N := 17) hx hb hts i_X3_init_X3 tyX3 tyX3_ok nmX3 hown hK hP hD hS 0 rfl rfl 8 (by decide) k_8 (fun _ h9 => h9) rfl (by decide +kernel) rfl rfl (Nat.le_of_ble_eq_true rfl) dX3_init_34 (fun H locs hP hD hS => ?_)
  have hP : va_P (dC, dI) vwCl [(h0, .inr (3, [.null, .null, .int 0, .int 0, .int 0, .ref q8_1, .ref q16_2, .ref q24_3, .ref q32_4, .null, .null, .null, .null, .int 0, .int 0, .null, .null])), (q8_1, .inl (cyI, 1024, .inl x_z0)), (q16_2, .inl (cyI, 32, .inl x_z0)), (q24_3, .inl (cyI, 32, .inl x_z0)), (q32_4, .inl (cyI, 32, .inl x_z0))] H := hP
  have hD : va_D A [(h0, .inr (3, [.null, .null, .int 0, .int 0, .int 0, .ref q8_1, .ref q16_2, .ref q24_3, .ref q32_4, .null, .null, .null, .null, .int 0, .int 0, .null, .null])), (q8_1, .inl (cyI, 1024, .inl x_z0)), (q16_2, .inl (cyI, 32, .inl x_z0)), (q24_3, .inl (cyI, 32, .inl x_z0)), (q32_4, .inl (cyI, 32, .inl x_z0))] := hD
  refine lv_aload_n hx hb dX3_init_37 rfl (lv_at hl 0 rfl) ?_
  refine lv_bipush (v := 32) hx hb dX3_init_38 (by decide) ?_
  refine va_newa (atype := .int) (ty := .int) (n := 32) (N' := 32) (a0 := (32, .inl x_z0)) hx hb k_4 rfl hK hP hD hS hA (fun _ => x_zcI _ _) (by decide) (by decide) (Nat.le_of_ble_eq_true rfl) (Nat.le_of_ble_eq_true rfl) (Nat.le_of_ble_eq_true rfl) dX3_init_40 (fun q40_5 cN H hKn hP hD hS => ?_)
  obtain rfl : cyI = cN := x_one (i := 0) (j := 3) hKn rfl rfl (fun _ h => by cases h)
  clear hKn
  have hP : va_P (dC, dI) vwCl [(h0, .inr (3, [.null, .null, .int 0, .int 0, .int 0, .ref q8_1, .ref q16_2, .ref q24_3, .ref q32_4, .null, .null, .null, .null, .int 0, .int 0, .null, .null])), (q8_1, .inl (cyI, 1024, .inl x_z0)), (q16_2, .inl (cyI, 32, .inl x_z0)), (q24_3, .inl (cyI, 32, .inl x_z0)), (q32_4, .inl (cyI, 32, .inl x_z0)), (q40_5, .inl (cyI, 32, .inl x_z0))] H := hP
  have hD : va_D A [(h0, .inr (3, [.null, .null, .int 0, .int 0, .int 0, .ref q8_1, .ref q16_2, .ref q24_3, .ref q32_4, .null, .null, .null, .null, .int 0, .int 0, .null, .null])), (q8_1, .inl (cyI, 1024, .inl x_z0)), (q16_2, .inl (cyI, 32, .inl x_z0)), (q24_3, .inl (cyI, 32, .inl x_z0)), (q32_4, .inl (cyI, 32, .inl x_z0)), (q40_5, .inl (cyI, 32, .inl x_z0))] := hD
  refine W.widen (k := 5) (n := 1152) (Nat.le_of_ble_eq_true rfl) (Nat.le_of_ble_eq_true rfl) ?_
  refine va_put (D := (dC, dI)) (ci := 3) (v := .ref q40_5) (ty := .array .int) (C := RX3) (T := TX3) (N := 17) hx hb hts i_X3_init_X3 tyX3 tyX3_ok nmX3 hown hK hP hD hS 0 rfl rfl 9 (by decide) k_9 (fun _ h9 => h9) rfl (by decide +kernel) rfl rfl (Nat.le_of_ble_eq_true rfl) dX3_init_42 (fun H locs hP hD hS => ?_)
  have hP : va_P (dC, dI) vwCl [(h0, .inr (3, [.null, .null, .int 0, .int 0, .int 0, .ref q8_1, .ref q16_2, .ref q24_3, .ref q32_4, .ref q40_5, .null, .null, .null, .int 0, .int 0, .null, .null])), (q8_1, .inl (cyI, 1024, .inl x_z0)), (q16_2, .inl (cyI, 32, .inl x_z0)), (q24_3, .inl (cyI, 32, .inl x_z0)), (q32_4, .inl (cyI, 32, .inl x_z0)), (q40_5, .inl (cyI, 32, .inl x_z0))] H := hP
  have hD : va_D A [(h0, .inr (3, [.null, .null, .int 0, .int 0, .int 0, .ref q8_1, .ref q16_2, .ref q24_3, .ref q32_4, .ref q40_5, .null, .null, .null, .int 0, .int 0, .null, .null])), (q8_1, .inl (cyI, 1024, .inl x_z0)), (q16_2, .inl (cyI, 32, .inl x_z0)), (q24_3, .inl (cyI, 32, .inl x_z0)), (q32_4, .inl (cyI, 32, .inl x_z0)), (q40_5, .inl (cyI, 32, .inl x_z0))] := hD
  refine lv_aload_n hx hb dX3_init_45 rfl (lv_at hl 0 rfl) ?_
  refine lv_sipush (v := 256) hx hb dX3_init_46 (by decide) ?_
  refine va_newa (atype := .int) (ty := .int) (n := 256) (N' := 256) (a0 := (256, .inl x_z0)) hx hb k_4 rfl hK hP hD hS hA (fun _ => x_zcI _ _) (by decide) (by decide) (Nat.le_of_ble_eq_true rfl) (Nat.le_of_ble_eq_true rfl) (Nat.le_of_ble_eq_true rfl) dX3_init_49 (fun q49_6 cN H hKn hP hD hS => ?_)
  obtain rfl : cyI = cN := x_one (i := 0) (j := 3) hKn rfl rfl (fun _ h => by cases h)
  clear hKn
  have hP : va_P (dC, dI) vwCl [(h0, .inr (3, [.null, .null, .int 0, .int 0, .int 0, .ref q8_1, .ref q16_2, .ref q24_3, .ref q32_4, .ref q40_5, .null, .null, .null, .int 0, .int 0, .null, .null])), (q8_1, .inl (cyI, 1024, .inl x_z0)), (q16_2, .inl (cyI, 32, .inl x_z0)), (q24_3, .inl (cyI, 32, .inl x_z0)), (q32_4, .inl (cyI, 32, .inl x_z0)), (q40_5, .inl (cyI, 32, .inl x_z0)), (q49_6, .inl (cyI, 256, .inl x_z0))] H := hP
  have hD : va_D A [(h0, .inr (3, [.null, .null, .int 0, .int 0, .int 0, .ref q8_1, .ref q16_2, .ref q24_3, .ref q32_4, .ref q40_5, .null, .null, .null, .int 0, .int 0, .null, .null])), (q8_1, .inl (cyI, 1024, .inl x_z0)), (q16_2, .inl (cyI, 32, .inl x_z0)), (q24_3, .inl (cyI, 32, .inl x_z0)), (q32_4, .inl (cyI, 32, .inl x_z0)), (q40_5, .inl (cyI, 32, .inl x_z0)), (q49_6, .inl (cyI, 256, .inl x_z0))] := hD
  refine W.widen (k := 6) (n := 1408) (Nat.le_of_ble_eq_true rfl) (Nat.le_of_ble_eq_true rfl) ?_
  refine va_putF (D := (dC, dI)) (ci := 3) (v := .ref q49_6) (ty := .array .int) (C := RX3) (T := TX3) (N := 17) hx hb hts i_X3_init_X3 tyX3 tyX3_ok nmX3 hown hK hP hD hS 0 rfl rfl 10 (by decide) k_10 (fun _ h9 => h9) rfl hin rfl (by decide +kernel) rfl rfl (Nat.le_of_ble_eq_true rfl) dX3_init_51 (fun H locs hP hD hS => ?_)
  have hP : va_P (dC, dI) vwCl [(h0, .inr (3, [.null, .null, .int 0, .int 0, .int 0, .ref q8_1, .ref q16_2, .ref q24_3, .ref q32_4, .ref q40_5, .ref q49_6, .null, .null, .int 0, .int 0, .null, .null])), (q8_1, .inl (cyI, 1024, .inl x_z0)), (q16_2, .inl (cyI, 32, .inl x_z0)), (q24_3, .inl (cyI, 32, .inl x_z0)), (q32_4, .inl (cyI, 32, .inl x_z0)), (q40_5, .inl (cyI, 32, .inl x_z0)), (q49_6, .inl (cyI, 256, .inl x_z0))] H := hP
  have hD : va_D A [(h0, .inr (3, [.null, .null, .int 0, .int 0, .int 0, .ref q8_1, .ref q16_2, .ref q24_3, .ref q32_4, .ref q40_5, .ref q49_6, .null, .null, .int 0, .int 0, .null, .null])), (q8_1, .inl (cyI, 1024, .inl x_z0)), (q16_2, .inl (cyI, 32, .inl x_z0)), (q24_3, .inl (cyI, 32, .inl x_z0)), (q32_4, .inl (cyI, 32, .inl x_z0)), (q40_5, .inl (cyI, 32, .inl x_z0)), (q49_6, .inl (cyI, 256, .inl x_z0))] := hD
  refine lv_aload_n hx hb dX3_init_54 rfl (lv_at hl 0 rfl) ?_
  refine lv_bipush (v := 32) hx hb dX3_init_55 (by decide) ?_
  refine va_newa (atype := .int) (ty := .int) (n := 32) (N' := 32) (a0 := (32, .inl x_z0)) hx hb k_4 rfl hK hP hD hS hA (fun _ => x_zcI _ _) (by decide) (by decide) (Nat.le_of_ble_eq_true rfl) (Nat.le_of_ble_eq_true rfl) (Nat.le_of_ble_eq_true rfl) dX3_init_57 (fun q57_7 cN H hKn hP hD hS => ?_)
  obtain rfl : cyI = cN := x_one (i := 0) (j := 3) hKn rfl rfl (fun _ h => by cases h)
  clear hKn
  have hP : va_P (dC, dI) vwCl [(h0, .inr (3, [.null, .null, .int 0, .int 0, .int 0, .ref q8_1, .ref q16_2, .ref q24_3, .ref q32_4, .ref q40_5, .ref q49_6, .null, .null, .int 0, .int 0, .null, .null])), (q8_1, .inl (cyI, 1024, .inl x_z0)), (q16_2, .inl (cyI, 32, .inl x_z0)), (q24_3, .inl (cyI, 32, .inl x_z0)), (q32_4, .inl (cyI, 32, .inl x_z0)), (q40_5, .inl (cyI, 32, .inl x_z0)), (q49_6, .inl (cyI, 256, .inl x_z0)), (q57_7, .inl (cyI, 32, .inl x_z0))] H := hP
  have hD : va_D A [(h0, .inr (3, [.null, .null, .int 0, .int 0, .int 0, .ref q8_1, .ref q16_2, .ref q24_3, .ref q32_4, .ref q40_5, .ref q49_6, .null, .null, .int 0, .int 0, .null, .null])), (q8_1, .inl (cyI, 1024, .inl x_z0)), (q16_2, .inl (cyI, 32, .inl x_z0)), (q24_3, .inl (cyI, 32, .inl x_z0)), (q32_4, .inl (cyI, 32, .inl x_z0)), (q40_5, .inl (cyI, 32, .inl x_z0)), (q49_6, .inl (cyI, 256, .inl x_z0)), (q57_7, .inl (cyI, 32, .inl x_z0))] := hD
  refine W.widen (k := 7) (n := 1440) (Nat.le_of_ble_eq_true rfl) (Nat.le_of_ble_eq_true rfl) ?_
  refine va_put (D := (dC, dI)) (ci := 3) (v := .ref q57_7) (ty := .array .int) (C := RX3) (T := TX3) (N := 17) hx hb hts i_X3_init_X3 tyX3 tyX3_ok nmX3 hown hK hP hD hS 0 rfl rfl 11 (by decide) k_11 (fun _ h9 => h9) rfl (by decide +kernel) rfl rfl (Nat.le_of_ble_eq_true rfl) dX3_init_59 (fun H locs hP hD hS => ?_)
  have hP : va_P (dC, dI) vwCl [(h0, .inr (3, [.null, .null, .int 0, .int 0, .int 0, .ref q8_1, .ref q16_2, .ref q24_3, .ref q32_4, .ref q40_5, .ref q49_6, .ref q57_7, .null, .int 0, .int 0, .null, .null])), (q8_1, .inl (cyI, 1024, .inl x_z0)), (q16_2, .inl (cyI, 32, .inl x_z0)), (q24_3, .inl (cyI, 32, .inl x_z0)), (q32_4, .inl (cyI, 32, .inl x_z0)), (q40_5, .inl (cyI, 32, .inl x_z0)), (q49_6, .inl (cyI, 256, .inl x_z0)), (q57_7, .inl (cyI, 32, .inl x_z0))] H := hP
  have hD : va_D A [(h0, .inr (3, [.null, .null, .int 0, .int 0, .int 0, .ref q8_1, .ref q16_2, .ref q24_3, .ref q32_4, .ref q40_5, .ref q49_6, .ref q57_7, .null, .int 0, .int 0, .null, .null])), (q8_1, .inl (cyI, 1024, .inl x_z0)), (q16_2, .inl (cyI, 32, .inl x_z0)), (q24_3, .inl (cyI, 32, .inl x_z0)), (q32_4, .inl (cyI, 32, .inl x_z0)), (q40_5, .inl (cyI, 32, .inl x_z0)), (q49_6, .inl (cyI, 256, .inl x_z0)), (q57_7, .inl (cyI, 32, .inl x_z0))] := hD
  refine lv_aload_n hx hb dX3_init_62 rfl (lv_at hl 0 rfl) ?_
  refine lv_bipush (v := 32) hx hb dX3_init_63 (by decide) ?_
  refine va_newa (atype := .int) (ty := .int) (n := 32) (N' := 32) (a0 := (32, .inl x_z0)) hx hb k_4 rfl hK hP hD hS hA (fun _ => x_zcI _ _) (by decide) (by decide) (Nat.le_of_ble_eq_true rfl) (Nat.le_of_ble_eq_true rfl) (Nat.le_of_ble_eq_true rfl) dX3_init_65 (fun q65_8 cN H hKn hP hD hS => ?_)
  obtain rfl : cyI = cN := x_one (i := 0) (j := 3) hKn rfl rfl (fun _ h => by cases h)
  clear hKn
  have hP : va_P (dC, dI) vwCl [(h0, .inr (3, [.null, .null, .int 0, .int 0, .int 0, .ref q8_1, .ref q16_2, .ref q24_3, .ref q32_4, .ref q40_5, .ref q49_6, .ref q57_7, .null, .int 0, .int 0, .null, .null])), (q8_1, .inl (cyI, 1024, .inl x_z0)), (q16_2, .inl (cyI, 32, .inl x_z0)), (q24_3, .inl (cyI, 32, .inl x_z0)), (q32_4, .inl (cyI, 32, .inl x_z0)), (q40_5, .inl (cyI, 32, .inl x_z0)), (q49_6, .inl (cyI, 256, .inl x_z0)), (q57_7, .inl (cyI, 32, .inl x_z0)), (q65_8, .inl (cyI, 32, .inl x_z0))] H := hP
  have hD : va_D A [(h0, .inr (3, [.null, .null, .int 0, .int 0, .int 0, .ref q8_1, .ref q16_2, .ref q24_3, .ref q32_4, .ref q40_5, .ref q49_6, .ref q57_7, .null, .int 0, .int 0, .null, .null])), (q8_1, .inl (cyI, 1024, .inl x_z0)), (q16_2, .inl (cyI, 32, .inl x_z0)), (q24_3, .inl (cyI, 32, .inl x_z0)), (q32_4, .inl (cyI, 32, .inl x_z0)), (q40_5, .inl (cyI, 32, .inl x_z0)), (q49_6, .inl (cyI, 256, .inl x_z0)), (q57_7, .inl (cyI, 32, .inl x_z0)), (q65_8, .inl (cyI, 32, .inl x_z0))] := hD
  refine W.widen (k := 8) (n := 1472) (Nat.le_of_ble_eq_true rfl) (Nat.le_of_ble_eq_true rfl) ?_
  refine va_put (D := (dC, dI)) (ci := 3) (v := .ref q65_8) (ty := .array .int) (C := RX3) (T := TX3) (N := 17) hx hb hts i_X3_init_X3 tyX3 tyX3_ok nmX3 hown hK hP hD hS 0 rfl rfl 12 (by decide) k_12 (fun _ h9 => h9) rfl (by decide +kernel) rfl rfl (Nat.le_of_ble_eq_true rfl) dX3_init_67 (fun H locs hP hD hS => ?_)
  have hP : va_P (dC, dI) vwCl [(h0, .inr (3, [.null, .null, .int 0, .int 0, .int 0, .ref q8_1, .ref q16_2, .ref q24_3, .ref q32_4, .ref q40_5, .ref q49_6, .ref q57_7, .ref q65_8, .int 0, .int 0, .null, .null])), (q8_1, .inl (cyI, 1024, .inl x_z0)), (q16_2, .inl (cyI, 32, .inl x_z0)), (q24_3, .inl (cyI, 32, .inl x_z0)), (q32_4, .inl (cyI, 32, .inl x_z0)), (q40_5, .inl (cyI, 32, .inl x_z0)), (q49_6, .inl (cyI, 256, .inl x_z0)), (q57_7, .inl (cyI, 32, .inl x_z0)), (q65_8, .inl (cyI, 32, .inl x_z0))] H := hP
  have hD : va_D A [(h0, .inr (3, [.null, .null, .int 0, .int 0, .int 0, .ref q8_1, .ref q16_2, .ref q24_3, .ref q32_4, .ref q40_5, .ref q49_6, .ref q57_7, .ref q65_8, .int 0, .int 0, .null, .null])), (q8_1, .inl (cyI, 1024, .inl x_z0)), (q16_2, .inl (cyI, 32, .inl x_z0)), (q24_3, .inl (cyI, 32, .inl x_z0)), (q32_4, .inl (cyI, 32, .inl x_z0)), (q40_5, .inl (cyI, 32, .inl x_z0)), (q49_6, .inl (cyI, 256, .inl x_z0)), (q57_7, .inl (cyI, 32, .inl x_z0)), (q65_8, .inl (cyI, 32, .inl x_z0))] := hD
  refine lv_aload_n hx hb dX3_init_70 rfl (lv_at hl 0 rfl) ?_
  refine lv_iconst (v := (-1)) hx hb dX3_init_71 (by decide) ?_
  refine va_put (D := (dC, dI)) (ci := 3) (v := .int (-1)) (ty := .int) (C := RX3) (T := TX3) (N := 17) hx hb hts i_X3_init_X3 tyX3 tyX3_ok nmX3 hown hK hP hD hS 0 rfl rfl 13 (by decide) k_13 (fun _ h9 => h9) rfl (by decide +kernel) rfl rfl (Nat.le_of_ble_eq_true rfl) dX3_init_72 (fun H locs hP hD hS => ?_)
  have hP : va_P (dC, dI) vwCl [(h0, .inr (3, [.null, .null, .int 0, .int 0, .int 0, .ref q8_1, .ref q16_2, .ref q24_3, .ref q32_4, .ref q40_5, .ref q49_6, .ref q57_7, .ref q65_8, .int (-1), .int 0, .null, .null])), (q8_1, .inl (cyI, 1024, .inl x_z0)), (q16_2, .inl (cyI, 32, .inl x_z0)), (q24_3, .inl (cyI, 32, .inl x_z0)), (q32_4, .inl (cyI, 32, .inl x_z0)), (q40_5, .inl (cyI, 32, .inl x_z0)), (q49_6, .inl (cyI, 256, .inl x_z0)), (q57_7, .inl (cyI, 32, .inl x_z0)), (q65_8, .inl (cyI, 32, .inl x_z0))] H := hP
  have hD : va_D A [(h0, .inr (3, [.null, .null, .int 0, .int 0, .int 0, .ref q8_1, .ref q16_2, .ref q24_3, .ref q32_4, .ref q40_5, .ref q49_6, .ref q57_7, .ref q65_8, .int (-1), .int 0, .null, .null])), (q8_1, .inl (cyI, 1024, .inl x_z0)), (q16_2, .inl (cyI, 32, .inl x_z0)), (q24_3, .inl (cyI, 32, .inl x_z0)), (q32_4, .inl (cyI, 32, .inl x_z0)), (q40_5, .inl (cyI, 32, .inl x_z0)), (q49_6, .inl (cyI, 256, .inl x_z0)), (q57_7, .inl (cyI, 32, .inl x_z0)), (q65_8, .inl (cyI, 32, .inl x_z0))] := hD
  refine lv_aload_n hx hb dX3_init_75 rfl (lv_at hl 0 rfl) ?_
  refine lv_iconst (v := (-1)) hx hb dX3_init_76 (by decide) ?_
  refine va_put (D := (dC, dI)) (ci := 3) (v := .int (-1)) (ty := .int) (C := RX3) (T := TX3) (N := 17) hx hb hts i_X3_init_X3 tyX3 tyX3_ok nmX3 hown hK hP hD hS 0 rfl rfl 14 (by decide) k_14 (fun _ h9 => h9) rfl (by decide +kernel) rfl rfl (Nat.le_of_ble_eq_true rfl) dX3_init_77 (fun H locs hP hD hS => ?_)
  have hP : va_P (dC, dI) vwCl [(h0, .inr (3, [.null, .null, .int 0, .int 0, .int 0, .ref q8_1, .ref q16_2, .ref q24_3, .ref q32_4, .ref q40_5, .ref q49_6, .ref q57_7, .ref q65_8, .int (-1), .int (-1), .null, .null])), (q8_1, .inl (cyI, 1024, .inl x_z0)), (q16_2, .inl (cyI, 32, .inl x_z0)), (q24_3, .inl (cyI, 32, .inl x_z0)), (q32_4, .inl (cyI, 32, .inl x_z0)), (q40_5, .inl (cyI, 32, .inl x_z0)), (q49_6, .inl (cyI, 256, .inl x_z0)), (q57_7, .inl (cyI, 32, .inl x_z0)), (q65_8, .inl (cyI, 32, .inl x_z0))] H := hP
  have hD : va_D A [(h0, .inr (3, [.null, .null, .int 0, .int 0, .int 0, .ref q8_1, .ref q16_2, .ref q24_3, .ref q32_4, .ref q40_5, .ref q49_6, .ref q57_7, .ref q65_8, .int (-1), .int (-1), .null, .null])), (q8_1, .inl (cyI, 1024, .inl x_z0)), (q16_2, .inl (cyI, 32, .inl x_z0)), (q24_3, .inl (cyI, 32, .inl x_z0)), (q32_4, .inl (cyI, 32, .inl x_z0)), (q40_5, .inl (cyI, 32, .inl x_z0)), (q49_6, .inl (cyI, 256, .inl x_z0)), (q57_7, .inl (cyI, 32, .inl x_z0)), (q65_8, .inl (cyI, 32, .inl x_z0))] := hD
  refine lv_aload_n hx hb dX3_init_80 rfl (lv_at hl 0 rfl) ?_
  refine lv_bipush (v := 32) hx hb dX3_init_81 (by decide) ?_
  refine va_newa (atype := .int) (ty := .int) (n := 32) (N' := 32) (a0 := (32, .inl x_z0)) hx hb k_4 rfl hK hP hD hS hA (fun _ => x_zcI _ _) (by decide) (by decide) (Nat.le_of_ble_eq_true rfl) (Nat.le_of_ble_eq_true rfl) (Nat.le_of_ble_eq_true rfl) dX3_init_83 (fun q83_9 cN H hKn hP hD hS => ?_)
  obtain rfl : cyI = cN := x_one (i := 0) (j := 3) hKn rfl rfl (fun _ h => by cases h)
  clear hKn
  have hP : va_P (dC, dI) vwCl [(h0, .inr (3, [.null, .null, .int 0, .int 0, .int 0, .ref q8_1, .ref q16_2, .ref q24_3, .ref q32_4, .ref q40_5, .ref q49_6, .ref q57_7, .ref q65_8, .int (-1), .int (-1), .null, .null])), (q8_1, .inl (cyI, 1024, .inl x_z0)), (q16_2, .inl (cyI, 32, .inl x_z0)), (q24_3, .inl (cyI, 32, .inl x_z0)), (q32_4, .inl (cyI, 32, .inl x_z0)), (q40_5, .inl (cyI, 32, .inl x_z0)), (q49_6, .inl (cyI, 256, .inl x_z0)), (q57_7, .inl (cyI, 32, .inl x_z0)), (q65_8, .inl (cyI, 32, .inl x_z0)), (q83_9, .inl (cyI, 32, .inl x_z0))] H := hP
  have hD : va_D A [(h0, .inr (3, [.null, .null, .int 0, .int 0, .int 0, .ref q8_1, .ref q16_2, .ref q24_3, .ref q32_4, .ref q40_5, .ref q49_6, .ref q57_7, .ref q65_8, .int (-1), .int (-1), .null, .null])), (q8_1, .inl (cyI, 1024, .inl x_z0)), (q16_2, .inl (cyI, 32, .inl x_z0)), (q24_3, .inl (cyI, 32, .inl x_z0)), (q32_4, .inl (cyI, 32, .inl x_z0)), (q40_5, .inl (cyI, 32, .inl x_z0)), (q49_6, .inl (cyI, 256, .inl x_z0)), (q57_7, .inl (cyI, 32, .inl x_z0)), (q65_8, .inl (cyI, 32, .inl x_z0)), (q83_9, .inl (cyI, 32, .inl x_z0))] := hD
  refine W.widen (k := 9) (n := 1504) (Nat.le_of_ble_eq_true rfl) (Nat.le_of_ble_eq_true rfl) ?_
  refine va_put (D := (dC, dI)) (ci := 3) (v := .ref q83_9) (ty := .array .int) (C := RX3) (T := TX3) (N := 17) hx hb hts i_X3_init_X3 tyX3 tyX3_ok nmX3 hown hK hP hD hS 0 rfl rfl 15 (by decide) k_15 (fun _ h9 => h9) rfl (by decide +kernel) rfl rfl (Nat.le_of_ble_eq_true rfl) dX3_init_85 (fun H locs hP hD hS => ?_)
  have hP : va_P (dC, dI) vwCl [(h0, .inr (3, [.null, .null, .int 0, .int 0, .int 0, .ref q8_1, .ref q16_2, .ref q24_3, .ref q32_4, .ref q40_5, .ref q49_6, .ref q57_7, .ref q65_8, .int (-1), .int (-1), .ref q83_9, .null])), (q8_1, .inl (cyI, 1024, .inl x_z0)), (q16_2, .inl (cyI, 32, .inl x_z0)), (q24_3, .inl (cyI, 32, .inl x_z0)), (q32_4, .inl (cyI, 32, .inl x_z0)), (q40_5, .inl (cyI, 32, .inl x_z0)), (q49_6, .inl (cyI, 256, .inl x_z0)), (q57_7, .inl (cyI, 32, .inl x_z0)), (q65_8, .inl (cyI, 32, .inl x_z0)), (q83_9, .inl (cyI, 32, .inl x_z0))] H := hP
  have hD : va_D A [(h0, .inr (3, [.null, .null, .int 0, .int 0, .int 0, .ref q8_1, .ref q16_2, .ref q24_3, .ref q32_4, .ref q40_5, .ref q49_6, .ref q57_7, .ref q65_8, .int (-1), .int (-1), .ref q83_9, .null])), (q8_1, .inl (cyI, 1024, .inl x_z0)), (q16_2, .inl (cyI, 32, .inl x_z0)), (q24_3, .inl (cyI, 32, .inl x_z0)), (q32_4, .inl (cyI, 32, .inl x_z0)), (q40_5, .inl (cyI, 32, .inl x_z0)), (q49_6, .inl (cyI, 256, .inl x_z0)), (q57_7, .inl (cyI, 32, .inl x_z0)), (q65_8, .inl (cyI, 32, .inl x_z0)), (q83_9, .inl (cyI, 32, .inl x_z0))] := hD
  refine lv_aload_n hx hb dX3_init_88 rfl (lv_at hl 0 rfl) ?_
  refine lv_bipush (v := 32) hx hb dX3_init_89 (by decide) ?_
  refine va_newa (atype := .int) (ty := .int) (n := 32) (N' := 32) (a0 := (32, .inl x_z0)) hx hb k_4 rfl hK hP hD hS hA (fun _ => x_zcI _ _) (by decide) (by decide) (Nat.le_of_ble_eq_true rfl) (Nat.le_of_ble_eq_true rfl) (Nat.le_of_ble_eq_true rfl) dX3_init_91 (fun q91_10 cN H hKn hP hD hS => ?_)
  obtain rfl : cyI = cN := x_one (i := 0) (j := 3) hKn rfl rfl (fun _ h => by cases h)
  clear hKn
  have hP : va_P (dC, dI) vwCl [(h0, .inr (3, [.null, .null, .int 0, .int 0, .int 0, .ref q8_1, .ref q16_2, .ref q24_3, .ref q32_4, .ref q40_5, .ref q49_6, .ref q57_7, .ref q65_8, .int (-1), .int (-1), .ref q83_9, .null])), (q8_1, .inl (cyI, 1024, .inl x_z0)), (q16_2, .inl (cyI, 32, .inl x_z0)), (q24_3, .inl (cyI, 32, .inl x_z0)), (q32_4, .inl (cyI, 32, .inl x_z0)), (q40_5, .inl (cyI, 32, .inl x_z0)), (q49_6, .inl (cyI, 256, .inl x_z0)), (q57_7, .inl (cyI, 32, .inl x_z0)), (q65_8, .inl (cyI, 32, .inl x_z0)), (q83_9, .inl (cyI, 32, .inl x_z0)), (q91_10, .inl (cyI, 32, .inl x_z0))] H := hP
  have hD : va_D A [(h0, .inr (3, [.null, .null, .int 0, .int 0, .int 0, .ref q8_1, .ref q16_2, .ref q24_3, .ref q32_4, .ref q40_5, .ref q49_6, .ref q57_7, .ref q65_8, .int (-1), .int (-1), .ref q83_9, .null])), (q8_1, .inl (cyI, 1024, .inl x_z0)), (q16_2, .inl (cyI, 32, .inl x_z0)), (q24_3, .inl (cyI, 32, .inl x_z0)), (q32_4, .inl (cyI, 32, .inl x_z0)), (q40_5, .inl (cyI, 32, .inl x_z0)), (q49_6, .inl (cyI, 256, .inl x_z0)), (q57_7, .inl (cyI, 32, .inl x_z0)), (q65_8, .inl (cyI, 32, .inl x_z0)), (q83_9, .inl (cyI, 32, .inl x_z0)), (q91_10, .inl (cyI, 32, .inl x_z0))] := hD
  refine W.widen (k := 10) (n := 1536) (Nat.le_of_ble_eq_true rfl) (Nat.le_of_ble_eq_true rfl) ?_
  refine va_put (D := (dC, dI)) (ci := 3) (v := .ref q91_10) (ty := .array .int) (C := RX3) (T := TX3) (N := 17) hx hb hts i_X3_init_X3 tyX3 tyX3_ok nmX3 hown hK hP hD hS 0 rfl rfl 16 (by decide) k_16 (fun _ h9 => h9) rfl (by decide +kernel) rfl rfl (Nat.le_of_ble_eq_true rfl) dX3_init_93 (fun H locs hP hD hS => ?_)
  have hP : va_P (dC, dI) vwCl [(h0, .inr (3, [.null, .null, .int 0, .int 0, .int 0, .ref q8_1, .ref q16_2, .ref q24_3, .ref q32_4, .ref q40_5, .ref q49_6, .ref q57_7, .ref q65_8, .int (-1), .int (-1), .ref q83_9, .ref q91_10])), (q8_1, .inl (cyI, 1024, .inl x_z0)), (q16_2, .inl (cyI, 32, .inl x_z0)), (q24_3, .inl (cyI, 32, .inl x_z0)), (q32_4, .inl (cyI, 32, .inl x_z0)), (q40_5, .inl (cyI, 32, .inl x_z0)), (q49_6, .inl (cyI, 256, .inl x_z0)), (q57_7, .inl (cyI, 32, .inl x_z0)), (q65_8, .inl (cyI, 32, .inl x_z0)), (q83_9, .inl (cyI, 32, .inl x_z0)), (q91_10, .inl (cyI, 32, .inl x_z0))] H := hP
  have hD : va_D A [(h0, .inr (3, [.null, .null, .int 0, .int 0, .int 0, .ref q8_1, .ref q16_2, .ref q24_3, .ref q32_4, .ref q40_5, .ref q49_6, .ref q57_7, .ref q65_8, .int (-1), .int (-1), .ref q83_9, .ref q91_10])), (q8_1, .inl (cyI, 1024, .inl x_z0)), (q16_2, .inl (cyI, 32, .inl x_z0)), (q24_3, .inl (cyI, 32, .inl x_z0)), (q32_4, .inl (cyI, 32, .inl x_z0)), (q40_5, .inl (cyI, 32, .inl x_z0)), (q49_6, .inl (cyI, 256, .inl x_z0)), (q57_7, .inl (cyI, 32, .inl x_z0)), (q65_8, .inl (cyI, 32, .inl x_z0)), (q83_9, .inl (cyI, 32, .inl x_z0)), (q91_10, .inl (cyI, 32, .inl x_z0))] := hD
  refine lv_aload_n hx hb dX3_init_96 rfl (lv_at hl 0 rfl) ?_
  refine lv_aload_n hx hb dX3_init_97 rfl (lv_at hl 1 rfl) ?_
  refine va_putF (D := (dC, dI)) (ci := 3) (v := .ref b0) (ty := .object "FlowJudge$Types") (C := RX3) (T := TX3) (N := 17) hx hb hts i_X3_init_X3 tyX3 tyX3_ok nmX3 hown hK hP hD hS 0 rfl rfl 0 (by decide) k_17 (fun _ h9 => h9) rfl hin rfl (by decide +kernel) rfl rfl (Nat.le_of_ble_eq_true rfl) dX3_init_98 (fun H locs hP hD hS => ?_)
  have hP : va_P (dC, dI) vwCl [(h0, .inr (3, [.ref b0, .null, .int 0, .int 0, .int 0, .ref q8_1, .ref q16_2, .ref q24_3, .ref q32_4, .ref q40_5, .ref q49_6, .ref q57_7, .ref q65_8, .int (-1), .int (-1), .ref q83_9, .ref q91_10])), (q8_1, .inl (cyI, 1024, .inl x_z0)), (q16_2, .inl (cyI, 32, .inl x_z0)), (q24_3, .inl (cyI, 32, .inl x_z0)), (q32_4, .inl (cyI, 32, .inl x_z0)), (q40_5, .inl (cyI, 32, .inl x_z0)), (q49_6, .inl (cyI, 256, .inl x_z0)), (q57_7, .inl (cyI, 32, .inl x_z0)), (q65_8, .inl (cyI, 32, .inl x_z0)), (q83_9, .inl (cyI, 32, .inl x_z0)), (q91_10, .inl (cyI, 32, .inl x_z0))] H := hP
  have hD : va_D A [(h0, .inr (3, [.ref b0, .null, .int 0, .int 0, .int 0, .ref q8_1, .ref q16_2, .ref q24_3, .ref q32_4, .ref q40_5, .ref q49_6, .ref q57_7, .ref q65_8, .int (-1), .int (-1), .ref q83_9, .ref q91_10])), (q8_1, .inl (cyI, 1024, .inl x_z0)), (q16_2, .inl (cyI, 32, .inl x_z0)), (q24_3, .inl (cyI, 32, .inl x_z0)), (q32_4, .inl (cyI, 32, .inl x_z0)), (q40_5, .inl (cyI, 32, .inl x_z0)), (q49_6, .inl (cyI, 256, .inl x_z0)), (q57_7, .inl (cyI, 32, .inl x_z0)), (q65_8, .inl (cyI, 32, .inl x_z0)), (q83_9, .inl (cyI, 32, .inl x_z0)), (q91_10, .inl (cyI, 32, .inl x_z0))] := hD
  refine lv_aload_n hx hb dX3_init_101 rfl (lv_at hl 0 rfl) ?_
  refine lv_aload_n hx hb dX3_init_102 rfl (lv_at hl 2 rfl) ?_
  refine va_putF (D := (dC, dI)) (ci := 3) (v := .ref b1) (ty := .object "FlowJudge$Contexts") (C := RX3) (T := TX3) (N := 17) hx hb hts i_X3_init_X3 tyX3 tyX3_ok nmX3 hown hK hP hD hS 0 rfl rfl 1 (by decide) k_18 (fun _ h9 => h9) rfl hin rfl (by decide +kernel) rfl rfl (Nat.le_of_ble_eq_true rfl) dX3_init_103 (fun H locs hP hD hS => ?_)
  have hP : va_P (dC, dI) vwCl [(h0, .inr (3, [.ref b0, .ref b1, .int 0, .int 0, .int 0, .ref q8_1, .ref q16_2, .ref q24_3, .ref q32_4, .ref q40_5, .ref q49_6, .ref q57_7, .ref q65_8, .int (-1), .int (-1), .ref q83_9, .ref q91_10])), (q8_1, .inl (cyI, 1024, .inl x_z0)), (q16_2, .inl (cyI, 32, .inl x_z0)), (q24_3, .inl (cyI, 32, .inl x_z0)), (q32_4, .inl (cyI, 32, .inl x_z0)), (q40_5, .inl (cyI, 32, .inl x_z0)), (q49_6, .inl (cyI, 256, .inl x_z0)), (q57_7, .inl (cyI, 32, .inl x_z0)), (q65_8, .inl (cyI, 32, .inl x_z0)), (q83_9, .inl (cyI, 32, .inl x_z0)), (q91_10, .inl (cyI, 32, .inl x_z0))] H := hP
  have hD : va_D A [(h0, .inr (3, [.ref b0, .ref b1, .int 0, .int 0, .int 0, .ref q8_1, .ref q16_2, .ref q24_3, .ref q32_4, .ref q40_5, .ref q49_6, .ref q57_7, .ref q65_8, .int (-1), .int (-1), .ref q83_9, .ref q91_10])), (q8_1, .inl (cyI, 1024, .inl x_z0)), (q16_2, .inl (cyI, 32, .inl x_z0)), (q24_3, .inl (cyI, 32, .inl x_z0)), (q32_4, .inl (cyI, 32, .inl x_z0)), (q40_5, .inl (cyI, 32, .inl x_z0)), (q49_6, .inl (cyI, 256, .inl x_z0)), (q57_7, .inl (cyI, 32, .inl x_z0)), (q65_8, .inl (cyI, 32, .inl x_z0)), (q83_9, .inl (cyI, 32, .inl x_z0)), (q91_10, .inl (cyI, 32, .inl x_z0))] := hD
  refine lv_aload_n hx hb dX3_init_106 rfl (lv_at hl 0 rfl) ?_
  refine va_get (D := (dC, dI)) (ci := 3) (v := .ref q49_6) (C := RX3) (T := TX3) (N := 17) hx hb hts i_X3_init_X3 hown hK hP 0 rfl rfl 10 (by decide) k_10 (fun _ h9 => h9) rfl dX3_init_107 ?_
  refine lv_iconst (v := (-1)) hx hb dX3_init_110 (by decide) ?_
  have hPc := hP.sub (ws' := [(q49_6, .inl (cyI, 256, .inl x_z0))]) [6] rfl
  have hDc := hD.sub (ws' := [(q49_6, .inl (cyI, 256, .inl x_z0))]) [6] (by decide) rfl
  have hFc := va_free (wc := [(q49_6, .inl (cyI, 256, .inl x_z0))]) hD hS hA [6] rfl
  refine va_callv (va_runS (As := [.ref q49_6, .int (-1)]) (rest := []) ⟨hx, hb, hml, hown, hts⟩ (c_J7_fill_53178 l dC dI cyI cyZ cyJ H.size q49_6 x_z0 (-1)) (va_cwS 2 hts gX3_init_J7_fill_53178 rfl rfl rfl (by decide +kernel) ⟨Nat.le_of_ble_eq_true rfl, Nat.le_of_ble_eq_true rfl⟩) (x_pSD hN hK hPc hDc) rfl rfl hl.1 rfl (lv_room (Nat.le_of_ble_eq_true rfl)) dX3_init_111 ⟨Nat.le_of_ble_eq_true rfl, Nat.le_of_ble_eq_true rfl⟩) hS (fun q _ h => hFc q h) hFc (fun u t H1 locs ht hvm hw hB hz1 hk1 hS => ?_)
  obtain ⟨gn_11, hP1, hK1, hD1⟩ := hB
  rw [ht] at hP1
  obtain ⟨hP, hD⟩ := va_join (wr := [(h0, .inr (3, [.ref b0, .ref b1, .int 0, .int 0, .int 0, .ref q8_1, .ref q16_2, .ref q24_3, .ref q32_4, .ref q40_5, .ref q49_6, .ref q57_7, .ref q65_8, .int (-1), .int (-1), .ref q83_9, .ref q91_10])), (q8_1, .inl (cyI, 1024, .inl x_z0)), (q16_2, .inl (cyI, 32, .inl x_z0)), (q24_3, .inl (cyI, 32, .inl x_z0)), (q32_4, .inl (cyI, 32, .inl x_z0)), (q40_5, .inl (cyI, 32, .inl x_z0)), (q57_7, .inl (cyI, 32, .inl x_z0)), (q65_8, .inl (cyI, 32, .inl x_z0)), (q83_9, .inl (cyI, 32, .inl x_z0)), (q91_10, .inl (cyI, 32, .inl x_z0))]) (w1 := [(q49_6, .inl (cyI, 256, .inl gn_11))]) hP hD [6] [0, 1, 2, 3, 4, 5, 7, 8, 9, 10] rfl rfl (by decide) (by decide) hk1 hFc hP1 hD1
  clear hz1 hk1 hPc hDc hFc hP1 hK1 hD1 ht hvm t u
  generalize H1 = H at hP hS ⊢
  have hP : va_P (dC, dI) vwCl [(h0, .inr (3, [.ref b0, .ref b1, .int 0, .int 0, .int 0, .ref q8_1, .ref q16_2, .ref q24_3, .ref q32_4, .ref q40_5, .ref q49_6, .ref q57_7, .ref q65_8, .int (-1), .int (-1), .ref q83_9, .ref q91_10])), (q8_1, .inl (cyI, 1024, .inl x_z0)), (q16_2, .inl (cyI, 32, .inl x_z0)), (q24_3, .inl (cyI, 32, .inl x_z0)), (q32_4, .inl (cyI, 32, .inl x_z0)), (q40_5, .inl (cyI, 32, .inl x_z0)), (q57_7, .inl (cyI, 32, .inl x_z0)), (q65_8, .inl (cyI, 32, .inl x_z0)), (q83_9, .inl (cyI, 32, .inl x_z0)), (q91_10, .inl (cyI, 32, .inl x_z0)), (q49_6, .inl (cyI, 256, .inl gn_11))] H := hP
  have hD : va_D A [(h0, .inr (3, [.ref b0, .ref b1, .int 0, .int 0, .int 0, .ref q8_1, .ref q16_2, .ref q24_3, .ref q32_4, .ref q40_5, .ref q49_6, .ref q57_7, .ref q65_8, .int (-1), .int (-1), .ref q83_9, .ref q91_10])), (q8_1, .inl (cyI, 1024, .inl x_z0)), (q16_2, .inl (cyI, 32, .inl x_z0)), (q24_3, .inl (cyI, 32, .inl x_z0)), (q32_4, .inl (cyI, 32, .inl x_z0)), (q40_5, .inl (cyI, 32, .inl x_z0)), (q57_7, .inl (cyI, 32, .inl x_z0)), (q65_8, .inl (cyI, 32, .inl x_z0)), (q83_9, .inl (cyI, 32, .inl x_z0)), (q91_10, .inl (cyI, 32, .inl x_z0)), (q49_6, .inl (cyI, 256, .inl gn_11))] := hD
  have hP9 := hP.sub (ws' := [(h0, .inr (3, [.ref b0, .ref b1, .int 0, .int 0, .int 0, .ref q8_1, .ref q16_2, .ref q24_3, .ref q32_4, .ref q40_5, .ref q49_6, .ref q57_7, .ref q65_8, .int (-1), .int (-1), .ref q83_9, .ref q91_10])), (q8_1, .inl (cyI, 1024, .inl x_z0)), (q16_2, .inl (cyI, 32, .inl x_z0)), (q24_3, .inl (cyI, 32, .inl x_z0)), (q32_4, .inl (cyI, 32, .inl x_z0)), (q40_5, .inl (cyI, 32, .inl x_z0)), (q49_6, .inl (cyI, 256, .inl gn_11)), (q57_7, .inl (cyI, 32, .inl x_z0)), (q65_8, .inl (cyI, 32, .inl x_z0)), (q83_9, .inl (cyI, 32, .inl x_z0)), (q91_10, .inl (cyI, 32, .inl x_z0))]) [0, 1, 2, 3, 4, 5, 10, 6, 7, 8, 9] rfl
  have hD9 := hD.sub (ws' := [(h0, .inr (3, [.ref b0, .ref b1, .int 0, .int 0, .int 0, .ref q8_1, .ref q16_2, .ref q24_3, .ref q32_4, .ref q40_5, .ref q49_6, .ref q57_7, .ref q65_8, .int (-1), .int (-1), .ref q83_9, .ref q91_10])), (q8_1, .inl (cyI, 1024, .inl x_z0)), (q16_2, .inl (cyI, 32, .inl x_z0)), (q24_3, .inl (cyI, 32, .inl x_z0)), (q32_4, .inl (cyI, 32, .inl x_z0)), (q40_5, .inl (cyI, 32, .inl x_z0)), (q49_6, .inl (cyI, 256, .inl gn_11)), (q57_7, .inl (cyI, 32, .inl x_z0)), (q65_8, .inl (cyI, 32, .inl x_z0)), (q83_9, .inl (cyI, 32, .inl x_z0)), (q91_10, .inl (cyI, 32, .inl x_z0))]) [0, 1, 2, 3, 4, 5, 10, 6, 7, 8, 9] (by decide) rfl
  exact W.vret hx hb hr (fun t ht hW => ⟨⟨(), rfl, trivial, q8_1, q16_2, q24_3, q32_4, q40_5, q49_6, q57_7, q65_8, q83_9, q91_10, gn_11, by rw [ht]; exact hP9, va_K.moved hW.alike hK, hD9⟩, hS.F ht⟩) hS.2.2 dX3_init_114

theorem i_X5_init_X5 : ∀ w ∈ wsX50, w ∈ wsX5_init := fun _ h => List.mem_cons_of_mem _ (List.mem_append_right _ h)
set_option maxHeartbeats 4000000 in
set_option maxRecDepth 100000 in
theorem c_X5_init (l : Launch) (dC : Nat → ClassId) (dI : Nat → Nat → Nat) (cyI cyZ cyJ : ClassId) (sz : Nat) (h0 : Nat) (b0 : Nat) : Met l yX5_init wsX5_init ({ frames := 1, cells := 1, slots := 400, locals := 12 }) (va_Pc [.ref h0, .ref b0] (x_PreD (dC, dI) (x_T cyI cyZ cyJ) [(h0, .inr (5, [.null, .null, .int 0, .int 0, .int 0, .int 0, .int 0, .int 0, .int 0, .int 0]))] sz)) (va_Qv (fun _ : Unit => True) (fun (_ : Unit) (t : State) => ∃ (a1 : Nat), va_P (dC, dI) vwCl [(h0, .inr (5, [.ref b0, .ref a1, .int 0, .int 0, .int 0, .int 0, .int 0, .int 0, .int 0, .int 0])), (a1, .inl (cyI, 400, .inl x_z0))] t.heap ∧ va_K (dC, dI) vwCl (x_T cyI cyZ cyJ) t ∧ va_D (va_A [(h0, .inr (5, [.null, .null, .int 0, .int 0, .int 0, .int 0, .int 0, .int 0, .int 0, .int 0]))] sz) [(h0, .inr (5, [.ref b0, .ref a1, .int 0, .int 0, .int 0, .int 0, .int 0, .int 0, .int 0, .int 0])), (a1, .inl (cyI, 400, .inl x_z0))]) (va_A [(h0, .inr (5, [.null, .null, .int 0, .int 0, .int 0, .int 0, .int 0, .int 0, .int 0, .int 0]))] sz)) 1 400 (va_A [(h0, .inr (5, [.null, .null, .int 0, .int 0, .int 0, .int 0, .int 0, .int 0, .int 0, .int 0]))] sz) := by
  refine Met.ofW (cc := cX5_init) (maxL := 2) (ret := none) (by decide) rfl ?_
  intro p e s m args below meth c s₁ B hml hv
  obtain ⟨rfl, ⟨hsz, hP, hK, hN⟩, hD0⟩ := hv
  have hx := B.exec
  have hb := B.bytes
  have hr := B.returns
  have hts := atoms_spec (ws := wsX5_init) B.pre
  have hown : s.vm.findClass RX5 = some m.cls := findClass_of_methodNamed B.named
  have hlocks := B.notSynchronized
  have hin : meth.name = "<init>" := (name_of_methodNamed B.named B.method).1
  have k_1 := hts (.methodLink RX5 3 objectInit) (by decide +kernel)
  have k_2 := hts (.instanceMethod objectInit) (by decide +kernel)
  have k_3 := hts (.code objectInit ⟨#[0xb1]⟩ 1 none) (by decide +kernel)
  have k_4 := hts (.arrayClass .int) (by decide +kernel)
  have k_5 := hts (.fieldLink RX5 9 "FlowJudge$Places" "cells" "[I") (by decide +kernel)
  have k_6 := hts (.fieldLink RX5 15 "FlowJudge$Places" "types" "LFlowJudge$Types;") (by decide +kernel)
  subst hsz
  have hD := hD0.self (sz := s.heap.size)
  generalize hAe : va_A [(h0, .inr (5, [.null, .null, .int 0, .int 0, .int 0, .int 0, .int 0, .int 0, .int 0, .int 0]))] s.heap.size = A at hD ⊢
  have hA : ∀ q : Nat, s.heap.size ≤ q → A q := fun q h => by rw [← hAe]; exact Or.inr h
  have hS : va_S A s.heap s.heap [] := va_S.rf
  have hP : va_P (dC, dI) vwCl [(h0, .inr (5, [.null, .null, .int 0, .int 0, .int 0, .int 0, .int 0, .int 0, .int 0, .int 0]))] s.heap := hP
  have hl := lv_entry ([.ref h0, .ref b0]) (n := 2) (Nat.le_of_ble_eq_true rfl)
  rw [lg_entry_eq]
  generalize (lg_sl ([.ref h0, .ref b0]) ++ List.replicate (2 - (lg_sl ([.ref h0, .ref b0])).length) Slot.unset).toArray = ls at hl ⊢
  have hl : lv_has ls 2 [(0, .ref h0), (1, .ref b0)] := hl
  obtain ⟨H, hH⟩ : ∃ z, z = s.heap := ⟨_, rfl⟩
  refine x_here hH ?_
  have hP : va_P (dC, dI) vwCl [(h0, .inr (5, [.null, .null, .int 0, .int 0, .int 0, .int 0, .int 0, .int 0, .int 0, .int 0]))] H := by rw [hH]; exact hP
  have hS : va_S A s.heap H [] := by rw [hH]; exact va_S.rf
  clear hH
  refine lv_aload_n hx hb dX5_init_0 rfl (lv_at hl 0 rfl) ?_
  refine W.objInit hx hb hown k_1 k_2 k_3 rfl (by rw [hml]; exact hl.1) rfl dX5_init_1 (Nat.le_of_ble_eq_true rfl) (Nat.le_of_ble_eq_true rfl) ?_
  refine W.eq (g2 := F0 m 4 ls []) rfl ?_
  refine lv_aload_n hx hb dX5_init_4 rfl (lv_at hl 0 rfl) ?_
  refine lv_sipush (v := 400) hx hb dX5_init_5 (by decide) ?_
  refine va_newa (atype := .int) (ty := .int) (n := 400) (N' := 400) (a0 := (400, .inl x_z0)) hx hb k_4 rfl hK hP hD hS hA (fun _ => x_zcI _ _) (by decide) (by decide) (Nat.le_of_ble_eq_true rfl) (Nat.le_of_ble_eq_true rfl) (Nat.le_of_ble_eq_true rfl) dX5_init_8 (fun q8_1 cN H hKn hP hD hS => ?_)
  obtain rfl : cyI = cN := x_one (i := 0) (j := 3) hKn rfl rfl (fun _ h => by cases h)
  clear hKn
  have hP : va_P (dC, dI) vwCl [(h0, .inr (5, [.null, .null, .int 0, .int 0, .int 0, .int 0, .int 0, .int 0, .int 0, .int 0])), (q8_1, .inl (cyI, 400, .inl x_z0))] H := hP
  have hD : va_D A [(h0, .inr (5, [.null, .null, .int 0, .int 0, .int 0, .int 0, .int 0, .int 0, .int 0, .int 0])), (q8_1, .inl (cyI, 400, .inl x_z0))] := hD
  refine W.widen (k := 1) (n := 400) (Nat.le_of_ble_eq_true rfl) (Nat.le_of_ble_eq_true rfl) ?_
  refine va_putF (D := (dC, dI)) (ci := 5) (v := .ref q8_1) (ty := .array .int) (C := RX5) (T := TX5) (N := 10) hx hb hts i_X5_init_X5 tyX5 tyX5_ok nmX5 hown hK hP hD hS 0 rfl rfl 1 (by decide) k_5 (fun _ h9 => h9) rfl hin rfl (by decide +kernel) rfl rfl (Nat.le_of_ble_eq_true rfl) dX5_init_10 (fun H locs hP hD hS => ?_)
  have hP : va_P (dC, dI) vwCl [(h0, .inr (5, [.null, .ref q8_1, .int 0, .int 0, .int 0, .int 0, .int 0, .int 0, .int 0, .int 0])), (q8_1, .inl (cyI, 400, .inl x_z0))] H := hP
  have hD : va_D A [(h0, .inr (5, [.null, .ref q8_1, .int 0, .int 0, .int 0, .int 0, .int 0, .int 0, .int 0, .int 0])), (q8_1, .inl (cyI, 400, .inl x_z0))] := hD
  refine lv_aload_n hx hb dX5_init_13 rfl (lv_at hl 0 rfl) ?_
  refine lv_aload_n hx hb dX5_init_14 rfl (lv_at hl 1 rfl) ?_
  refine va_putF (D := (dC, dI)) (ci := 5) (v := .ref b0) (ty := .object "FlowJudge$Types") (C := RX5) (T := TX5) (N := 10) hx hb hts i_X5_init_X5 tyX5 tyX5_ok nmX5 hown hK hP hD hS 0 rfl rfl 0 (by decide) k_6 (fun _ h9 => h9) rfl hin rfl (by decide +kernel) rfl rfl (Nat.le_of_ble_eq_true rfl) dX5_init_15 (fun H locs hP hD hS => ?_)
  have hP : va_P (dC, dI) vwCl [(h0, .inr (5, [.ref b0, .ref q8_1, .int 0, .int 0, .int 0, .int 0, .int 0, .int 0, .int 0, .int 0])), (q8_1, .inl (cyI, 400, .inl x_z0))] H := hP
  have hD : va_D A [(h0, .inr (5, [.ref b0, .ref q8_1, .int 0, .int 0, .int 0, .int 0, .int 0, .int 0, .int 0, .int 0])), (q8_1, .inl (cyI, 400, .inl x_z0))] := hD
  have hP9 := hP.sub (ws' := [(h0, .inr (5, [.ref b0, .ref q8_1, .int 0, .int 0, .int 0, .int 0, .int 0, .int 0, .int 0, .int 0])), (q8_1, .inl (cyI, 400, .inl x_z0))]) [0, 1] rfl
  have hD9 := hD.sub (ws' := [(h0, .inr (5, [.ref b0, .ref q8_1, .int 0, .int 0, .int 0, .int 0, .int 0, .int 0, .int 0, .int 0])), (q8_1, .inl (cyI, 400, .inl x_z0))]) [0, 1] (by decide) rfl
  exact W.vret hx hb hr (fun t ht hW => ⟨⟨(), rfl, trivial, q8_1, by rw [ht]; exact hP9, va_K.moved hW.alike hK, hD9⟩, hS.F ht⟩) hS.2.2 dX5_init_18

theorem i_X6_init_X6 : ∀ w ∈ wsX60, w ∈ wsX6_init := fun _ h => List.mem_cons_of_mem _ (List.mem_append_right _ h)
set_option maxHeartbeats 4000000 in
set_option maxRecDepth 100000 in
theorem c_X6_init (l : Launch) (dC : Nat → ClassId) (dI : Nat → Nat → Nat) (cyI cyZ cyJ : ClassId) (sz : Nat) (h0 : Nat) (b0 : Nat) (b1 : Nat) (b2 : Nat) (b3 : Nat) : Met l yX6_init wsX6_init ({ frames := 1, cells := 0, slots := 0, locals := 12 }) (va_Pc [.ref h0, .ref b0, .ref b1, .ref b2, .ref b3] (x_PreD (dC, dI) (x_T cyI cyZ cyJ) [(h0, .inr (6, [.null, .null, .null, .null]))] sz)) (va_Qv (fun _ : Unit => True) (fun (_ : Unit) (t : State) => va_P (dC, dI) vwCl [(h0, .inr (6, [.ref b0, .ref b1, .ref b2, .ref b3]))] t.heap ∧ va_K (dC, dI) vwCl (x_T cyI cyZ cyJ) t ∧ va_D (va_A [(h0, .inr (6, [.null, .null, .null, .null]))] sz) [(h0, .inr (6, [.ref b0, .ref b1, .ref b2, .ref b3]))]) (va_A [(h0, .inr (6, [.null, .null, .null, .null]))] sz)) 0 0 (va_A [(h0, .inr (6, [.null, .null, .null, .null]))] sz) := by
  refine Met.ofW (cc := cX6_init) (maxL := 5) (ret := none) (by decide) rfl ?_
  intro p e s m args below meth c s₁ B hml hv
  obtain ⟨rfl, ⟨hsz, hP, hK, hN⟩, hD0⟩ := hv
  have hx := B.exec
  have hb := B.bytes
  have hr := B.returns
  have hts := atoms_spec (ws := wsX6_init) B.pre
  have hown : s.vm.findClass RX6 = some m.cls := findClass_of_methodNamed B.named
  have hlocks := B.notSynchronized
  have hin : meth.name = "<init>" := (name_of_methodNamed B.named B.method).1
  have k_1 := hts (.methodLink RX6 3 objectInit) (by decide +kernel)
  have k_2 := hts (.instanceMethod objectInit) (by decide +kernel)
  have k_3 := hts (.code objectInit ⟨#[0xb1]⟩ 1 none) (by decide +kernel)
  have k_4 := hts (.fieldLink RX6 9 "FlowJudge$Steps" "types" "LFlowJudge$Types;") (by decide +kernel)
  have k_5 := hts (.fieldLink RX6 15 "FlowJudge$Steps" "members" "LFlowJudge$Members;") (by decide +kernel)
  have k_6 := hts (.fieldLink RX6 19 "FlowJudge$Steps" "code" "LFlowJudge$Code;") (by decide +kernel)
  have k_7 := hts (.fieldLink RX6 23 "FlowJudge$Steps" "places" "LFlowJudge$Places;") (by decide +kernel)
  subst hsz
  have hD := hD0.self (sz := s.heap.size)
  generalize hAe : va_A [(h0, .inr (6, [.null, .null, .null, .null]))] s.heap.size = A at hD ⊢
  have hA : ∀ q : Nat, s.heap.size ≤ q → A q := fun q h => by rw [← hAe]; exact Or.inr h
  have hS : va_S A s.heap s.heap [] := va_S.rf
  have hP : va_P (dC, dI) vwCl [(h0, .inr (6, [.null, .null, .null, .null]))] s.heap := hP
  have hl := lv_entry ([.ref h0, .ref b0, .ref b1, .ref b2, .ref b3]) (n := 5) (Nat.le_of_ble_eq_true rfl)
  rw [lg_entry_eq]
  generalize (lg_sl ([.ref h0, .ref b0, .ref b1, .ref b2, .ref b3]) ++ List.replicate (5 - (lg_sl ([.ref h0, .ref b0, .ref b1, .ref b2, .ref b3])).length) Slot.unset).toArray = ls at hl ⊢
  have hl : lv_has ls 5 [(0, .ref h0), (1, .ref b0), (2, .ref b1), (3, .ref b2), (4, .ref b3)] := hl
  obtain ⟨H, hH⟩ : ∃ z, z = s.heap := ⟨_, rfl⟩
  refine x_here hH ?_
  have hP : va_P (dC, dI) vwCl [(h0, .inr (6, [.null, .null, .null, .null]))] H := by rw [hH]; exact hP
  have hS : va_S A s.heap H [] := by rw [hH]; exact va_S.rf
  clear hH
  refine lv_aload_n hx hb dX6_init_0 rfl (lv_at hl 0 rfl) ?_
  refine W.objInit hx hb hown k_1 k_2 k_3 rfl (by rw [hml]; exact hl.1) rfl dX6_init_1 (Nat.le_of_ble_eq_true rfl) (Nat.le_of_ble_eq_true rfl) ?_
  refine W.eq (g2 := F0 m 4 ls []) rfl ?_
  refine lv_aload_n hx hb dX6_init_4 rfl (lv_at hl 0 rfl) ?_
  refine lv_aload_n hx hb dX6_init_5 rfl (lv_at hl 1 rfl) ?_
  refine va_putF (D := (dC, dI)) (ci := 6) (v := .ref b0) (ty := .object "FlowJudge$Types") (C := RX6) (T := TX6) (N := 4) hx hb hts i_X6_init_X6 tyX6 tyX6_ok nmX6 hown hK hP hD hS 0 rfl rfl 0 (by decide) k_4 (fun _ h9 => h9) rfl hin rfl (by decide +kernel) rfl rfl (Nat.le_of_ble_eq_true rfl) dX6_init_6 (fun H locs hP hD hS => ?_)
  have hP : va_P (dC, dI) vwCl [(h0, .inr (6, [.ref b0, .null, .null, .null]))] H := hP
  have hD : va_D A [(h0, .inr (6, [.ref b0, .null, .null, .null]))] := hD
  refine lv_aload_n hx hb dX6_init_9 rfl (lv_at hl 0 rfl) ?_
  refine lv_aload_n hx hb dX6_init_10 rfl (lv_at hl 2 rfl) ?_
  refine va_putF (D := (dC, dI)) (ci := 6) (v := .ref b1) (ty := .object "FlowJudge$Members") (C := RX6) (T := TX6) (N := 4) hx hb hts i_X6_init_X6 tyX6 tyX6_ok nmX6 hown hK hP hD hS 0 rfl rfl 1 (by decide) k_5 (fun _ h9 => h9) rfl hin rfl (by decide +kernel) rfl rfl (Nat.le_of_ble_eq_true rfl) dX6_init_11 (fun H locs hP hD hS => ?_)
  have hP : va_P (dC, dI) vwCl [(h0, .inr (6, [.ref b0, .ref b1, .null, .null]))] H := hP
  have hD : va_D A [(h0, .inr (6, [.ref b0, .ref b1, .null, .null]))] := hD
  refine lv_aload_n hx hb dX6_init_14 rfl (lv_at hl 0 rfl) ?_
  refine lv_aload_n hx hb dX6_init_15 rfl (lv_at hl 3 rfl) ?_
  refine va_putF (D := (dC, dI)) (ci := 6) (v := .ref b2) (ty := .object "FlowJudge$Code") (C := RX6) (T := TX6) (N := 4) hx hb hts i_X6_init_X6 tyX6 tyX6_ok nmX6 hown hK hP hD hS 0 rfl rfl 2 (by decide) k_6 (fun _ h9 => h9) rfl hin rfl (by decide +kernel) rfl rfl (Nat.le_of_ble_eq_true rfl) dX6_init_16 (fun H locs hP hD hS => ?_)
  have hP : va_P (dC, dI) vwCl [(h0, .inr (6, [.ref b0, .ref b1, .ref b2, .null]))] H := hP
  have hD : va_D A [(h0, .inr (6, [.ref b0, .ref b1, .ref b2, .null]))] := hD
  refine lv_aload_n hx hb dX6_init_19 rfl (lv_at hl 0 rfl) ?_
  refine lv_aload hx hb dX6_init_20 (lv_at hl 4 rfl) ?_
  refine va_putF (D := (dC, dI)) (ci := 6) (v := .ref b3) (ty := .object "FlowJudge$Places") (C := RX6) (T := TX6) (N := 4) hx hb hts i_X6_init_X6 tyX6 tyX6_ok nmX6 hown hK hP hD hS 0 rfl rfl 3 (by decide) k_7 (fun _ h9 => h9) rfl hin rfl (by decide +kernel) rfl rfl (Nat.le_of_ble_eq_true rfl) dX6_init_22 (fun H locs hP hD hS => ?_)
  have hP : va_P (dC, dI) vwCl [(h0, .inr (6, [.ref b0, .ref b1, .ref b2, .ref b3]))] H := hP
  have hD : va_D A [(h0, .inr (6, [.ref b0, .ref b1, .ref b2, .ref b3]))] := hD
  have hP9 := hP.sub (ws' := [(h0, .inr (6, [.ref b0, .ref b1, .ref b2, .ref b3]))]) [0] rfl
  have hD9 := hD.sub (ws' := [(h0, .inr (6, [.ref b0, .ref b1, .ref b2, .ref b3]))]) [0] (by decide) rfl
  exact W.vret hx hb hr (fun t ht hW => ⟨⟨(), rfl, trivial, by rw [ht]; exact hP9, va_K.moved hW.alike hK, hD9⟩, hS.F ht⟩) hS.2.2 dX6_init_25

theorem i_X2_init_X2 : ∀ w ∈ wsX20, w ∈ wsX2_init := fun _ h => List.mem_cons_of_mem _ (List.mem_append_left _ (List.mem_append_left _ (List.mem_append_right _ h)))
theorem i_X2_init_X5 : ∀ w ∈ wsX50, w ∈ wsX2_init := fun _ h => List.mem_cons_of_mem _ (List.mem_append_left _ (List.mem_append_right _ h))
theorem i_X2_init_X6 : ∀ w ∈ wsX60, w ∈ wsX2_init := fun _ h => List.mem_cons_of_mem _ (List.mem_append_right _ h)
set_option maxHeartbeats 4000000 in
set_option maxRecDepth 100000 in
theorem c_X2_init (l : Launch) (dC : Nat → ClassId) (dI : Nat → Nat → Nat) (cyI cyZ cyJ : ClassId) (sz : Nat) (h0 : Nat) (b0 : Nat) (b1 : Nat) (b2 : Nat) (b3 : Nat) (b4 : Nat) : Met l yX2_init wsX2_init ({ frames := 2, cells := 3, slots := 414, locals := 36 }) (va_Pc [.ref h0, .ref b0, .ref b1, .ref b2, .ref b3, .ref b4] (x_PreD (dC, dI) (x_T cyI cyZ cyJ) [(h0, .inr (2, [.null, .null, .null, .null, .null, .null]))] sz)) (va_Qv (fun _ : Unit => True) (fun (_ : Unit) (t : State) => ∃ (h5 : Nat) (a1 : Nat) (h6 : Nat), va_P (dC, dI) vwCl [(h0, .inr (2, [.ref b0, .ref b2, .ref b3, .ref b4, .ref h5, .ref h6])), (h5, .inr (5, [.ref b0, .ref a1, .int 0, .int 0, .int 0, .int 0, .int 0, .int 0, .int 0, .int 0])), (a1, .inl (cyI, 400, .inl x_z0)), (h6, .inr (6, [.ref b0, .ref b1, .ref b2, .ref h5]))] t.heap ∧ va_K (dC, dI) vwCl (x_T cyI cyZ cyJ) t ∧ va_D (va_A [(h0, .inr (2, [.null, .null, .null, .null, .null, .null]))] sz) [(h0, .inr (2, [.ref b0, .ref b2, .ref b3, .ref b4, .ref h5, .ref h6])), (h5, .inr (5, [.ref b0, .ref a1, .int 0, .int 0, .int 0, .int 0, .int 0, .int 0, .int 0, .int 0])), (a1, .inl (cyI, 400, .inl x_z0)), (h6, .inr (6, [.ref b0, .ref b1, .ref b2, .ref h5]))]) (va_A [(h0, .inr (2, [.null, .null, .null, .null, .null, .null]))] sz)) 3 414 (va_A [(h0, .inr (2, [.null, .null, .null, .null, .null, .null]))] sz) := by
  refine Met.ofW (cc := cX2_init) (maxL := 6) (ret := none) (by decide) rfl ?_
  intro p e s m args below meth c s₁ B hml hv
  obtain ⟨rfl, ⟨hsz, hP, hK, hN⟩, hD0⟩ := hv
  have hx := B.exec
  have hb := B.bytes
  have hr := B.returns
  have hts := atoms_spec (ws := wsX2_init) B.pre
  have hown : s.vm.findClass RX2 = some m.cls := findClass_of_methodNamed B.named
  have hlocks := B.notSynchronized
  have hin : meth.name = "<init>" := (name_of_methodNamed B.named B.method).1
  have k_1 := hts (.methodLink RX2 3 objectInit) (by decide +kernel)
  have k_2 := hts (.instanceMethod objectInit) (by decide +kernel)
  have k_3 := hts (.code objectInit ⟨#[0xb1]⟩ 1 none) (by decide +kernel)
  have k_4 := hts (.fieldLink RX2 9 "FlowJudge$Flow" "types" "LFlowJudge$Types;") (by decide +kernel)
  have k_5 := hts (.fieldLink RX2 15 "FlowJudge$Flow" "code" "LFlowJudge$Code;") (by decide +kernel)
  have k_6 := hts (.fieldLink RX2 19 "FlowJudge$Flow" "contexts" "LFlowJudge$Contexts;") (by decide +kernel)
  have k_7 := hts (.fieldLink RX2 23 "FlowJudge$Flow" "frames" "LFlowJudge$Frames;") (by decide +kernel)
  have k_8 := hts (.classLink RX2 27 RX5) (by decide +kernel)
  have k_9 := hts (.instantiable RX5 10) (by decide +kernel)
  have k_10 := hts (.initialized RX5) (by decide +kernel)
  have k_11 := hts (.methodLink RX2 29 yX5_init) (by decide +kernel)
  have k_12 := hts (.instanceMethod yX5_init) (by decide +kernel)
  have k_13 := hts (.fieldLink RX2 32 "FlowJudge$Flow" "places" "LFlowJudge$Places;") (by decide +kernel)
  have k_14 := hts (.classLink RX2 36 RX6) (by decide +kernel)
  have k_15 := hts (.instantiable RX6 4) (by decide +kernel)
  have k_16 := hts (.initialized RX6) (by decide +kernel)
  have k_17 := hts (.methodLink RX2 38 yX6_init) (by decide +kernel)
  have k_18 := hts (.instanceMethod yX6_init) (by decide +kernel)
  have k_19 := hts (.fieldLink RX2 41 "FlowJudge$Flow" "steps" "LFlowJudge$Steps;") (by decide +kernel)
  subst hsz
  have hD := hD0.self (sz := s.heap.size)
  generalize hAe : va_A [(h0, .inr (2, [.null, .null, .null, .null, .null, .null]))] s.heap.size = A at hD ⊢
  have hA : ∀ q : Nat, s.heap.size ≤ q → A q := fun q h => by rw [← hAe]; exact Or.inr h
  have hS : va_S A s.heap s.heap [] := va_S.rf
  have hP : va_P (dC, dI) vwCl [(h0, .inr (2, [.null, .null, .null, .null, .null, .null]))] s.heap := hP
  have hl := lv_entry ([.ref h0, .ref b0, .ref b1, .ref b2, .ref b3, .ref b4]) (n := 6) (Nat.le_of_ble_eq_true rfl)
  rw [lg_entry_eq]
  generalize (lg_sl ([.ref h0, .ref b0, .ref b1, .ref b2, .ref b3, .ref b4]) ++ List.replicate (6 - (lg_sl ([.ref h0, .ref b0, .ref b1, .ref b2, .ref b3, .ref b4])).length) Slot.unset).toArray = ls at hl ⊢
  have hl : lv_has ls 6 [(0, .ref h0), (1, .ref b0), (2, .ref b1), (3, .ref b2), (4, .ref b3), (5, .ref b4)] := hl
  obtain ⟨H, hH⟩ : ∃ z, z = s.heap := ⟨_, rfl⟩
  refine x_here hH ?_
  have hP : va_P (dC, dI) vwCl [(h0, .inr (2, [.null, .null, .null, .null, .null, .null]))] H := by rw [hH]; exact hP
  have hS : va_S A s.heap H [] := by rw [hH]; exact va_S.rf
  clear hH
  refine lv_aload_n hx hb dX2_init_0 rfl (lv_at hl 0 rfl) ?_
  refine W.objInit hx hb hown k_1 k_2 k_3 rfl (by rw [hml]; exact hl.1) rfl dX2_init_1 (Nat.le_of_ble_eq_true rfl) (Nat.le_of_ble_eq_true rfl) ?_
  refine W.eq (g2 := F0 m 4 ls []) rfl ?_
  refine lv_aload_n hx hb dX2_init_4 rfl (lv_at hl 0 rfl) ?_
  refine lv_aload_n hx hb dX2_init_5 rfl (lv_at hl 1 rfl) ?_
  refine va_putF (D := (dC, dI)) (ci := 2) (v := .ref b0) (ty := .object "FlowJudge$Types") (C := RX2) (T := TX2) (N := 6) hx hb hts i_X2_init_X2 tyX2 tyX2_ok nmX2 hown hK hP hD hS 0 rfl rfl 0 (by decide) k_4 (fun _ h9 => h9) rfl hin rfl (by decide +kernel) rfl rfl (Nat.le_of_ble_eq_true rfl) dX2_init_6 (fun H locs hP hD hS => ?_)
  have hP : va_P (dC, dI) vwCl [(h0, .inr (2, [.ref b0, .null, .null, .null, .null, .null]))] H := hP
  have hD : va_D A [(h0, .inr (2, [.ref b0, .null, .null, .null, .null, .null]))] := hD
  refine lv_aload_n hx hb dX2_init_9 rfl (lv_at hl 0 rfl) ?_
  refine lv_aload_n hx hb dX2_init_10 rfl (lv_at hl 3 rfl) ?_
  refine va_putF (D := (dC, dI)) (ci := 2) (v := .ref b2) (ty := .object "FlowJudge$Code") (C := RX2) (T := TX2) (N := 6) hx hb hts i_X2_init_X2 tyX2 tyX2_ok nmX2 hown hK hP hD hS 0 rfl rfl 1 (by decide) k_5 (fun _ h9 => h9) rfl hin rfl (by decide +kernel) rfl rfl (Nat.le_of_ble_eq_true rfl) dX2_init_11 (fun H locs hP hD hS => ?_)
  have hP : va_P (dC, dI) vwCl [(h0, .inr (2, [.ref b0, .ref b2, .null, .null, .null, .null]))] H := hP
  have hD : va_D A [(h0, .inr (2, [.ref b0, .ref b2, .null, .null, .null, .null]))] := hD
  refine lv_aload_n hx hb dX2_init_14 rfl (lv_at hl 0 rfl) ?_
  refine lv_aload hx hb dX2_init_15 (lv_at hl 4 rfl) ?_
  refine va_putF (D := (dC, dI)) (ci := 2) (v := .ref b3) (ty := .object "FlowJudge$Contexts") (C := RX2) (T := TX2) (N := 6) hx hb hts i_X2_init_X2 tyX2 tyX2_ok nmX2 hown hK hP hD hS 0 rfl rfl 2 (by decide) k_6 (fun _ h9 => h9) rfl hin rfl (by decide +kernel) rfl rfl (Nat.le_of_ble_eq_true rfl) dX2_init_17 (fun H locs hP hD hS => ?_)
  have hP : va_P (dC, dI) vwCl [(h0, .inr (2, [.ref b0, .ref b2, .ref b3, .null, .null, .null]))] H := hP
  have hD : va_D A [(h0, .inr (2, [.ref b0, .ref b2, .ref b3, .null, .null, .null]))] := hD
  refine lv_aload_n hx hb dX2_init_20 rfl (lv_at hl 0 rfl) ?_
  refine lv_aload hx hb dX2_init_21 (lv_at hl 5 rfl) ?_
  refine va_putF (D := (dC, dI)) (ci := 2) (v := .ref b4) (ty := .object "FlowJudge$Frames") (C := RX2) (T := TX2) (N := 6) hx hb hts i_X2_init_X2 tyX2 tyX2_ok nmX2 hown hK hP hD hS 0 rfl rfl 3 (by decide) k_7 (fun _ h9 => h9) rfl hin rfl (by decide +kernel) rfl rfl (Nat.le_of_ble_eq_true rfl) dX2_init_23 (fun H locs hP hD hS => ?_)
  have hP : va_P (dC, dI) vwCl [(h0, .inr (2, [.ref b0, .ref b2, .ref b3, .ref b4, .null, .null]))] H := hP
  have hD : va_D A [(h0, .inr (2, [.ref b0, .ref b2, .ref b3, .ref b4, .null, .null]))] := hD
  refine lv_aload_n hx hb dX2_init_26 rfl (lv_at hl 0 rfl) ?_
  refine va_new (ci := 5) (fs := [.null, .null, .int 0, .int 0, .int 0, .int 0, .int 0, .int 0, .int 0, .int 0]) (C := RX5) (T := TX5) (N := 10) hx hb hts i_X2_init_X5 tyX5 tyX5_ok hown k_8 k_9 k_10 hK hP hD hS hA rfl (fun j hj => by match j, hj with | 0, _ => rfl | 1, _ => rfl | 2, _ => rfl | 3, _ => rfl | 4, _ => rfl | 5, _ => rfl | 6, _ => rfl | 7, _ => rfl | 8, _ => rfl | 9, _ => rfl | j + 10, h => omega) (Nat.le_of_ble_eq_true rfl) (Nat.le_of_ble_eq_true rfl) dX2_init_27 (fun q27_1 H hP hD hS => ?_)
  have hP : va_P (dC, dI) vwCl [(h0, .inr (2, [.ref b0, .ref b2, .ref b3, .ref b4, .null, .null])), (q27_1, .inr (5, [.null, .null, .int 0, .int 0, .int 0, .int 0, .int 0, .int 0, .int 0, .int 0]))] H := hP
  have hD : va_D A [(h0, .inr (2, [.ref b0, .ref b2, .ref b3, .ref b4, .null, .null])), (q27_1, .inr (5, [.null, .null, .int 0, .int 0, .int 0, .int 0, .int 0, .int 0, .int 0, .int 0]))] := hD
  refine W.widen (k := 1) (n := 10) (Nat.le_of_ble_eq_true rfl) (Nat.le_of_ble_eq_true rfl) ?_
  refine lv_dup hx hb dX2_init_30 rfl ?_
  refine lv_aload_n hx hb dX2_init_31 rfl (lv_at hl 1 rfl) ?_
  have hPc := hP.sub (ws' := [(q27_1, .inr (5, [.null, .null, .int 0, .int 0, .int 0, .int 0, .int 0, .int 0, .int 0, .int 0]))]) [1] rfl
  have hDc := hD.sub (ws' := [(q27_1, .inr (5, [.null, .null, .int 0, .int 0, .int 0, .int 0, .int 0, .int 0, .int 0, .int 0]))]) [1] (by decide) rfl
  have hFc := va_free (wc := [(q27_1, .inr (5, [.null, .null, .int 0, .int 0, .int 0, .int 0, .int 0, .int 0, .int 0, .int 0]))]) hD hS hA [1] rfl
  refine va_callv (va_runI (As := [.ref b0]) (rest := [.ref q27_1, .ref h0]) ⟨hx, hb, hml, hown, hts⟩ (c_X5_init l dC dI cyI cyZ cyJ H.size q27_1 b0) (cwI 1 hts gX2_init_X5_init rfl rfl rfl k_10 k_11 k_12 rfl (by decide +kernel) ⟨Nat.le_of_ble_eq_true rfl, Nat.le_of_ble_eq_true rfl⟩) (x_pSD hN hK hPc hDc) rfl rfl hl.1 rfl (lv_room (Nat.le_of_ble_eq_true rfl)) dX2_init_32 ⟨Nat.le_of_ble_eq_true rfl, Nat.le_of_ble_eq_true rfl⟩) hS (fun q _ h => hFc q h) hFc (fun u t H1 locs ht hvm hw hB hz1 hk1 hS => ?_)
  obtain ⟨a1_2, hP1, hK1, hD1⟩ := hB
  rw [ht] at hP1
  obtain ⟨hP, hD⟩ := va_join (wr := [(h0, .inr (2, [.ref b0, .ref b2, .ref b3, .ref b4, .null, .null]))]) (w1 := [(q27_1, .inr (5, [.ref b0, .ref a1_2, .int 0, .int 0, .int 0, .int 0, .int 0, .int 0, .int 0, .int 0])), (a1_2, .inl (cyI, 400, .inl x_z0))]) hP hD [1] [0] rfl rfl (by decide) (by decide) hk1 hFc hP1 hD1
  clear hz1 hk1 hPc hDc hFc hP1 hK1 hD1 ht hvm t u
  generalize H1 = H at hP hS ⊢
  have hP : va_P (dC, dI) vwCl [(h0, .inr (2, [.ref b0, .ref b2, .ref b3, .ref b4, .null, .null])), (q27_1, .inr (5, [.ref b0, .ref a1_2, .int 0, .int 0, .int 0, .int 0, .int 0, .int 0, .int 0, .int 0])), (a1_2, .inl (cyI, 400, .inl x_z0))] H := hP
  have hD : va_D A [(h0, .inr (2, [.ref b0, .ref b2, .ref b3, .ref b4, .null, .null])), (q27_1, .inr (5, [.ref b0, .ref a1_2, .int 0, .int 0, .int 0, .int 0, .int 0, .int 0, .int 0, .int 0])), (a1_2, .inl (cyI, 400, .inl x_z0))] := hD
  refine W.widen (k := 2) (n := 410) (Nat.le_of_ble_eq_true rfl) (Nat.le_of_ble_eq_true rfl) ?_
  refine va_putF (D := (dC, dI)) (ci := 2) (v := .ref q27_1) (ty := .object "FlowJudge$Places") (C := RX2) (T := TX2) (N := 6) hx hb hts i_X2_init_X2 tyX2 tyX2_ok nmX2 hown hK hP hD hS 0 rfl rfl 4 (by decide) k_13 (fun _ h9 => h9) rfl hin rfl (by decide +kernel) rfl rfl (Nat.le_of_ble_eq_true rfl) dX2_init_35 (fun H locs hP hD hS => ?_)
  have hP : va_P (dC, dI) vwCl [(h0, .inr (2, [.ref b0, .ref b2, .ref b3, .ref b4, .ref q27_1, .null])), (q27_1, .inr (5, [.ref b0, .ref a1_2, .int 0, .int 0, .int 0, .int 0, .int 0, .int 0, .int 0, .int 0])), (a1_2, .inl (cyI, 400, .inl x_z0))] H := hP
  have hD : va_D A [(h0, .inr (2, [.ref b0, .ref b2, .ref b3, .ref b4, .ref q27_1, .null])), (q27_1, .inr (5, [.ref b0, .ref a1_2, .int 0, .int 0, .int 0, .int 0, .int 0, .int 0, .int 0, .int 0])), (a1_2, .inl (cyI, 400, .inl x_z0))] := hD
  refine lv_aload_n hx hb dX2_init_38 rfl (lv_at hl 0 rfl) ?_
  refine va_new (ci := 6) (fs := [.null, .null, .null, .null]) (C := RX6) (T := TX6) (N := 4) hx hb hts i_X2_init_X6 tyX6 tyX6_ok hown k_14 k_15 k_16 hK hP hD hS hA rfl (fun j hj => by match j, hj with | 0, _ => rfl | 1, _ => rfl | 2, _ => rfl | 3, _ => rfl | j + 4, h => omega) (Nat.le_of_ble_eq_true rfl) (Nat.le_of_ble_eq_true rfl) dX2_init_39 (fun q39_3 H hP hD hS => ?_)
  have hP : va_P (dC, dI) vwCl [(h0, .inr (2, [.ref b0, .ref b2, .ref b3, .ref b4, .ref q27_1, .null])), (q27_1, .inr (5, [.ref b0, .ref a1_2, .int 0, .int 0, .int 0, .int 0, .int 0, .int 0, .int 0, .int 0])), (a1_2, .inl (cyI, 400, .inl x_z0)), (q39_3, .inr (6, [.null, .null, .null, .null]))] H := hP
  have hD : va_D A [(h0, .inr (2, [.ref b0, .ref b2, .ref b3, .ref b4, .ref q27_1, .null])), (q27_1, .inr (5, [.ref b0, .ref a1_2, .int 0, .int 0, .int 0, .int 0, .int 0, .int 0, .int 0, .int 0])), (a1_2, .inl (cyI, 400, .inl x_z0)), (q39_3, .inr (6, [.null, .null, .null, .null]))] := hD
  refine W.widen (k := 3) (n := 414) (Nat.le_of_ble_eq_true rfl) (Nat.le_of_ble_eq_true rfl) ?_
  refine lv_dup hx hb dX2_init_42 rfl ?_
  refine lv_aload_n hx hb dX2_init_43 rfl (lv_at hl 1 rfl) ?_
  refine lv_aload_n hx hb dX2_init_44 rfl (lv_at hl 2 rfl) ?_
  refine lv_aload_n hx hb dX2_init_45 rfl (lv_at hl 3 rfl) ?_
  refine lv_aload_n hx hb dX2_init_46 rfl (lv_at hl 0 rfl) ?_
  refine va_get (D := (dC, dI)) (ci := 2) (v := .ref q27_1) (C := RX2) (T := TX2) (N := 6) hx hb hts i_X2_init_X2 hown hK hP 0 rfl rfl 4 (by decide) k_13 (fun _ h9 => h9) rfl dX2_init_47 ?_
  have hPc := hP.sub (ws' := [(q39_3, .inr (6, [.null, .null, .null, .null]))]) [3] rfl
  have hDc := hD.sub (ws' := [(q39_3, .inr (6, [.null, .null, .null, .null]))]) [3] (by decide) rfl
  have hFc := va_free (wc := [(q39_3, .inr (6, [.null, .null, .null, .null]))]) hD hS hA [3] rfl
  refine va_callv (va_runI (As := [.ref b0, .ref b1, .ref b2, .ref q27_1]) (rest := [.ref q39_3, .ref h0]) ⟨hx, hb, hml, hown, hts⟩ (c_X6_init l dC dI cyI cyZ cyJ H.size q39_3 b0 b1 b2 q27_1) (cwI 4 hts gX2_init_X6_init rfl rfl rfl k_16 k_17 k_18 rfl (by decide +kernel) ⟨Nat.le_of_ble_eq_true rfl, Nat.le_of_ble_eq_true rfl⟩) (x_pSD hN hK hPc hDc) rfl rfl hl.1 rfl (lv_room (Nat.le_of_ble_eq_true rfl)) dX2_init_50 ⟨Nat.le_of_ble_eq_true rfl, Nat.le_of_ble_eq_true rfl⟩) hS (fun q _ h => hFc q h) hFc (fun u t H1 locs ht hvm hw hB hz1 hk1 hS => ?_)
  obtain ⟨hP1, hK1, hD1⟩ := hB
  rw [ht] at hP1
  obtain ⟨hP, hD⟩ := va_join (wr := [(h0, .inr (2, [.ref b0, .ref b2, .ref b3, .ref b4, .ref q27_1, .null])), (q27_1, .inr (5, [.ref b0, .ref a1_2, .int 0, .int 0, .int 0, .int 0, .int 0, .int 0, .int 0, .int 0])), (a1_2, .inl (cyI, 400, .inl x_z0))]) (w1 := [(q39_3, .inr (6, [.ref b0, .ref b1, .ref b2, .ref q27_1]))]) hP hD [3] [0, 1, 2] rfl rfl (by decide) (by decide) hk1 hFc hP1 hD1
  clear hz1 hk1 hPc hDc hFc hP1 hK1 hD1 ht hvm t u
  generalize H1 = H at hP hS ⊢
  have hP : va_P (dC, dI) vwCl [(h0, .inr (2, [.ref b0, .ref b2, .ref b3, .ref b4, .ref q27_1, .null])), (q27_1, .inr (5, [.ref b0, .ref a1_2, .int 0, .int 0, .int 0, .int 0, .int 0, .int 0, .int 0, .int 0])), (a1_2, .inl (cyI, 400, .inl x_z0)), (q39_3, .inr (6, [.ref b0, .ref b1, .ref b2, .ref q27_1]))] H := hP
  have hD : va_D A [(h0, .inr (2, [.ref b0, .ref b2, .ref b3, .ref b4, .ref q27_1, .null])), (q27_1, .inr (5, [.ref b0, .ref a1_2, .int 0, .int 0, .int 0, .int 0, .int 0, .int 0, .int 0, .int 0])), (a1_2, .inl (cyI, 400, .inl x_z0)), (q39_3, .inr (6, [.ref b0, .ref b1, .ref b2, .ref q27_1]))] := hD
  refine va_putF (D := (dC, dI)) (ci := 2) (v := .ref q39_3) (ty := .object "FlowJudge$Steps") (C := RX2) (T := TX2) (N := 6) hx hb hts i_X2_init_X2 tyX2 tyX2_ok nmX2 hown hK hP hD hS 0 rfl rfl 5 (by decide) k_19 (fun _ h9 => h9) rfl hin rfl (by decide +kernel) rfl rfl (Nat.le_of_ble_eq_true rfl) dX2_init_53 (fun H locs hP hD hS => ?_)
  have hP : va_P (dC, dI) vwCl [(h0, .inr (2, [.ref b0, .ref b2, .ref b3, .ref b4, .ref q27_1, .ref q39_3])), (q27_1, .inr (5, [.ref b0, .ref a1_2, .int 0, .int 0, .int 0, .int 0, .int 0, .int 0, .int 0, .int 0])), (a1_2, .inl (cyI, 400, .inl x_z0)), (q39_3, .inr (6, [.ref b0, .ref b1, .ref b2, .ref q27_1]))] H := hP
  have hD : va_D A [(h0, .inr (2, [.ref b0, .ref b2, .ref b3, .ref b4, .ref q27_1, .ref q39_3])), (q27_1, .inr (5, [.ref b0, .ref a1_2, .int 0, .int 0, .int 0, .int 0, .int 0, .int 0, .int 0, .int 0])), (a1_2, .inl (cyI, 400, .inl x_z0)), (q39_3, .inr (6, [.ref b0, .ref b1, .ref b2, .ref q27_1]))] := hD
  have hP9 := hP.sub (ws' := [(h0, .inr (2, [.ref b0, .ref b2, .ref b3, .ref b4, .ref q27_1, .ref q39_3])), (q27_1, .inr (5, [.ref b0, .ref a1_2, .int 0, .int 0, .int 0, .int 0, .int 0, .int 0, .int 0, .int 0])), (a1_2, .inl (cyI, 400, .inl x_z0)), (q39_3, .inr (6, [.ref b0, .ref b1, .ref b2, .ref q27_1]))]) [0, 1, 2, 3] rfl
  have hD9 := hD.sub (ws' := [(h0, .inr (2, [.ref b0, .ref b2, .ref b3, .ref b4, .ref q27_1, .ref q39_3])), (q27_1, .inr (5, [.ref b0, .ref a1_2, .int 0, .int 0, .int 0, .int 0, .int 0, .int 0, .int 0, .int 0])), (a1_2, .inl (cyI, 400, .inl x_z0)), (q39_3, .inr (6, [.ref b0, .ref b1, .ref b2, .ref q27_1]))]) [0, 1, 2, 3] (by decide) rfl
  exact W.vret hx hb hr (fun t ht hW => ⟨⟨(), rfl, trivial, q27_1, a1_2, q39_3, by rw [ht]; exact hP9, va_K.moved hW.alike hK, hD9⟩, hS.F ht⟩) hS.2.2 dX2_init_56
