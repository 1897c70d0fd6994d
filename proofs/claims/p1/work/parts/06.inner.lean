theorem i_X4_enterField_X4 : ∀ w ∈ wsX40, w ∈ wsX4_enterField := by decide +kernel
set_option maxHeartbeats 4000000 in
set_option maxRecDepth 100000 in
theorem c_X4_enterField (l : Launch) (dC : Nat → ClassId) (dI : Nat → Nat → Nat) (cyI cyZ cyJ : ClassId) (sz : Nat) (h0 : Nat) (a0 : Nat) (a1 : Nat) (a3 : Nat) (a4 : Nat) (a5 : Nat) (a6 : Nat) (a7 : Nat) (g0 : Nat → Int32) (g1 : Nat → Int32) (p0 : Int32) (p1 : Int32) : Met l yX4_enterField wsX4_enterField ({ frames := 0, cells := 0, slots := 0, locals := 0 }) (va_Pc [.ref h0, .int p0, .int p1] (x_PreD (dC, dI) (x_T cyI cyZ cyJ) [(h0, .inr (4, [.ref a0, .ref a1, .int 0, .ref a3, .ref a4, .ref a5, .ref a6, .ref a7, .int 0])), (a0, .inl (cyI, 100, .inl g0)), (a1, .inl (cyI, 100, .inl g1))] sz)) (va_Qi (fun (r : Int32) (_ : Unit) => r = 0) (fun _ _ => True) (va_A [(h0, .inr (4, [.ref a0, .ref a1, .int 0, .ref a3, .ref a4, .ref a5, .ref a6, .ref a7, .int 0])), (a0, .inl (cyI, 100, .inl g0)), (a1, .inl (cyI, 100, .inl g1))] sz)) 0 0 (va_A [(h0, .inr (4, [.ref a0, .ref a1, .int 0, .ref a3, .ref a4, .ref a5, .ref a6, .ref a7, .int 0])), (a0, .inl (cyI, 100, .inl g0)), (a1, .inl (cyI, 100, .inl g1))] sz) := by
  refine Met.ofW (cc := cX4_enterField) (maxL := 3) (ret := (some .int)) (by decide) rfl ?_
  intro p e s m args below meth c s₁ B hml hv
  obtain ⟨rfl, ⟨hsz, hP, hK, hN⟩, hD0⟩ := hv
  have hx := B.exec
  have hb := B.bytes
  have hr := B.returns
  have hts := atoms_spec (ws := wsX4_enterField) B.pre
  have hown : s.vm.findClass RX4 = some m.cls := findClass_of_methodNamed B.named
  have hlocks := B.notSynchronized
  have k_1 := hts (.fieldLink RX4 9 "FlowJudge$Members" "fieldClasses" "[I") (by decide +kernel)
  have k_2 := hts (.fieldLink RX4 34 "FlowJudge$Members" "fieldCount" "I") (by decide +kernel)
  have k_3 := hts (.fieldLink RX4 15 "FlowJudge$Members" "fieldTypes" "[I") (by decide +kernel)
  subst hsz
  have hD := hD0.self (sz := s.heap.size)
  generalize hAe : va_A [(h0, .inr (4, [.ref a0, .ref a1, .int 0, .ref a3, .ref a4, .ref a5, .ref a6, .ref a7, .int 0])), (a0, .inl (cyI, 100, .inl g0)), (a1, .inl (cyI, 100, .inl g1))] s.heap.size = A at hD ⊢
  have hA : ∀ q : Nat, s.heap.size ≤ q → A q := fun q h => by rw [← hAe]; exact Or.inr h
  have hS : va_S A s.heap s.heap [] := va_S.rf
  have hP : va_P (dC, dI) vwCl [(h0, .inr (4, [.ref a0, .ref a1, .int 0, .ref a3, .ref a4, .ref a5, .ref a6, .ref a7, .int 0])), (a0, .inl (cyI, 100, .inl g0)), (a1, .inl (cyI, 100, .inl g1))] s.heap := hP
  have hl := lv_entry ([.ref h0, .int p0, .int p1]) (n := 3) (Nat.le_of_ble_eq_true rfl)
  rw [lg_entry_eq]
  generalize (lg_sl ([.ref h0, .int p0, .int p1]) ++ List.replicate (3 - (lg_sl ([.ref h0, .int p0, .int p1])).length) Slot.unset).toArray = ls at hl ⊢
  have hl : lv_has ls 3 [(0, .ref h0), (1, .int p0), (2, .int p1)] := hl
  obtain ⟨H, hH⟩ : ∃ z, z = s.heap := ⟨_, rfl⟩
  refine x_here hH ?_
  have hP : va_P (dC, dI) vwCl [(h0, .inr (4, [.ref a0, .ref a1, .int 0, .ref a3, .ref a4, .ref a5, .ref a6, .ref a7, .int 0])), (a0, .inl (cyI, 100, .inl g0)), (a1, .inl (cyI, 100, .inl g1))] H := by rw [hH]; exact hP
  have hS : va_S A s.heap H [] := by rw [hH]; exact va_S.rf
  clear hH
  refine lv_aload_n hx hb dX4_enterField_0 rfl (lv_at hl 0 rfl) ?_
  refine va_get (D := (dC, dI)) (ci := 4) (v := .ref a0) (C := RX4) (T := TX4) (N := 9) hx hb hts i_X4_enterField_X4 hown hK hP 0 rfl rfl 0 (by decide) k_1 (fun _ h9 => h9) rfl dX4_enterField_1 ?_
  refine lv_aload_n hx hb dX4_enterField_4 rfl (lv_at hl 0 rfl) ?_
  refine va_get (D := (dC, dI)) (ci := 4) (v := .int 0) (C := RX4) (T := TX4) (N := 9) hx hb hts i_X4_enterField_X4 hown hK hP 0 rfl rfl 2 (by decide) k_2 (fun _ h9 => h9) rfl dX4_enterField_5 ?_
  refine lv_iload_n hx hb dX4_enterField_8 rfl (lv_at hl 1 rfl) ?_
  refine va_iast hx hb hK hP hD hS 1 0 rfl rfl (x_lit _ _ (by decide)) dX4_enterField_9 (fun H locs hP hD hS => ?_)
  have hP : va_P (dC, dI) vwCl [(h0, .inr (4, [.ref a0, .ref a1, .int 0, .ref a3, .ref a4, .ref a5, .ref a6, .ref a7, .int 0])), (a0, .inl (cyI, 100, .inl (upd g0 (Int32.toNatClampNeg 0) p0))), (a1, .inl (cyI, 100, .inl g1))] H := hP
  have hD : va_D A [(h0, .inr (4, [.ref a0, .ref a1, .int 0, .ref a3, .ref a4, .ref a5, .ref a6, .ref a7, .int 0])), (a0, .inl (cyI, 100, .inl (upd g0 (Int32.toNatClampNeg 0) p0))), (a1, .inl (cyI, 100, .inl g1))] := hD
  refine lv_aload_n hx hb dX4_enterField_10 rfl (lv_at hl 0 rfl) ?_
  refine va_get (D := (dC, dI)) (ci := 4) (v := .ref a1) (C := RX4) (T := TX4) (N := 9) hx hb hts i_X4_enterField_X4 hown hK hP 0 rfl rfl 1 (by decide) k_3 (fun _ h9 => h9) rfl dX4_enterField_11 ?_
  refine lv_aload_n hx hb dX4_enterField_14 rfl (lv_at hl 0 rfl) ?_
  refine va_get (D := (dC, dI)) (ci := 4) (v := .int 0) (C := RX4) (T := TX4) (N := 9) hx hb hts i_X4_enterField_X4 hown hK hP 0 rfl rfl 2 (by decide) k_2 (fun _ h9 => h9) rfl dX4_enterField_15 ?_
  refine lv_iload_n hx hb dX4_enterField_18 rfl (lv_at hl 2 rfl) ?_
  refine va_iast hx hb hK hP hD hS 2 0 rfl rfl (x_lit _ _ (by decide)) dX4_enterField_19 (fun H locs hP hD hS => ?_)
  have hP : va_P (dC, dI) vwCl [(h0, .inr (4, [.ref a0, .ref a1, .int 0, .ref a3, .ref a4, .ref a5, .ref a6, .ref a7, .int 0])), (a0, .inl (cyI, 100, .inl (upd g0 (Int32.toNatClampNeg 0) p0))), (a1, .inl (cyI, 100, .inl (upd g1 (Int32.toNatClampNeg 0) p1)))] H := hP
  have hD : va_D A [(h0, .inr (4, [.ref a0, .ref a1, .int 0, .ref a3, .ref a4, .ref a5, .ref a6, .ref a7, .int 0])), (a0, .inl (cyI, 100, .inl (upd g0 (Int32.toNatClampNeg 0) p0))), (a1, .inl (cyI, 100, .inl (upd g1 (Int32.toNatClampNeg 0) p1)))] := hD
  refine lv_aload_n hx hb dX4_enterField_20 rfl (lv_at hl 0 rfl) ?_
  refine lv_dup hx hb dX4_enterField_21 rfl ?_
  refine va_get (D := (dC, dI)) (ci := 4) (v := .int 0) (C := RX4) (T := TX4) (N := 9) hx hb hts i_X4_enterField_X4 hown hK hP 0 rfl rfl 2 (by decide) k_2 (fun _ h9 => h9) rfl dX4_enterField_22 ?_
  refine lv_dup_x1 hx hb dX4_enterField_25 rfl rfl ?_
  refine lv_iconst (v := 1) hx hb dX4_enterField_26 (by decide) ?_
  refine lv_iadd hx hb dX4_enterField_27 ?_
  refine lv_topi (fun z_1 ez_1 => ?_)
  obtain rfl : z_1 = 1 := ez_1.trans (by decide)
  refine va_put (D := (dC, dI)) (ci := 4) (v := .int 1) (ty := .int) (C := RX4) (T := TX4) (N := 9) hx hb hts i_X4_enterField_X4 tyX4 tyX4_ok nmX4 hown hK hP hD hS 0 rfl rfl 2 (by decide) k_2 (fun _ h9 => h9) rfl (by decide +kernel) rfl rfl (Nat.le_of_ble_eq_true rfl) dX4_enterField_28 (fun H locs hP hD hS => ?_)
  have hP : va_P (dC, dI) vwCl [(h0, .inr (4, [.ref a0, .ref a1, .int 1, .ref a3, .ref a4, .ref a5, .ref a6, .ref a7, .int 0])), (a0, .inl (cyI, 100, .inl (upd g0 (Int32.toNatClampNeg 0) p0))), (a1, .inl (cyI, 100, .inl (upd g1 (Int32.toNatClampNeg 0) p1)))] H := hP
  have hD : va_D A [(h0, .inr (4, [.ref a0, .ref a1, .int 1, .ref a3, .ref a4, .ref a5, .ref a6, .ref a7, .int 0])), (a0, .inl (cyI, 100, .inl (upd g0 (Int32.toNatClampNeg 0) p0))), (a1, .inl (cyI, 100, .inl (upd g1 (Int32.toNatClampNeg 0) p1)))] := hD
  exact W.iret hx hb hr (fun t ht hW => ⟨⟨_, (), rfl, rfl, trivial⟩, hS.F ht⟩) hS.2.2 dX4_enterField_31

theorem i_X4_enterShape_X4 : ∀ w ∈ wsX40, w ∈ wsX4_enterShape := by decide +kernel
set_option maxHeartbeats 4000000 in
set_option maxRecDepth 100000 in
theorem c_X4_enterShape (l : Launch) (dC : Nat → ClassId) (dI : Nat → Nat → Nat) (cyI cyZ cyJ : ClassId) (sz : Nat) (h0 : Nat) (a0 : Nat) (a1 : Nat) (a3 : Nat) (a4 : Nat) (a5 : Nat) (a6 : Nat) (a7 : Nat) (g3 : Nat → Int32) (g4 : Nat → Int32) (g5 : Nat → Int32) (p0 : Int32) (p1 : Int32) (p2 : Int32) : Met l yX4_enterShape wsX4_enterShape ({ frames := 0, cells := 0, slots := 0, locals := 0 }) (va_Pc [.ref h0, .int p0, .int p1, .int p2] (x_PreD (dC, dI) (x_T cyI cyZ cyJ) [(h0, .inr (4, [.ref a0, .ref a1, .int 0, .ref a3, .ref a4, .ref a5, .ref a6, .ref a7, .int 0])), (a3, .inl (cyI, 100, .inl g3)), (a4, .inl (cyI, 100, .inl g4)), (a5, .inl (cyZ, 100, .inl g5))] sz)) (va_Qi (fun (r : Int32) (_ : Unit) => r = 0) (fun _ _ => True) (va_A [(h0, .inr (4, [.ref a0, .ref a1, .int 0, .ref a3, .ref a4, .ref a5, .ref a6, .ref a7, .int 0])), (a3, .inl (cyI, 100, .inl g3)), (a4, .inl (cyI, 100, .inl g4)), (a5, .inl (cyZ, 100, .inl g5))] sz)) 0 0 (va_A [(h0, .inr (4, [.ref a0, .ref a1, .int 0, .ref a3, .ref a4, .ref a5, .ref a6, .ref a7, .int 0])), (a3, .inl (cyI, 100, .inl g3)), (a4, .inl (cyI, 100, .inl g4)), (a5, .inl (cyZ, 100, .inl g5))] sz) := by
  refine Met.ofW (cc := cX4_enterShape) (maxL := 4) (ret := (some .int)) (by decide) rfl ?_
  intro p e s m args below meth c s₁ B hml hv
  obtain ⟨rfl, ⟨hsz, hP, hK, hN⟩, hD0⟩ := hv
  have hx := B.exec
  have hb := B.bytes
  have hr := B.returns
  have hts := atoms_spec (ws := wsX4_enterShape) B.pre
  have hown : s.vm.findClass RX4 = some m.cls := findClass_of_methodNamed B.named
  have hlocks := B.notSynchronized
  have k_1 := hts (.fieldLink RX4 18 "FlowJudge$Members" "shapeClasses" "[I") (by decide +kernel)
  have k_2 := hts (.fieldLink RX4 38 "FlowJudge$Members" "shapeCount" "I") (by decide +kernel)
  have k_3 := hts (.fieldLink RX4 21 "FlowJudge$Members" "shapeResults" "[I") (by decide +kernel)
  have k_4 := hts (.fieldLink RX4 24 "FlowJudge$Members" "isConstructor" "[Z") (by decide +kernel)
  subst hsz
  have hD := hD0.self (sz := s.heap.size)
  generalize hAe : va_A [(h0, .inr (4, [.ref a0, .ref a1, .int 0, .ref a3, .ref a4, .ref a5, .ref a6, .ref a7, .int 0])), (a3, .inl (cyI, 100, .inl g3)), (a4, .inl (cyI, 100, .inl g4)), (a5, .inl (cyZ, 100, .inl g5))] s.heap.size = A at hD ⊢
  have hA : ∀ q : Nat, s.heap.size ≤ q → A q := fun q h => by rw [← hAe]; exact Or.inr h
  have hS : va_S A s.heap s.heap [] := va_S.rf
  have hP : va_P (dC, dI) vwCl [(h0, .inr (4, [.ref a0, .ref a1, .int 0, .ref a3, .ref a4, .ref a5, .ref a6, .ref a7, .int 0])), (a3, .inl (cyI, 100, .inl g3)), (a4, .inl (cyI, 100, .inl g4)), (a5, .inl (cyZ, 100, .inl g5))] s.heap := hP
  have hl := lv_entry ([.ref h0, .int p0, .int p1, .int p2]) (n := 4) (Nat.le_of_ble_eq_true rfl)
  rw [lg_entry_eq]
  generalize (lg_sl ([.ref h0, .int p0, .int p1, .int p2]) ++ List.replicate (4 - (lg_sl ([.ref h0, .int p0, .int p1, .int p2])).length) Slot.unset).toArray = ls at hl ⊢
  have hl : lv_has ls 4 [(0, .ref h0), (1, .int p0), (2, .int p1), (3, .int p2)] := hl
  obtain ⟨H, hH⟩ : ∃ z, z = s.heap := ⟨_, rfl⟩
  refine x_here hH ?_
  have hP : va_P (dC, dI) vwCl [(h0, .inr (4, [.ref a0, .ref a1, .int 0, .ref a3, .ref a4, .ref a5, .ref a6, .ref a7, .int 0])), (a3, .inl (cyI, 100, .inl g3)), (a4, .inl (cyI, 100, .inl g4)), (a5, .inl (cyZ, 100, .inl g5))] H := by rw [hH]; exact hP
  have hS : va_S A s.heap H [] := by rw [hH]; exact va_S.rf
  clear hH
  refine lv_aload_n hx hb dX4_enterShape_0 rfl (lv_at hl 0 rfl) ?_
  refine va_get (D := (dC, dI)) (ci := 4) (v := .ref a3) (C := RX4) (T := TX4) (N := 9) hx hb hts i_X4_enterShape_X4 hown hK hP 0 rfl rfl 3 (by decide) k_1 (fun _ h9 => h9) rfl dX4_enterShape_1 ?_
  refine lv_aload_n hx hb dX4_enterShape_4 rfl (lv_at hl 0 rfl) ?_
  refine va_get (D := (dC, dI)) (ci := 4) (v := .int 0) (C := RX4) (T := TX4) (N := 9) hx hb hts i_X4_enterShape_X4 hown hK hP 0 rfl rfl 8 (by decide) k_2 (fun _ h9 => h9) rfl dX4_enterShape_5 ?_
  refine lv_iload_n hx hb dX4_enterShape_8 rfl (lv_at hl 1 rfl) ?_
  refine va_iast hx hb hK hP hD hS 1 0 rfl rfl (x_lit _ _ (by decide)) dX4_enterShape_9 (fun H locs hP hD hS => ?_)
  have hP : va_P (dC, dI) vwCl [(h0, .inr (4, [.ref a0, .ref a1, .int 0, .ref a3, .ref a4, .ref a5, .ref a6, .ref a7, .int 0])), (a3, .inl (cyI, 100, .inl (upd g3 (Int32.toNatClampNeg 0) p0))), (a4, .inl (cyI, 100, .inl g4)), (a5, .inl (cyZ, 100, .inl g5))] H := hP
  have hD : va_D A [(h0, .inr (4, [.ref a0, .ref a1, .int 0, .ref a3, .ref a4, .ref a5, .ref a6, .ref a7, .int 0])), (a3, .inl (cyI, 100, .inl (upd g3 (Int32.toNatClampNeg 0) p0))), (a4, .inl (cyI, 100, .inl g4)), (a5, .inl (cyZ, 100, .inl g5))] := hD
  refine lv_aload_n hx hb dX4_enterShape_10 rfl (lv_at hl 0 rfl) ?_
  refine va_get (D := (dC, dI)) (ci := 4) (v := .ref a4) (C := RX4) (T := TX4) (N := 9) hx hb hts i_X4_enterShape_X4 hown hK hP 0 rfl rfl 4 (by decide) k_3 (fun _ h9 => h9) rfl dX4_enterShape_11 ?_
  refine lv_aload_n hx hb dX4_enterShape_14 rfl (lv_at hl 0 rfl) ?_
  refine va_get (D := (dC, dI)) (ci := 4) (v := .int 0) (C := RX4) (T := TX4) (N := 9) hx hb hts i_X4_enterShape_X4 hown hK hP 0 rfl rfl 8 (by decide) k_2 (fun _ h9 => h9) rfl dX4_enterShape_15 ?_
  refine lv_iload_n hx hb dX4_enterShape_18 rfl (lv_at hl 2 rfl) ?_
  refine va_iast hx hb hK hP hD hS 2 0 rfl rfl (x_lit _ _ (by decide)) dX4_enterShape_19 (fun H locs hP hD hS => ?_)
  have hP : va_P (dC, dI) vwCl [(h0, .inr (4, [.ref a0, .ref a1, .int 0, .ref a3, .ref a4, .ref a5, .ref a6, .ref a7, .int 0])), (a3, .inl (cyI, 100, .inl (upd g3 (Int32.toNatClampNeg 0) p0))), (a4, .inl (cyI, 100, .inl (upd g4 (Int32.toNatClampNeg 0) p1))), (a5, .inl (cyZ, 100, .inl g5))] H := hP
  have hD : va_D A [(h0, .inr (4, [.ref a0, .ref a1, .int 0, .ref a3, .ref a4, .ref a5, .ref a6, .ref a7, .int 0])), (a3, .inl (cyI, 100, .inl (upd g3 (Int32.toNatClampNeg 0) p0))), (a4, .inl (cyI, 100, .inl (upd g4 (Int32.toNatClampNeg 0) p1))), (a5, .inl (cyZ, 100, .inl g5))] := hD
  refine lv_aload_n hx hb dX4_enterShape_20 rfl (lv_at hl 0 rfl) ?_
  refine va_get (D := (dC, dI)) (ci := 4) (v := .ref a5) (C := RX4) (T := TX4) (N := 9) hx hb hts i_X4_enterShape_X4 hown hK hP 0 rfl rfl 5 (by decide) k_4 (fun _ h9 => h9) rfl dX4_enterShape_21 ?_
  refine lv_aload_n hx hb dX4_enterShape_24 rfl (lv_at hl 0 rfl) ?_
  refine va_get (D := (dC, dI)) (ci := 4) (v := .int 0) (C := RX4) (T := TX4) (N := 9) hx hb hts i_X4_enterShape_X4 hown hK hP 0 rfl rfl 8 (by decide) k_2 (fun _ h9 => h9) rfl dX4_enterShape_25 ?_
  refine lv_iload_n hx hb dX4_enterShape_28 rfl (lv_at hl 3 rfl) ?_
  refine va_zast hx hb hK hP hD hS 3 1 rfl rfl (x_lit _ _ (by decide)) dX4_enterShape_29 (fun H locs hP hD hS => ?_)
  have hP : va_P (dC, dI) vwCl [(h0, .inr (4, [.ref a0, .ref a1, .int 0, .ref a3, .ref a4, .ref a5, .ref a6, .ref a7, .int 0])), (a3, .inl (cyI, 100, .inl (upd g3 (Int32.toNatClampNeg 0) p0))), (a4, .inl (cyI, 100, .inl (upd g4 (Int32.toNatClampNeg 0) p1))), (a5, .inl (cyZ, 100, .inl (upd g5 (Int32.toNatClampNeg 0) (vp_nar .boolean p2))))] H := hP
  have hD : va_D A [(h0, .inr (4, [.ref a0, .ref a1, .int 0, .ref a3, .ref a4, .ref a5, .ref a6, .ref a7, .int 0])), (a3, .inl (cyI, 100, .inl (upd g3 (Int32.toNatClampNeg 0) p0))), (a4, .inl (cyI, 100, .inl (upd g4 (Int32.toNatClampNeg 0) p1))), (a5, .inl (cyZ, 100, .inl (upd g5 (Int32.toNatClampNeg 0) (vp_nar .boolean p2))))] := hD
  refine lv_aload_n hx hb dX4_enterShape_30 rfl (lv_at hl 0 rfl) ?_
  refine lv_dup hx hb dX4_enterShape_31 rfl ?_
  refine va_get (D := (dC, dI)) (ci := 4) (v := .int 0) (C := RX4) (T := TX4) (N := 9) hx hb hts i_X4_enterShape_X4 hown hK hP 0 rfl rfl 8 (by decide) k_2 (fun _ h9 => h9) rfl dX4_enterShape_32 ?_
  refine lv_dup_x1 hx hb dX4_enterShape_35 rfl rfl ?_
  refine lv_iconst (v := 1) hx hb dX4_enterShape_36 (by decide) ?_
  refine lv_iadd hx hb dX4_enterShape_37 ?_
  refine lv_topi (fun z_1 ez_1 => ?_)
  obtain rfl : z_1 = 1 := ez_1.trans (by decide)
  refine va_put (D := (dC, dI)) (ci := 4) (v := .int 1) (ty := .int) (C := RX4) (T := TX4) (N := 9) hx hb hts i_X4_enterShape_X4 tyX4 tyX4_ok nmX4 hown hK hP hD hS 0 rfl rfl 8 (by decide) k_2 (fun _ h9 => h9) rfl (by decide +kernel) rfl rfl (Nat.le_of_ble_eq_true rfl) dX4_enterShape_38 (fun H locs hP hD hS => ?_)
  have hP : va_P (dC, dI) vwCl [(h0, .inr (4, [.ref a0, .ref a1, .int 0, .ref a3, .ref a4, .ref a5, .ref a6, .ref a7, .int 1])), (a3, .inl (cyI, 100, .inl (upd g3 (Int32.toNatClampNeg 0) p0))), (a4, .inl (cyI, 100, .inl (upd g4 (Int32.toNatClampNeg 0) p1))), (a5, .inl (cyZ, 100, .inl (upd g5 (Int32.toNatClampNeg 0) (vp_nar .boolean p2))))] H := hP
  have hD : va_D A [(h0, .inr (4, [.ref a0, .ref a1, .int 0, .ref a3, .ref a4, .ref a5, .ref a6, .ref a7, .int 1])), (a3, .inl (cyI, 100, .inl (upd g3 (Int32.toNatClampNeg 0) p0))), (a4, .inl (cyI, 100, .inl (upd g4 (Int32.toNatClampNeg 0) p1))), (a5, .inl (cyZ, 100, .inl (upd g5 (Int32.toNatClampNeg 0) (vp_nar .boolean p2))))] := hD
  exact W.iret hx hb hr (fun t ht hW => ⟨⟨_, (), rfl, rfl, trivial⟩, hS.F ht⟩) hS.2.2 dX4_enterShape_41

theorem i_X4_canTakeMore_X4 : ∀ w ∈ wsX40, w ∈ wsX4_canTakeMore := by decide +kernel
set_option maxHeartbeats 4000000 in
set_option maxRecDepth 100000 in
theorem c_X4_canTakeMore (l : Launch) (dC : Nat → ClassId) (dI : Nat → Nat → Nat) (cyI cyZ cyJ : ClassId) (sz : Nat) (h0 : Nat) (a0 : Nat) (a1 : Nat) (a3 : Nat) (a4 : Nat) (a5 : Nat) (a6 : Nat) (a7 : Nat) : Met l yX4_canTakeMore wsX4_canTakeMore ({ frames := 0, cells := 0, slots := 0, locals := 0 }) (va_Pc [.ref h0] (x_Pre (dC, dI) (x_T cyI cyZ cyJ) [(h0, .inr (4, [.ref a0, .ref a1, .int 0, .ref a3, .ref a4, .ref a5, .ref a6, .ref a7, .int 0]))] sz)) (va_Qi (fun (r : Int32) (_ : Unit) => r = 0) (fun _ _ => True) (x_new sz)) 0 0 (x_new sz) := by
  refine Met.ofW (cc := cX4_canTakeMore) (maxL := 1) (ret := (some .boolean)) (by decide) rfl ?_
  intro p e s m args below meth c s₁ B hml hv
  obtain ⟨rfl, hsz, hP, hK, hN⟩ := hv
  have hx := B.exec
  have hb := B.bytes
  have hr := B.returns
  have hts := atoms_spec (ws := wsX4_canTakeMore) B.pre
  have hown : s.vm.findClass RX4 = some m.cls := findClass_of_methodNamed B.named
  have hlocks := B.notSynchronized
  have k_1 := hts (.fieldLink RX4 38 "FlowJudge$Members" "shapeCount" "I") (by decide +kernel)
  subst hsz
  have hA : ∀ q : Nat, s.heap.size ≤ q → x_new s.heap.size q := fun _ h => h
  have hS : va_S (x_new s.heap.size) s.heap s.heap [] := va_S.rf
  have hP : va_P (dC, dI) vwCl [(h0, .inr (4, [.ref a0, .ref a1, .int 0, .ref a3, .ref a4, .ref a5, .ref a6, .ref a7, .int 0]))] s.heap := hP
  have hl := lv_entry ([.ref h0]) (n := 1) (Nat.le_of_ble_eq_true rfl)
  rw [lg_entry_eq]
  generalize (lg_sl ([.ref h0]) ++ List.replicate (1 - (lg_sl ([.ref h0])).length) Slot.unset).toArray = ls at hl ⊢
  have hl : lv_has ls 1 [(0, .ref h0)] := hl
  obtain ⟨H, hH⟩ : ∃ z, z = s.heap := ⟨_, rfl⟩
  refine x_here hH ?_
  have hP : va_P (dC, dI) vwCl [(h0, .inr (4, [.ref a0, .ref a1, .int 0, .ref a3, .ref a4, .ref a5, .ref a6, .ref a7, .int 0]))] H := by rw [hH]; exact hP
  have hS : va_S (x_new s.heap.size) s.heap H [] := by rw [hH]; exact va_S.rf
  clear hH
  refine lv_aload_n hx hb dX4_canTakeMore_0 rfl (lv_at hl 0 rfl) ?_
  refine va_get (D := (dC, dI)) (ci := 4) (v := .int 0) (C := RX4) (T := TX4) (N := 9) hx hb hts i_X4_canTakeMore_X4 hown hK hP 0 rfl rfl 8 (by decide) k_1 (fun _ h9 => h9) rfl dX4_canTakeMore_1 ?_
  refine lv_if_le (tgt := 27) hx hb dX4_canTakeMore_4 (by decide) (fun _ => ?_) (fun c_1 => absurd (by decide) c_1)
  refine lv_iconst (v := 0) hx hb dX4_canTakeMore_27 (by decide) ?_
  exact W.zret (ty := .boolean) hx hb hr rfl (fun t ht hW => ⟨⟨_, (), rfl, rfl, trivial⟩, hS.F ht⟩) hS.2.2 dX4_canTakeMore_28

def f_X0_isOpcode_47 (p0 : Int32) : Int32 := if p0 < (197 : Int32) then 0 else if (199 : Int32) < p0 then 0 else 1
def f_X0_isOpcode_34 (p0 : Int32) : Int32 := if p0 < (79 : Int32) then (f_X0_isOpcode_47 p0) else if p0 ≤ (195 : Int32) then 1 else (f_X0_isOpcode_47 p0)
def f_X0_isOpcode_22 (p0 : Int32) : Int32 := if p0 < (46 : Int32) then (f_X0_isOpcode_34 p0) else if p0 ≤ (58 : Int32) then 1 else (f_X0_isOpcode_34 p0)
def f_X0_isOpcode_10 (p0 : Int32) : Int32 := if p0 < (20 : Int32) then (f_X0_isOpcode_22 p0) else if p0 ≤ (25 : Int32) then 1 else (f_X0_isOpcode_22 p0)
def f_X0_isOpcode (p0 : Int32) : Int32 := if p0 < (0 : Int32) then (f_X0_isOpcode_10 p0) else if p0 ≤ (18 : Int32) then 1 else (f_X0_isOpcode_10 p0)
theorem b_X0_isOpcode_47 (p0 : Int32) : x_nb (f_X0_isOpcode_47 p0) := (x_ite rfl (x_ite rfl rfl))
theorem b_X0_isOpcode_34 (p0 : Int32) : x_nb (f_X0_isOpcode_34 p0) := (x_ite (b_X0_isOpcode_47 p0) (x_ite rfl (b_X0_isOpcode_47 p0)))
theorem b_X0_isOpcode_22 (p0 : Int32) : x_nb (f_X0_isOpcode_22 p0) := (x_ite (b_X0_isOpcode_34 p0) (x_ite rfl (b_X0_isOpcode_34 p0)))
theorem b_X0_isOpcode_10 (p0 : Int32) : x_nb (f_X0_isOpcode_10 p0) := (x_ite (b_X0_isOpcode_22 p0) (x_ite rfl (b_X0_isOpcode_22 p0)))
theorem b_X0_isOpcode (p0 : Int32) : x_nb (f_X0_isOpcode p0) := (x_ite (b_X0_isOpcode_10 p0) (x_ite rfl (b_X0_isOpcode_10 p0)))
set_option maxHeartbeats 4000000 in
set_option maxRecDepth 100000 in
theorem c_X0_isOpcode (l : Launch) (dC : Nat → ClassId) (dI : Nat → Nat → Nat) (cyI cyZ cyJ : ClassId) (sz : Nat) (p0 : Int32) : Met l yX0_isOpcode wsX0_isOpcode ({ frames := 0, cells := 0, slots := 0, locals := 0 }) (va_Pc [.int p0] (x_Pre (dC, dI) (x_T cyI cyZ cyJ) [] sz)) (va_Qi (fun (r : Int32) (_ : Unit) => r = f_X0_isOpcode p0) (fun _ _ => True) (x_new sz)) 0 0 (x_new sz) := by
  refine Met.ofW (cc := cX0_isOpcode) (maxL := 1) (ret := (some .boolean)) (by decide) rfl ?_
  intro p e s m args below meth c s₁ B hml hv
  obtain ⟨rfl, hsz, hP, hK, hN⟩ := hv
  have hx := B.exec
  have hb := B.bytes
  have hr := B.returns
  have hts := atoms_spec (ws := wsX0_isOpcode) B.pre
  have hown : s.vm.findClass RX0 = some m.cls := findClass_of_methodNamed B.named
  have hlocks := B.notSynchronized
  subst hsz
  have hA : ∀ q : Nat, s.heap.size ≤ q → x_new s.heap.size q := fun _ h => h
  have hS : va_S (x_new s.heap.size) s.heap s.heap [] := va_S.rf
  have hP : va_P (dC, dI) vwCl [] s.heap := hP
  have hl := lv_entry ([.int p0]) (n := 1) (Nat.le_of_ble_eq_true rfl)
  rw [lg_entry_eq]
  generalize (lg_sl ([.int p0]) ++ List.replicate (1 - (lg_sl ([.int p0])).length) Slot.unset).toArray = ls at hl ⊢
  have hl : lv_has ls 1 [(0, .int p0)] := hl
  obtain ⟨H, hH⟩ : ∃ z, z = s.heap := ⟨_, rfl⟩
  refine x_here hH ?_
  have hP : va_P (dC, dI) vwCl [] H := by rw [hH]; exact hP
  have hS : va_S (x_new s.heap.size) s.heap H [] := by rw [hH]; exact va_S.rf
  clear hH
  refine x_cut (g2 := F0 m 47 ls []) (E := f_X0_isOpcode p0 = f_X0_isOpcode_47 p0) (fun J_47 => ?_) (fun e_47 => ?_)
  rotate_left
  · skip
    refine lv_iload_n hx hb dX0_isOpcode_47 rfl (lv_at hl 0 rfl) ?_
    refine lv_sipush (v := 197) hx hb dX0_isOpcode_48 (by decide) ?_
    refine lv_icmp_lt (tgt := 65) hx hb dX0_isOpcode_51 (by decide) (fun c_1 => ?_) (fun c_1 => ?_)
    · skip
      refine lv_iconst (v := 0) hx hb dX0_isOpcode_65 (by decide) ?_
      exact W.zret (ty := .boolean) hx hb hr rfl (fun t ht hW => ⟨⟨_, (), rfl, by rw [e_47, f_X0_isOpcode_47, if_pos c_1], trivial⟩, hS.F ht⟩) hS.2.2 dX0_isOpcode_66
    · skip
      refine lv_iload_n hx hb dX0_isOpcode_54 rfl (lv_at hl 0 rfl) ?_
      refine lv_sipush (v := 199) hx hb dX0_isOpcode_55 (by decide) ?_
      refine lv_icmp_gt (tgt := 65) hx hb dX0_isOpcode_58 (by decide) (fun c_2 => ?_) (fun c_2 => ?_)
      · skip
        refine lv_iconst (v := 0) hx hb dX0_isOpcode_65 (by decide) ?_
        exact W.zret (ty := .boolean) hx hb hr rfl (fun t ht hW => ⟨⟨_, (), rfl, by rw [e_47, f_X0_isOpcode_47, if_neg c_1, if_pos c_2], trivial⟩, hS.F ht⟩) hS.2.2 dX0_isOpcode_66
      · skip
        refine lv_iconst (v := 1) hx hb dX0_isOpcode_61 (by decide) ?_
        refine lv_goto (tgt := 66) hx hb dX0_isOpcode_62 (by decide) ?_
        exact W.zret (ty := .boolean) hx hb hr rfl (fun t ht hW => ⟨⟨_, (), rfl, by rw [e_47, f_X0_isOpcode_47, if_neg c_1, if_neg c_2], trivial⟩, hS.F ht⟩) hS.2.2 dX0_isOpcode_66
  refine x_cut (g2 := F0 m 34 ls []) (E := f_X0_isOpcode p0 = f_X0_isOpcode_34 p0) (fun J_34 => ?_) (fun e_34 => ?_)
  rotate_left
  · skip
    refine lv_iload_n hx hb dX0_isOpcode_34 rfl (lv_at hl 0 rfl) ?_
    refine lv_bipush (v := 79) hx hb dX0_isOpcode_35 (by decide) ?_
    refine lv_icmp_lt (tgt := 47) hx hb dX0_isOpcode_37 (by decide) (fun c_3 => ?_) (fun c_3 => ?_)
    · skip
      exact J_47 (by rw [e_34, f_X0_isOpcode_34, if_pos c_3])
    · skip
      refine lv_iload_n hx hb dX0_isOpcode_40 rfl (lv_at hl 0 rfl) ?_
      refine lv_sipush (v := 195) hx hb dX0_isOpcode_41 (by decide) ?_
      refine lv_icmp_le (tgt := 61) hx hb dX0_isOpcode_44 (by decide) (fun c_4 => ?_) (fun c_4 => ?_)
      · skip
        refine lv_iconst (v := 1) hx hb dX0_isOpcode_61 (by decide) ?_
        refine lv_goto (tgt := 66) hx hb dX0_isOpcode_62 (by decide) ?_
        exact W.zret (ty := .boolean) hx hb hr rfl (fun t ht hW => ⟨⟨_, (), rfl, by rw [e_34, f_X0_isOpcode_34, if_neg c_3, if_pos c_4], trivial⟩, hS.F ht⟩) hS.2.2 dX0_isOpcode_66
      · skip
        exact J_47 (by rw [e_34, f_X0_isOpcode_34, if_neg c_3, if_neg c_4])
  refine x_cut (g2 := F0 m 22 ls []) (E := f_X0_isOpcode p0 = f_X0_isOpcode_22 p0) (fun J_22 => ?_) (fun e_22 => ?_)
  rotate_left
  · skip
    refine lv_iload_n hx hb dX0_isOpcode_22 rfl (lv_at hl 0 rfl) ?_
    refine lv_bipush (v := 46) hx hb dX0_isOpcode_23 (by decide) ?_
    refine lv_icmp_lt (tgt := 34) hx hb dX0_isOpcode_25 (by decide) (fun c_5 => ?_) (fun c_5 => ?_)
    · skip
      exact J_34 (by rw [e_22, f_X0_isOpcode_22, if_pos c_5])
    · skip
      refine lv_iload_n hx hb dX0_isOpcode_28 rfl (lv_at hl 0 rfl) ?_
      refine lv_bipush (v := 58) hx hb dX0_isOpcode_29 (by decide) ?_
      refine lv_icmp_le (tgt := 61) hx hb dX0_isOpcode_31 (by decide) (fun c_6 => ?_) (fun c_6 => ?_)
      · skip
        refine lv_iconst (v := 1) hx hb dX0_isOpcode_61 (by decide) ?_
        refine lv_goto (tgt := 66) hx hb dX0_isOpcode_62 (by decide) ?_
        exact W.zret (ty := .boolean) hx hb hr rfl (fun t ht hW => ⟨⟨_, (), rfl, by rw [e_22, f_X0_isOpcode_22, if_neg c_5, if_pos c_6], trivial⟩, hS.F ht⟩) hS.2.2 dX0_isOpcode_66
      · skip
        exact J_34 (by rw [e_22, f_X0_isOpcode_22, if_neg c_5, if_neg c_6])
  refine x_cut (g2 := F0 m 10 ls []) (E := f_X0_isOpcode p0 = f_X0_isOpcode_10 p0) (fun J_10 => ?_) (fun e_10 => ?_)
  rotate_left
  · skip
    refine lv_iload_n hx hb dX0_isOpcode_10 rfl (lv_at hl 0 rfl) ?_
    refine lv_bipush (v := 20) hx hb dX0_isOpcode_11 (by decide) ?_
    refine lv_icmp_lt (tgt := 22) hx hb dX0_isOpcode_13 (by decide) (fun c_7 => ?_) (fun c_7 => ?_)
    · skip
      exact J_22 (by rw [e_10, f_X0_isOpcode_10, if_pos c_7])
    · skip
      refine lv_iload_n hx hb dX0_isOpcode_16 rfl (lv_at hl 0 rfl) ?_
      refine lv_bipush (v := 25) hx hb dX0_isOpcode_17 (by decide) ?_
      refine lv_icmp_le (tgt := 61) hx hb dX0_isOpcode_19 (by decide) (fun c_8 => ?_) (fun c_8 => ?_)
      · skip
        refine lv_iconst (v := 1) hx hb dX0_isOpcode_61 (by decide) ?_
        refine lv_goto (tgt := 66) hx hb dX0_isOpcode_62 (by decide) ?_
        exact W.zret (ty := .boolean) hx hb hr rfl (fun t ht hW => ⟨⟨_, (), rfl, by rw [e_10, f_X0_isOpcode_10, if_neg c_7, if_pos c_8], trivial⟩, hS.F ht⟩) hS.2.2 dX0_isOpcode_66
      · skip
        exact J_22 (by rw [e_10, f_X0_isOpcode_10, if_neg c_7, if_neg c_8])
  refine lv_iload_n hx hb dX0_isOpcode_0 rfl (lv_at hl 0 rfl) ?_
  refine lv_if_lt (tgt := 10) hx hb dX0_isOpcode_1 (by decide) (fun c_9 => ?_) (fun c_9 => ?_)
  · skip
    exact J_10 (by rw [f_X0_isOpcode, if_pos c_9])
  · skip
    refine lv_iload_n hx hb dX0_isOpcode_4 rfl (lv_at hl 0 rfl) ?_
    refine lv_bipush (v := 18) hx hb dX0_isOpcode_5 (by decide) ?_
    refine lv_icmp_le (tgt := 61) hx hb dX0_isOpcode_7 (by decide) (fun c_10 => ?_) (fun c_10 => ?_)
    · skip
      refine lv_iconst (v := 1) hx hb dX0_isOpcode_61 (by decide) ?_
      refine lv_goto (tgt := 66) hx hb dX0_isOpcode_62 (by decide) ?_
      exact W.zret (ty := .boolean) hx hb hr rfl (fun t ht hW => ⟨⟨_, (), rfl, by rw [f_X0_isOpcode, if_neg c_9, if_pos c_10], trivial⟩, hS.F ht⟩) hS.2.2 dX0_isOpcode_66
    · skip
      exact J_10 (by rw [f_X0_isOpcode, if_neg c_9, if_neg c_10])

def f_X0_isOfLocal (p0 : Int32) : Int32 := if p0 < (21 : Int32) then if p0 < (54 : Int32) then if p0 = (132 : Int32) then 1 else if p0 = (169 : Int32) then 1 else 0 else if p0 ≤ (58 : Int32) then 1 else if p0 = (132 : Int32) then 1 else if p0 = (169 : Int32) then 1 else 0 else if p0 ≤ (25 : Int32) then 1 else if p0 < (54 : Int32) then if p0 = (132 : Int32) then 1 else if p0 = (169 : Int32) then 1 else 0 else if p0 ≤ (58 : Int32) then 1 else if p0 = (132 : Int32) then 1 else if p0 = (169 : Int32) then 1 else 0
theorem b_X0_isOfLocal (p0 : Int32) : x_nb (f_X0_isOfLocal p0) := (x_ite (x_ite (x_ite rfl (x_ite rfl rfl)) (x_ite rfl (x_ite rfl (x_ite rfl rfl)))) (x_ite rfl (x_ite (x_ite rfl (x_ite rfl rfl)) (x_ite rfl (x_ite rfl (x_ite rfl rfl))))))
set_option maxHeartbeats 4000000 in
set_option maxRecDepth 100000 in
theorem c_X0_isOfLocal (l : Launch) (dC : Nat → ClassId) (dI : Nat → Nat → Nat) (cyI cyZ cyJ : ClassId) (sz : Nat) (p0 : Int32) : Met l yX0_isOfLocal wsX0_isOfLocal ({ frames := 0, cells := 0, slots := 0, locals := 0 }) (va_Pc [.int p0] (x_Pre (dC, dI) (x_T cyI cyZ cyJ) [] sz)) (va_Qi (fun (r : Int32) (_ : Unit) => r = f_X0_isOfLocal p0) (fun _ _ => True) (x_new sz)) 0 0 (x_new sz) := by
  refine Met.ofW (cc := cX0_isOfLocal) (maxL := 1) (ret := (some .boolean)) (by decide) rfl ?_
  intro p e s m args below meth c s₁ B hml hv
  obtain ⟨rfl, hsz, hP, hK, hN⟩ := hv
  have hx := B.exec
  have hb := B.bytes
  have hr := B.returns
  have hts := atoms_spec (ws := wsX0_isOfLocal) B.pre
  have hown : s.vm.findClass RX0 = some m.cls := findClass_of_methodNamed B.named
  have hlocks := B.notSynchronized
  subst hsz
  have hA : ∀ q : Nat, s.heap.size ≤ q → x_new s.heap.size q := fun _ h => h
  have hS : va_S (x_new s.heap.size) s.heap s.heap [] := va_S.rf
  have hP : va_P (dC, dI) vwCl [] s.heap := hP
  have hl := lv_entry ([.int p0]) (n := 1) (Nat.le_of_ble_eq_true rfl)
  rw [lg_entry_eq]
  generalize (lg_sl ([.int p0]) ++ List.replicate (1 - (lg_sl ([.int p0])).length) Slot.unset).toArray = ls at hl ⊢
  have hl : lv_has ls 1 [(0, .int p0)] := hl
  obtain ⟨H, hH⟩ : ∃ z, z = s.heap := ⟨_, rfl⟩
  refine x_here hH ?_
  have hP : va_P (dC, dI) vwCl [] H := by rw [hH]; exact hP
  have hS : va_S (x_new s.heap.size) s.heap H [] := by rw [hH]; exact va_S.rf
  clear hH
  refine lv_iload_n hx hb dX0_isOfLocal_0 rfl (lv_at hl 0 rfl) ?_
  refine lv_bipush (v := 21) hx hb dX0_isOfLocal_1 (by decide) ?_
  refine lv_icmp_lt (tgt := 12) hx hb dX0_isOfLocal_3 (by decide) (fun c_1 => ?_) (fun c_1 => ?_)
  · skip
    refine lv_iload_n hx hb dX0_isOfLocal_12 rfl (lv_at hl 0 rfl) ?_
    refine lv_bipush (v := 54) hx hb dX0_isOfLocal_13 (by decide) ?_
    refine lv_icmp_lt (tgt := 24) hx hb dX0_isOfLocal_15 (by decide) (fun c_2 => ?_) (fun c_2 => ?_)
    · skip
      refine lv_iload_n hx hb dX0_isOfLocal_24 rfl (lv_at hl 0 rfl) ?_
      refine lv_sipush (v := 132) hx hb dX0_isOfLocal_25 (by decide) ?_
      refine lv_icmp_eq (tgt := 38) hx hb dX0_isOfLocal_28 (by decide) (fun c_3 => ?_) (fun c_3 => ?_)
      · skip
        refine lv_iconst (v := 1) hx hb dX0_isOfLocal_38 (by decide) ?_
        refine lv_goto (tgt := 43) hx hb dX0_isOfLocal_39 (by decide) ?_
        exact W.zret (ty := .boolean) hx hb hr rfl (fun t ht hW => ⟨⟨_, (), rfl, by rw [f_X0_isOfLocal, if_pos c_1, if_pos c_2, if_pos c_3], trivial⟩, hS.F ht⟩) hS.2.2 dX0_isOfLocal_43
      · skip
        refine lv_iload_n hx hb dX0_isOfLocal_31 rfl (lv_at hl 0 rfl) ?_
        refine lv_sipush (v := 169) hx hb dX0_isOfLocal_32 (by decide) ?_
        refine lv_icmp_ne (tgt := 42) hx hb dX0_isOfLocal_35 (by decide) (fun c_4 => ?_) (fun c_4 => ?_)
        · skip
          refine lv_iconst (v := 0) hx hb dX0_isOfLocal_42 (by decide) ?_
          exact W.zret (ty := .boolean) hx hb hr rfl (fun t ht hW => ⟨⟨_, (), rfl, by rw [f_X0_isOfLocal, if_pos c_1, if_pos c_2, if_neg c_3, if_neg c_4], trivial⟩, hS.F ht⟩) hS.2.2 dX0_isOfLocal_43
        · skip
          refine lv_iconst (v := 1) hx hb dX0_isOfLocal_38 (by decide) ?_
          refine lv_goto (tgt := 43) hx hb dX0_isOfLocal_39 (by decide) ?_
          exact W.zret (ty := .boolean) hx hb hr rfl (fun t ht hW => ⟨⟨_, (), rfl, by rw [f_X0_isOfLocal, if_pos c_1, if_pos c_2, if_neg c_3, if_pos c_4], trivial⟩, hS.F ht⟩) hS.2.2 dX0_isOfLocal_43
    · skip
      refine lv_iload_n hx hb dX0_isOfLocal_18 rfl (lv_at hl 0 rfl) ?_
      refine lv_bipush (v := 58) hx hb dX0_isOfLocal_19 (by decide) ?_
      refine lv_icmp_le (tgt := 38) hx hb dX0_isOfLocal_21 (by decide) (fun c_5 => ?_) (fun c_5 => ?_)
      · skip
        refine lv_iconst (v := 1) hx hb dX0_isOfLocal_38 (by decide) ?_
        refine lv_goto (tgt := 43) hx hb dX0_isOfLocal_39 (by decide) ?_
        exact W.zret (ty := .boolean) hx hb hr rfl (fun t ht hW => ⟨⟨_, (), rfl, by rw [f_X0_isOfLocal, if_pos c_1, if_neg c_2, if_pos c_5], trivial⟩, hS.F ht⟩) hS.2.2 dX0_isOfLocal_43
      · skip
        refine lv_iload_n hx hb dX0_isOfLocal_24 rfl (lv_at hl 0 rfl) ?_
        refine lv_sipush (v := 132) hx hb dX0_isOfLocal_25 (by decide) ?_
        refine lv_icmp_eq (tgt := 38) hx hb dX0_isOfLocal_28 (by decide) (fun c_6 => ?_) (fun c_6 => ?_)
        · skip
          refine lv_iconst (v := 1) hx hb dX0_isOfLocal_38 (by decide) ?_
          refine lv_goto (tgt := 43) hx hb dX0_isOfLocal_39 (by decide) ?_
          exact W.zret (ty := .boolean) hx hb hr rfl (fun t ht hW => ⟨⟨_, (), rfl, by rw [f_X0_isOfLocal, if_pos c_1, if_neg c_2, if_neg c_5, if_pos c_6], trivial⟩, hS.F ht⟩) hS.2.2 dX0_isOfLocal_43
        · skip
          refine lv_iload_n hx hb dX0_isOfLocal_31 rfl (lv_at hl 0 rfl) ?_
          refine lv_sipush (v := 169) hx hb dX0_isOfLocal_32 (by decide) ?_
          refine lv_icmp_ne (tgt := 42) hx hb dX0_isOfLocal_35 (by decide) (fun c_7 => ?_) (fun c_7 => ?_)
          · skip
            refine lv_iconst (v := 0) hx hb dX0_isOfLocal_42 (by decide) ?_
            exact W.zret (ty := .boolean) hx hb hr rfl (fun t ht hW => ⟨⟨_, (), rfl, by rw [f_X0_isOfLocal, if_pos c_1, if_neg c_2, if_neg c_5, if_neg c_6, if_neg c_7], trivial⟩, hS.F ht⟩) hS.2.2 dX0_isOfLocal_43
          · skip
            refine lv_iconst (v := 1) hx hb dX0_isOfLocal_38 (by decide) ?_
            refine lv_goto (tgt := 43) hx hb dX0_isOfLocal_39 (by decide) ?_
            exact W.zret (ty := .boolean) hx hb hr rfl (fun t ht hW => ⟨⟨_, (), rfl, by rw [f_X0_isOfLocal, if_pos c_1, if_neg c_2, if_neg c_5, if_neg c_6, if_pos c_7], trivial⟩, hS.F ht⟩) hS.2.2 dX0_isOfLocal_43
  · skip
    refine lv_iload_n hx hb dX0_isOfLocal_6 rfl (lv_at hl 0 rfl) ?_
    refine lv_bipush (v := 25) hx hb dX0_isOfLocal_7 (by decide) ?_
    refine lv_icmp_le (tgt := 38) hx hb dX0_isOfLocal_9 (by decide) (fun c_8 => ?_) (fun c_8 => ?_)
    · skip
      refine lv_iconst (v := 1) hx hb dX0_isOfLocal_38 (by decide) ?_
      refine lv_goto (tgt := 43) hx hb dX0_isOfLocal_39 (by decide) ?_
      exact W.zret (ty := .boolean) hx hb hr rfl (fun t ht hW => ⟨⟨_, (), rfl, by rw [f_X0_isOfLocal, if_neg c_1, if_pos c_8], trivial⟩, hS.F ht⟩) hS.2.2 dX0_isOfLocal_43
    · skip
      refine lv_iload_n hx hb dX0_isOfLocal_12 rfl (lv_at hl 0 rfl) ?_
      refine lv_bipush (v := 54) hx hb dX0_isOfLocal_13 (by decide) ?_
      refine lv_icmp_lt (tgt := 24) hx hb dX0_isOfLocal_15 (by decide) (fun c_9 => ?_) (fun c_9 => ?_)
      · skip
        refine lv_iload_n hx hb dX0_isOfLocal_24 rfl (lv_at hl 0 rfl) ?_
        refine lv_sipush (v := 132) hx hb dX0_isOfLocal_25 (by decide) ?_
        refine lv_icmp_eq (tgt := 38) hx hb dX0_isOfLocal_28 (by decide) (fun c_10 => ?_) (fun c_10 => ?_)
        · skip
          refine lv_iconst (v := 1) hx hb dX0_isOfLocal_38 (by decide) ?_
          refine lv_goto (tgt := 43) hx hb dX0_isOfLocal_39 (by decide) ?_
          exact W.zret (ty := .boolean) hx hb hr rfl (fun t ht hW => ⟨⟨_, (), rfl, by rw [f_X0_isOfLocal, if_neg c_1, if_neg c_8, if_pos c_9, if_pos c_10], trivial⟩, hS.F ht⟩) hS.2.2 dX0_isOfLocal_43
        · skip
          refine lv_iload_n hx hb dX0_isOfLocal_31 rfl (lv_at hl 0 rfl) ?_
          refine lv_sipush (v := 169) hx hb dX0_isOfLocal_32 (by decide) ?_
          refine lv_icmp_ne (tgt := 42) hx hb dX0_isOfLocal_35 (by decide) (fun c_11 => ?_) (fun c_11 => ?_)
          · skip
            refine lv_iconst (v := 0) hx hb dX0_isOfLocal_42 (by decide) ?_
            exact W.zret (ty := .boolean) hx hb hr rfl (fun t ht hW => ⟨⟨_, (), rfl, by rw [f_X0_isOfLocal, if_neg c_1, if_neg c_8, if_pos c_9, if_neg c_10, if_neg c_11], trivial⟩, hS.F ht⟩) hS.2.2 dX0_isOfLocal_43
          · skip
            refine lv_iconst (v := 1) hx hb dX0_isOfLocal_38 (by decide) ?_
            refine lv_goto (tgt := 43) hx hb dX0_isOfLocal_39 (by decide) ?_
            exact W.zret (ty := .boolean) hx hb hr rfl (fun t ht hW => ⟨⟨_, (), rfl, by rw [f_X0_isOfLocal, if_neg c_1, if_neg c_8, if_pos c_9, if_neg c_10, if_pos c_11], trivial⟩, hS.F ht⟩) hS.2.2 dX0_isOfLocal_43
      · skip
        refine lv_iload_n hx hb dX0_isOfLocal_18 rfl (lv_at hl 0 rfl) ?_
        refine lv_bipush (v := 58) hx hb dX0_isOfLocal_19 (by decide) ?_
        refine lv_icmp_le (tgt := 38) hx hb dX0_isOfLocal_21 (by decide) (fun c_12 => ?_) (fun c_12 => ?_)
        · skip
          refine lv_iconst (v := 1) hx hb dX0_isOfLocal_38 (by decide) ?_
          refine lv_goto (tgt := 43) hx hb dX0_isOfLocal_39 (by decide) ?_
          exact W.zret (ty := .boolean) hx hb hr rfl (fun t ht hW => ⟨⟨_, (), rfl, by rw [f_X0_isOfLocal, if_neg c_1, if_neg c_8, if_neg c_9, if_pos c_12], trivial⟩, hS.F ht⟩) hS.2.2 dX0_isOfLocal_43
        · skip
          refine lv_iload_n hx hb dX0_isOfLocal_24 rfl (lv_at hl 0 rfl) ?_
          refine lv_sipush (v := 132) hx hb dX0_isOfLocal_25 (by decide) ?_
          refine lv_icmp_eq (tgt := 38) hx hb dX0_isOfLocal_28 (by decide) (fun c_13 => ?_) (fun c_13 => ?_)
          · skip
            refine lv_iconst (v := 1) hx hb dX0_isOfLocal_38 (by decide) ?_
            refine lv_goto (tgt := 43) hx hb dX0_isOfLocal_39 (by decide) ?_
            exact W.zret (ty := .boolean) hx hb hr rfl (fun t ht hW => ⟨⟨_, (), rfl, by rw [f_X0_isOfLocal, if_neg c_1, if_neg c_8, if_neg c_9, if_neg c_12, if_pos c_13], trivial⟩, hS.F ht⟩) hS.2.2 dX0_isOfLocal_43
          · skip
            refine lv_iload_n hx hb dX0_isOfLocal_31 rfl (lv_at hl 0 rfl) ?_
            refine lv_sipush (v := 169) hx hb dX0_isOfLocal_32 (by decide) ?_
            refine lv_icmp_ne (tgt := 42) hx hb dX0_isOfLocal_35 (by decide) (fun c_14 => ?_) (fun c_14 => ?_)
            · skip
              refine lv_iconst (v := 0) hx hb dX0_isOfLocal_42 (by decide) ?_
              exact W.zret (ty := .boolean) hx hb hr rfl (fun t ht hW => ⟨⟨_, (), rfl, by rw [f_X0_isOfLocal, if_neg c_1, if_neg c_8, if_neg c_9, if_neg c_12, if_neg c_13, if_neg c_14], trivial⟩, hS.F ht⟩) hS.2.2 dX0_isOfLocal_43
            · skip
              refine lv_iconst (v := 1) hx hb dX0_isOfLocal_38 (by decide) ?_
              refine lv_goto (tgt := 43) hx hb dX0_isOfLocal_39 (by decide) ?_
              exact W.zret (ty := .boolean) hx hb hr rfl (fun t ht hW => ⟨⟨_, (), rfl, by rw [f_X0_isOfLocal, if_neg c_1, if_neg c_8, if_neg c_9, if_neg c_12, if_neg c_13, if_pos c_14], trivial⟩, hS.F ht⟩) hS.2.2 dX0_isOfLocal_43

def f_X0_isJump (p0 : Int32) : Int32 := if p0 < (153 : Int32) then if p0 = (198 : Int32) then 1 else if p0 = (199 : Int32) then 1 else 0 else if p0 ≤ (168 : Int32) then 1 else if p0 = (198 : Int32) then 1 else if p0 = (199 : Int32) then 1 else 0
theorem b_X0_isJump (p0 : Int32) : x_nb (f_X0_isJump p0) := (x_ite (x_ite rfl (x_ite rfl rfl)) (x_ite rfl (x_ite rfl (x_ite rfl rfl))))
set_option maxHeartbeats 4000000 in
set_option maxRecDepth 100000 in
theorem c_X0_isJump (l : Launch) (dC : Nat → ClassId) (dI : Nat → Nat → Nat) (cyI cyZ cyJ : ClassId) (sz : Nat) (p0 : Int32) : Met l yX0_isJump wsX0_isJump ({ frames := 0, cells := 0, slots := 0, locals := 0 }) (va_Pc [.int p0] (x_Pre (dC, dI) (x_T cyI cyZ cyJ) [] sz)) (va_Qi (fun (r : Int32) (_ : Unit) => r = f_X0_isJump p0) (fun _ _ => True) (x_new sz)) 0 0 (x_new sz) := by
  refine Met.ofW (cc := cX0_isJump) (maxL := 1) (ret := (some .boolean)) (by decide) rfl ?_
  intro p e s m args below meth c s₁ B hml hv
  obtain ⟨rfl, hsz, hP, hK, hN⟩ := hv
  have hx := B.exec
  have hb := B.bytes
  have hr := B.returns
  have hts := atoms_spec (ws := wsX0_isJump) B.pre
  have hown : s.vm.findClass RX0 = some m.cls := findClass_of_methodNamed B.named
  have hlocks := B.notSynchronized
  subst hsz
  have hA : ∀ q : Nat, s.heap.size ≤ q → x_new s.heap.size q := fun _ h => h
  have hS : va_S (x_new s.heap.size) s.heap s.heap [] := va_S.rf
  have hP : va_P (dC, dI) vwCl [] s.heap := hP
  have hl := lv_entry ([.int p0]) (n := 1) (Nat.le_of_ble_eq_true rfl)
  rw [lg_entry_eq]
  generalize (lg_sl ([.int p0]) ++ List.replicate (1 - (lg_sl ([.int p0])).length) Slot.unset).toArray = ls at hl ⊢
  have hl : lv_has ls 1 [(0, .int p0)] := hl
  obtain ⟨H, hH⟩ : ∃ z, z = s.heap := ⟨_, rfl⟩
  refine x_here hH ?_
  have hP : va_P (dC, dI) vwCl [] H := by rw [hH]; exact hP
  have hS : va_S (x_new s.heap.size) s.heap H [] := by rw [hH]; exact va_S.rf
  clear hH
  refine lv_iload_n hx hb dX0_isJump_0 rfl (lv_at hl 0 rfl) ?_
  refine lv_sipush (v := 153) hx hb dX0_isJump_1 (by decide) ?_
  refine lv_icmp_lt (tgt := 14) hx hb dX0_isJump_4 (by decide) (fun c_1 => ?_) (fun c_1 => ?_)
  · skip
    refine lv_iload_n hx hb dX0_isJump_14 rfl (lv_at hl 0 rfl) ?_
    refine lv_sipush (v := 198) hx hb dX0_isJump_15 (by decide) ?_
    refine lv_icmp_eq (tgt := 28) hx hb dX0_isJump_18 (by decide) (fun c_2 => ?_) (fun c_2 => ?_)
    · skip
      refine lv_iconst (v := 1) hx hb dX0_isJump_28 (by decide) ?_
      refine lv_goto (tgt := 33) hx hb dX0_isJump_29 (by decide) ?_
      exact W.zret (ty := .boolean) hx hb hr rfl (fun t ht hW => ⟨⟨_, (), rfl, by rw [f_X0_isJump, if_pos c_1, if_pos c_2], trivial⟩, hS.F ht⟩) hS.2.2 dX0_isJump_33
    · skip
      refine lv_iload_n hx hb dX0_isJump_21 rfl (lv_at hl 0 rfl) ?_
      refine lv_sipush (v := 199) hx hb dX0_isJump_22 (by decide) ?_
      refine lv_icmp_ne (tgt := 32) hx hb dX0_isJump_25 (by decide) (fun c_3 => ?_) (fun c_3 => ?_)
      · skip
        refine lv_iconst (v := 0) hx hb dX0_isJump_32 (by decide) ?_
        exact W.zret (ty := .boolean) hx hb hr rfl (fun t ht hW => ⟨⟨_, (), rfl, by rw [f_X0_isJump, if_pos c_1, if_neg c_2, if_neg c_3], trivial⟩, hS.F ht⟩) hS.2.2 dX0_isJump_33
      · skip
        refine lv_iconst (v := 1) hx hb dX0_isJump_28 (by decide) ?_
        refine lv_goto (tgt := 33) hx hb dX0_isJump_29 (by decide) ?_
        exact W.zret (ty := .boolean) hx hb hr rfl (fun t ht hW => ⟨⟨_, (), rfl, by rw [f_X0_isJump, if_pos c_1, if_neg c_2, if_pos c_3], trivial⟩, hS.F ht⟩) hS.2.2 dX0_isJump_33
  · skip
    refine lv_iload_n hx hb dX0_isJump_7 rfl (lv_at hl 0 rfl) ?_
    refine lv_sipush (v := 168) hx hb dX0_isJump_8 (by decide) ?_
    refine lv_icmp_le (tgt := 28) hx hb dX0_isJump_11 (by decide) (fun c_4 => ?_) (fun c_4 => ?_)
    · skip
      refine lv_iconst (v := 1) hx hb dX0_isJump_28 (by decide) ?_
      refine lv_goto (tgt := 33) hx hb dX0_isJump_29 (by decide) ?_
      exact W.zret (ty := .boolean) hx hb hr rfl (fun t ht hW => ⟨⟨_, (), rfl, by rw [f_X0_isJump, if_neg c_1, if_pos c_4], trivial⟩, hS.F ht⟩) hS.2.2 dX0_isJump_33
    · skip
      refine lv_iload_n hx hb dX0_isJump_14 rfl (lv_at hl 0 rfl) ?_
      refine lv_sipush (v := 198) hx hb dX0_isJump_15 (by decide) ?_
      refine lv_icmp_eq (tgt := 28) hx hb dX0_isJump_18 (by decide) (fun c_5 => ?_) (fun c_5 => ?_)
      · skip
        refine lv_iconst (v := 1) hx hb dX0_isJump_28 (by decide) ?_
        refine lv_goto (tgt := 33) hx hb dX0_isJump_29 (by decide) ?_
        exact W.zret (ty := .boolean) hx hb hr rfl (fun t ht hW => ⟨⟨_, (), rfl, by rw [f_X0_isJump, if_neg c_1, if_neg c_4, if_pos c_5], trivial⟩, hS.F ht⟩) hS.2.2 dX0_isJump_33
      · skip
        refine lv_iload_n hx hb dX0_isJump_21 rfl (lv_at hl 0 rfl) ?_
        refine lv_sipush (v := 199) hx hb dX0_isJump_22 (by decide) ?_
        refine lv_icmp_ne (tgt := 32) hx hb dX0_isJump_25 (by decide) (fun c_6 => ?_) (fun c_6 => ?_)
        · skip
          refine lv_iconst (v := 0) hx hb dX0_isJump_32 (by decide) ?_
          exact W.zret (ty := .boolean) hx hb hr rfl (fun t ht hW => ⟨⟨_, (), rfl, by rw [f_X0_isJump, if_neg c_1, if_neg c_4, if_neg c_5, if_neg c_6], trivial⟩, hS.F ht⟩) hS.2.2 dX0_isJump_33
        · skip
          refine lv_iconst (v := 1) hx hb dX0_isJump_28 (by decide) ?_
          refine lv_goto (tgt := 33) hx hb dX0_isJump_29 (by decide) ?_
          exact W.zret (ty := .boolean) hx hb hr rfl (fun t ht hW => ⟨⟨_, (), rfl, by rw [f_X0_isJump, if_neg c_1, if_neg c_4, if_neg c_5, if_pos c_6], trivial⟩, hS.F ht⟩) hS.2.2 dX0_isJump_33

theorem i_X0_begin_X0 : ∀ w ∈ wsX00, w ∈ wsX0_begin := by decide +kernel
set_option maxHeartbeats 4000000 in
set_option maxRecDepth 100000 in
theorem c_X0_begin (l : Launch) (dC : Nat → ClassId) (dI : Nat → Nat → Nat) (cyI cyZ cyJ : ClassId) (sz : Nat) (h0 : Nat) (a5 : Nat) (a7 : Nat) (a8 : Nat) (a9 : Nat) (a11 : Nat) (a12 : Nat) (a13 : Nat) (a14 : Nat) (a16 : Nat) (p0 : Int32) (p1 : Int32) (p2 : Int32) (p3 : Int32) (p4 : Int32) : Met l yX0_begin wsX0_begin ({ frames := 0, cells := 0, slots := 0, locals := 0 }) (va_Pc [.ref h0, .int p0, .int p1, .int p2, .int p3, .int p4] (x_PreD (dC, dI) (x_T cyI cyZ cyJ) [(h0, .inr (0, [.int 0, .int 0, .int (-1), .int 0, .int 0, .ref a5, .int 0, .ref a7, .ref a8, .ref a9, .int 0, .ref a11, .ref a12, .ref a13, .ref a14, .int 0, .ref a16]))] sz)) (va_Qv (fun _ : Unit => True) (fun _ _ => True) (va_A [(h0, .inr (0, [.int 0, .int 0, .int (-1), .int 0, .int 0, .ref a5, .int 0, .ref a7, .ref a8, .ref a9, .int 0, .ref a11, .ref a12, .ref a13, .ref a14, .int 0, .ref a16]))] sz)) 0 0 (va_A [(h0, .inr (0, [.int 0, .int 0, .int (-1), .int 0, .int 0, .ref a5, .int 0, .ref a7, .ref a8, .ref a9, .int 0, .ref a11, .ref a12, .ref a13, .ref a14, .int 0, .ref a16]))] sz) := by
  refine Met.ofW (cc := cX0_begin) (maxL := 6) (ret := none) (by decide) rfl ?_
  intro p e s m args below meth c s₁ B hml hv
  obtain ⟨rfl, ⟨hsz, hP, hK, hN⟩, hD0⟩ := hv
  have hx := B.exec
  have hb := B.bytes
  have hr := B.returns
  have hts := atoms_spec (ws := wsX0_begin) B.pre
  have hown : s.vm.findClass RX0 = some m.cls := findClass_of_methodNamed B.named
  have hlocks := B.notSynchronized
  have k_1 := hts (.fieldLink RX0 44 "FlowJudge$Code" "owner" "I") (by decide +kernel)
  have k_2 := hts (.fieldLink RX0 47 "FlowJudge$Code" "how" "I") (by decide +kernel)
  have k_3 := hts (.fieldLink RX0 9 "FlowJudge$Code" "result" "I") (by decide +kernel)
  have k_4 := hts (.fieldLink RX0 50 "FlowJudge$Code" "locals" "I") (by decide +kernel)
  have k_5 := hts (.fieldLink RX0 53 "FlowJudge$Code" "stack" "I") (by decide +kernel)
  have k_6 := hts (.fieldLink RX0 56 "FlowJudge$Code" "argumentCount" "I") (by decide +kernel)
  have k_7 := hts (.fieldLink RX0 59 "FlowJudge$Code" "count" "I") (by decide +kernel)
  have k_8 := hts (.fieldLink RX0 62 "FlowJudge$Code" "rowCount" "I") (by decide +kernel)
  subst hsz
  have hD := hD0.self (sz := s.heap.size)
  generalize hAe : va_A [(h0, .inr (0, [.int 0, .int 0, .int (-1), .int 0, .int 0, .ref a5, .int 0, .ref a7, .ref a8, .ref a9, .int 0, .ref a11, .ref a12, .ref a13, .ref a14, .int 0, .ref a16]))] s.heap.size = A at hD ⊢
  have hA : ∀ q : Nat, s.heap.size ≤ q → A q := fun q h => by rw [← hAe]; exact Or.inr h
  have hS : va_S A s.heap s.heap [] := va_S.rf
  have hP : va_P (dC, dI) vwCl [(h0, .inr (0, [.int 0, .int 0, .int (-1), .int 0, .int 0, .ref a5, .int 0, .ref a7, .ref a8, .ref a9, .int 0, .ref a11, .ref a12, .ref a13, .ref a14, .int 0, .ref a16]))] s.heap := hP
  have hl := lv_entry ([.ref h0, .int p0, .int p1, .int p2, .int p3, .int p4]) (n := 6) (Nat.le_of_ble_eq_true rfl)
  rw [lg_entry_eq]
  generalize (lg_sl ([.ref h0, .int p0, .int p1, .int p2, .int p3, .int p4]) ++ List.replicate (6 - (lg_sl ([.ref h0, .int p0, .int p1, .int p2, .int p3, .int p4])).length) Slot.unset).toArray = ls at hl ⊢
  have hl : lv_has ls 6 [(0, .ref h0), (1, .int p0), (2, .int p1), (3, .int p2), (4, .int p3), (5, .int p4)] := hl
  obtain ⟨H, hH⟩ : ∃ z, z = s.heap := ⟨_, rfl⟩
  refine x_here hH ?_
  have hP : va_P (dC, dI) vwCl [(h0, .inr (0, [.int 0, .int 0, .int (-1), .int 0, .int 0, .ref a5, .int 0, .ref a7, .ref a8, .ref a9, .int 0, .ref a11, .ref a12, .ref a13, .ref a14, .int 0, .ref a16]))] H := by rw [hH]; exact hP
  have hS : va_S A s.heap H [] := by rw [hH]; exact va_S.rf
  clear hH
  refine lv_aload_n hx hb dX0_begin_0 rfl (lv_at hl 0 rfl) ?_
  refine lv_iload_n hx hb dX0_begin_1 rfl (lv_at hl 1 rfl) ?_
  refine va_put (D := (dC, dI)) (ci := 0) (v := .int p0) (ty := .int) (C := RX0) (T := TX0) (N := 17) hx hb hts i_X0_begin_X0 tyX0 tyX0_ok nmX0 hown hK hP hD hS 0 rfl rfl 0 (by decide) k_1 (fun _ h9 => h9) rfl (by decide +kernel) rfl rfl (Nat.le_of_ble_eq_true rfl) dX0_begin_2 (fun H locs hP hD hS => ?_)
  have hP : va_P (dC, dI) vwCl [(h0, .inr (0, [.int p0, .int 0, .int (-1), .int 0, .int 0, .ref a5, .int 0, .ref a7, .ref a8, .ref a9, .int 0, .ref a11, .ref a12, .ref a13, .ref a14, .int 0, .ref a16]))] H := hP
  have hD : va_D A [(h0, .inr (0, [.int p0, .int 0, .int (-1), .int 0, .int 0, .ref a5, .int 0, .ref a7, .ref a8, .ref a9, .int 0, .ref a11, .ref a12, .ref a13, .ref a14, .int 0, .ref a16]))] := hD
  refine lv_aload_n hx hb dX0_begin_5 rfl (lv_at hl 0 rfl) ?_
  refine lv_iload_n hx hb dX0_begin_6 rfl (lv_at hl 2 rfl) ?_
  refine va_put (D := (dC, dI)) (ci := 0) (v := .int p1) (ty := .int) (C := RX0) (T := TX0) (N := 17) hx hb hts i_X0_begin_X0 tyX0 tyX0_ok nmX0 hown hK hP hD hS 0 rfl rfl 1 (by decide) k_2 (fun _ h9 => h9) rfl (by decide +kernel) rfl rfl (Nat.le_of_ble_eq_true rfl) dX0_begin_7 (fun H locs hP hD hS => ?_)
  have hP : va_P (dC, dI) vwCl [(h0, .inr (0, [.int p0, .int p1, .int (-1), .int 0, .int 0, .ref a5, .int 0, .ref a7, .ref a8, .ref a9, .int 0, .ref a11, .ref a12, .ref a13, .ref a14, .int 0, .ref a16]))] H := hP
  have hD : va_D A [(h0, .inr (0, [.int p0, .int p1, .int (-1), .int 0, .int 0, .ref a5, .int 0, .ref a7, .ref a8, .ref a9, .int 0, .ref a11, .ref a12, .ref a13, .ref a14, .int 0, .ref a16]))] := hD
  refine lv_aload_n hx hb dX0_begin_10 rfl (lv_at hl 0 rfl) ?_
  refine lv_iload_n hx hb dX0_begin_11 rfl (lv_at hl 3 rfl) ?_
  refine va_put (D := (dC, dI)) (ci := 0) (v := .int p2) (ty := .int) (C := RX0) (T := TX0) (N := 17) hx hb hts i_X0_begin_X0 tyX0 tyX0_ok nmX0 hown hK hP hD hS 0 rfl rfl 2 (by decide) k_3 (fun _ h9 => h9) rfl (by decide +kernel) rfl rfl (Nat.le_of_ble_eq_true rfl) dX0_begin_12 (fun H locs hP hD hS => ?_)
  have hP : va_P (dC, dI) vwCl [(h0, .inr (0, [.int p0, .int p1, .int p2, .int 0, .int 0, .ref a5, .int 0, .ref a7, .ref a8, .ref a9, .int 0, .ref a11, .ref a12, .ref a13, .ref a14, .int 0, .ref a16]))] H := hP
  have hD : va_D A [(h0, .inr (0, [.int p0, .int p1, .int p2, .int 0, .int 0, .ref a5, .int 0, .ref a7, .ref a8, .ref a9, .int 0, .ref a11, .ref a12, .ref a13, .ref a14, .int 0, .ref a16]))] := hD
  refine lv_aload_n hx hb dX0_begin_15 rfl (lv_at hl 0 rfl) ?_
  refine lv_iload hx hb dX0_begin_16 (lv_at hl 4 rfl) ?_
  refine va_put (D := (dC, dI)) (ci := 0) (v := .int p3) (ty := .int) (C := RX0) (T := TX0) (N := 17) hx hb hts i_X0_begin_X0 tyX0 tyX0_ok nmX0 hown hK hP hD hS 0 rfl rfl 3 (by decide) k_4 (fun _ h9 => h9) rfl (by decide +kernel) rfl rfl (Nat.le_of_ble_eq_true rfl) dX0_begin_18 (fun H locs hP hD hS => ?_)
  have hP : va_P (dC, dI) vwCl [(h0, .inr (0, [.int p0, .int p1, .int p2, .int p3, .int 0, .ref a5, .int 0, .ref a7, .ref a8, .ref a9, .int 0, .ref a11, .ref a12, .ref a13, .ref a14, .int 0, .ref a16]))] H := hP
  have hD : va_D A [(h0, .inr (0, [.int p0, .int p1, .int p2, .int p3, .int 0, .ref a5, .int 0, .ref a7, .ref a8, .ref a9, .int 0, .ref a11, .ref a12, .ref a13, .ref a14, .int 0, .ref a16]))] := hD
  refine lv_aload_n hx hb dX0_begin_21 rfl (lv_at hl 0 rfl) ?_
  refine lv_iload hx hb dX0_begin_22 (lv_at hl 5 rfl) ?_
  refine va_put (D := (dC, dI)) (ci := 0) (v := .int p4) (ty := .int) (C := RX0) (T := TX0) (N := 17) hx hb hts i_X0_begin_X0 tyX0 tyX0_ok nmX0 hown hK hP hD hS 0 rfl rfl 4 (by decide) k_5 (fun _ h9 => h9) rfl (by decide +kernel) rfl rfl (Nat.le_of_ble_eq_true rfl) dX0_begin_24 (fun H locs hP hD hS => ?_)
  have hP : va_P (dC, dI) vwCl [(h0, .inr (0, [.int p0, .int p1, .int p2, .int p3, .int p4, .ref a5, .int 0, .ref a7, .ref a8, .ref a9, .int 0, .ref a11, .ref a12, .ref a13, .ref a14, .int 0, .ref a16]))] H := hP
  have hD : va_D A [(h0, .inr (0, [.int p0, .int p1, .int p2, .int p3, .int p4, .ref a5, .int 0, .ref a7, .ref a8, .ref a9, .int 0, .ref a11, .ref a12, .ref a13, .ref a14, .int 0, .ref a16]))] := hD
  refine lv_aload_n hx hb dX0_begin_27 rfl (lv_at hl 0 rfl) ?_
  refine lv_iconst (v := 0) hx hb dX0_begin_28 (by decide) ?_
  refine va_put (D := (dC, dI)) (ci := 0) (v := .int 0) (ty := .int) (C := RX0) (T := TX0) (N := 17) hx hb hts i_X0_begin_X0 tyX0 tyX0_ok nmX0 hown hK hP hD hS 0 rfl rfl 6 (by decide) k_6 (fun _ h9 => h9) rfl (by decide +kernel) rfl rfl (Nat.le_of_ble_eq_true rfl) dX0_begin_29 (fun H locs hP hD hS => ?_)
  have hP : va_P (dC, dI) vwCl [(h0, .inr (0, [.int p0, .int p1, .int p2, .int p3, .int p4, .ref a5, .int 0, .ref a7, .ref a8, .ref a9, .int 0, .ref a11, .ref a12, .ref a13, .ref a14, .int 0, .ref a16]))] H := hP
  have hD : va_D A [(h0, .inr (0, [.int p0, .int p1, .int p2, .int p3, .int p4, .ref a5, .int 0, .ref a7, .ref a8, .ref a9, .int 0, .ref a11, .ref a12, .ref a13, .ref a14, .int 0, .ref a16]))] := hD
  refine lv_aload_n hx hb dX0_begin_32 rfl (lv_at hl 0 rfl) ?_
  refine lv_iconst (v := 0) hx hb dX0_begin_33 (by decide) ?_
  refine va_put (D := (dC, dI)) (ci := 0) (v := .int 0) (ty := .int) (C := RX0) (T := TX0) (N := 17) hx hb hts i_X0_begin_X0 tyX0 tyX0_ok nmX0 hown hK hP hD hS 0 rfl rfl 10 (by decide) k_7 (fun _ h9 => h9) rfl (by decide +kernel) rfl rfl (Nat.le_of_ble_eq_true rfl) dX0_begin_34 (fun H locs hP hD hS => ?_)
  have hP : va_P (dC, dI) vwCl [(h0, .inr (0, [.int p0, .int p1, .int p2, .int p3, .int p4, .ref a5, .int 0, .ref a7, .ref a8, .ref a9, .int 0, .ref a11, .ref a12, .ref a13, .ref a14, .int 0, .ref a16]))] H := hP
  have hD : va_D A [(h0, .inr (0, [.int p0, .int p1, .int p2, .int p3, .int p4, .ref a5, .int 0, .ref a7, .ref a8, .ref a9, .int 0, .ref a11, .ref a12, .ref a13, .ref a14, .int 0, .ref a16]))] := hD
  refine lv_aload_n hx hb dX0_begin_37 rfl (lv_at hl 0 rfl) ?_
  refine lv_iconst (v := 0) hx hb dX0_begin_38 (by decide) ?_
  refine va_put (D := (dC, dI)) (ci := 0) (v := .int 0) (ty := .int) (C := RX0) (T := TX0) (N := 17) hx hb hts i_X0_begin_X0 tyX0 tyX0_ok nmX0 hown hK hP hD hS 0 rfl rfl 15 (by decide) k_8 (fun _ h9 => h9) rfl (by decide +kernel) rfl rfl (Nat.le_of_ble_eq_true rfl) dX0_begin_39 (fun H locs hP hD hS => ?_)
  have hP : va_P (dC, dI) vwCl [(h0, .inr (0, [.int p0, .int p1, .int p2, .int p3, .int p4, .ref a5, .int 0, .ref a7, .ref a8, .ref a9, .int 0, .ref a11, .ref a12, .ref a13, .ref a14, .int 0, .ref a16]))] H := hP
  have hD : va_D A [(h0, .inr (0, [.int p0, .int p1, .int p2, .int p3, .int p4, .ref a5, .int 0, .ref a7, .ref a8, .ref a9, .int 0, .ref a11, .ref a12, .ref a13, .ref a14, .int 0, .ref a16]))] := hD
  exact W.vret hx hb hr (fun t ht hW => ⟨⟨(), rfl, trivial, trivial⟩, hS.F ht⟩) hS.2.2 dX0_begin_42

theorem i_X0_takeMore_X0 : ∀ w ∈ wsX00, w ∈ wsX0_takeMore := by decide +kernel
set_option maxHeartbeats 4000000 in
set_option maxRecDepth 100000 in
theorem c_X0_takeMore (l : Launch) (dC : Nat → ClassId) (dI : Nat → Nat → Nat) (cyI cyZ cyJ : ClassId) (sz : Nat) (h0 : Nat) (a5 : Nat) (a7 : Nat) (a8 : Nat) (a9 : Nat) (a11 : Nat) (a12 : Nat) (a13 : Nat) (a14 : Nat) (a16 : Nat) (g5 : Nat → Int32) (p0 : Int32) : Met l yX0_takeMore wsX0_takeMore ({ frames := 0, cells := 0, slots := 0, locals := 0 }) (va_Pc [.ref h0, .int p0] (x_PreD (dC, dI) (x_T cyI cyZ cyJ) [(h0, .inr (0, [.int 0, .int 0, .int (-1), .int 0, .int 0, .ref a5, .int 0, .ref a7, .ref a8, .ref a9, .int 0, .ref a11, .ref a12, .ref a13, .ref a14, .int 0, .ref a16])), (a5, .inl (cyI, 20, .inl g5))] sz)) (va_Qi (fun (r : Int32) (_ : Unit) => r = 1) (fun _ _ => True) (va_A [(h0, .inr (0, [.int 0, .int 0, .int (-1), .int 0, .int 0, .ref a5, .int 0, .ref a7, .ref a8, .ref a9, .int 0, .ref a11, .ref a12, .ref a13, .ref a14, .int 0, .ref a16])), (a5, .inl (cyI, 20, .inl g5))] sz)) 0 0 (va_A [(h0, .inr (0, [.int 0, .int 0, .int (-1), .int 0, .int 0, .ref a5, .int 0, .ref a7, .ref a8, .ref a9, .int 0, .ref a11, .ref a12, .ref a13, .ref a14, .int 0, .ref a16])), (a5, .inl (cyI, 20, .inl g5))] sz) := by
  refine Met.ofW (cc := cX0_takeMore) (maxL := 2) (ret := (some .int)) (by decide) rfl ?_
  intro p e s m args below meth c s₁ B hml hv
  obtain ⟨rfl, ⟨hsz, hP, hK, hN⟩, hD0⟩ := hv
  have hx := B.exec
  have hb := B.bytes
  have hr := B.returns
  have hts := atoms_spec (ws := wsX0_takeMore) B.pre
  have hown : s.vm.findClass RX0 = some m.cls := findClass_of_methodNamed B.named
  have hlocks := B.notSynchronized
  have k_1 := hts (.fieldLink RX0 15 "FlowJudge$Code" "arguments" "[I") (by decide +kernel)
  have k_2 := hts (.fieldLink RX0 56 "FlowJudge$Code" "argumentCount" "I") (by decide +kernel)
  subst hsz
  have hD := hD0.self (sz := s.heap.size)
  generalize hAe : va_A [(h0, .inr (0, [.int 0, .int 0, .int (-1), .int 0, .int 0, .ref a5, .int 0, .ref a7, .ref a8, .ref a9, .int 0, .ref a11, .ref a12, .ref a13, .ref a14, .int 0, .ref a16])), (a5, .inl (cyI, 20, .inl g5))] s.heap.size = A at hD ⊢
  have hA : ∀ q : Nat, s.heap.size ≤ q → A q := fun q h => by rw [← hAe]; exact Or.inr h
  have hS : va_S A s.heap s.heap [] := va_S.rf
  have hP : va_P (dC, dI) vwCl [(h0, .inr (0, [.int 0, .int 0, .int (-1), .int 0, .int 0, .ref a5, .int 0, .ref a7, .ref a8, .ref a9, .int 0, .ref a11, .ref a12, .ref a13, .ref a14, .int 0, .ref a16])), (a5, .inl (cyI, 20, .inl g5))] s.heap := hP
  have hl := lv_entry ([.ref h0, .int p0]) (n := 2) (Nat.le_of_ble_eq_true rfl)
  rw [lg_entry_eq]
  generalize (lg_sl ([.ref h0, .int p0]) ++ List.replicate (2 - (lg_sl ([.ref h0, .int p0])).length) Slot.unset).toArray = ls at hl ⊢
  have hl : lv_has ls 2 [(0, .ref h0), (1, .int p0)] := hl
  obtain ⟨H, hH⟩ : ∃ z, z = s.heap := ⟨_, rfl⟩
  refine x_here hH ?_
  have hP : va_P (dC, dI) vwCl [(h0, .inr (0, [.int 0, .int 0, .int (-1), .int 0, .int 0, .ref a5, .int 0, .ref a7, .ref a8, .ref a9, .int 0, .ref a11, .ref a12, .ref a13, .ref a14, .int 0, .ref a16])), (a5, .inl (cyI, 20, .inl g5))] H := by rw [hH]; exact hP
  have hS : va_S A s.heap H [] := by rw [hH]; exact va_S.rf
  clear hH
  refine lv_aload_n hx hb dX0_takeMore_0 rfl (lv_at hl 0 rfl) ?_
  refine va_get (D := (dC, dI)) (ci := 0) (v := .ref a5) (C := RX0) (T := TX0) (N := 17) hx hb hts i_X0_takeMore_X0 hown hK hP 0 rfl rfl 5 (by decide) k_1 (fun _ h9 => h9) rfl dX0_takeMore_1 ?_
  refine lv_aload_n hx hb dX0_takeMore_4 rfl (lv_at hl 0 rfl) ?_
  refine va_get (D := (dC, dI)) (ci := 0) (v := .int 0) (C := RX0) (T := TX0) (N := 17) hx hb hts i_X0_takeMore_X0 hown hK hP 0 rfl rfl 6 (by decide) k_2 (fun _ h9 => h9) rfl dX0_takeMore_5 ?_
  refine lv_iload_n hx hb dX0_takeMore_8 rfl (lv_at hl 1 rfl) ?_
  refine va_iast hx hb hK hP hD hS 1 0 rfl rfl (x_lit _ _ (by decide)) dX0_takeMore_9 (fun H locs hP hD hS => ?_)
  have hP : va_P (dC, dI) vwCl [(h0, .inr (0, [.int 0, .int 0, .int (-1), .int 0, .int 0, .ref a5, .int 0, .ref a7, .ref a8, .ref a9, .int 0, .ref a11, .ref a12, .ref a13, .ref a14, .int 0, .ref a16])), (a5, .inl (cyI, 20, .inl (upd g5 (Int32.toNatClampNeg 0) p0)))] H := hP
  have hD : va_D A [(h0, .inr (0, [.int 0, .int 0, .int (-1), .int 0, .int 0, .ref a5, .int 0, .ref a7, .ref a8, .ref a9, .int 0, .ref a11, .ref a12, .ref a13, .ref a14, .int 0, .ref a16])), (a5, .inl (cyI, 20, .inl (upd g5 (Int32.toNatClampNeg 0) p0)))] := hD
  refine lv_aload_n hx hb dX0_takeMore_10 rfl (lv_at hl 0 rfl) ?_
  refine lv_dup hx hb dX0_takeMore_11 rfl ?_
  refine va_get (D := (dC, dI)) (ci := 0) (v := .int 0) (C := RX0) (T := TX0) (N := 17) hx hb hts i_X0_takeMore_X0 hown hK hP 0 rfl rfl 6 (by decide) k_2 (fun _ h9 => h9) rfl dX0_takeMore_12 ?_
  refine lv_iconst (v := 1) hx hb dX0_takeMore_15 (by decide) ?_
  refine lv_iadd hx hb dX0_takeMore_16 ?_
  refine lv_topi (fun z_1 ez_1 => ?_)
  obtain rfl : z_1 = 1 := ez_1.trans (by decide)
  refine va_put (D := (dC, dI)) (ci := 0) (v := .int 1) (ty := .int) (C := RX0) (T := TX0) (N := 17) hx hb hts i_X0_takeMore_X0 tyX0 tyX0_ok nmX0 hown hK hP hD hS 0 rfl rfl 6 (by decide) k_2 (fun _ h9 => h9) rfl (by decide +kernel) rfl rfl (Nat.le_of_ble_eq_true rfl) dX0_takeMore_17 (fun H locs hP hD hS => ?_)
  have hP : va_P (dC, dI) vwCl [(h0, .inr (0, [.int 0, .int 0, .int (-1), .int 0, .int 0, .ref a5, .int 1, .ref a7, .ref a8, .ref a9, .int 0, .ref a11, .ref a12, .ref a13, .ref a14, .int 0, .ref a16])), (a5, .inl (cyI, 20, .inl (upd g5 (Int32.toNatClampNeg 0) p0)))] H := hP
  have hD : va_D A [(h0, .inr (0, [.int 0, .int 0, .int (-1), .int 0, .int 0, .ref a5, .int 1, .ref a7, .ref a8, .ref a9, .int 0, .ref a11, .ref a12, .ref a13, .ref a14, .int 0, .ref a16])), (a5, .inl (cyI, 20, .inl (upd g5 (Int32.toNatClampNeg 0) p0)))] := hD
  refine lv_aload_n hx hb dX0_takeMore_20 rfl (lv_at hl 0 rfl) ?_
  refine va_get (D := (dC, dI)) (ci := 0) (v := .int 1) (C := RX0) (T := TX0) (N := 17) hx hb hts i_X0_takeMore_X0 hown hK hP 0 rfl rfl 6 (by decide) k_2 (fun _ h9 => h9) rfl dX0_takeMore_21 ?_
  exact W.iret hx hb hr (fun t ht hW => ⟨⟨_, (), rfl, rfl, trivial⟩, hS.F ht⟩) hS.2.2 dX0_takeMore_24

theorem i_X0_enter_X0 : ∀ w ∈ wsX00, w ∈ wsX0_enter := by decide +kernel
set_option maxHeartbeats 4000000 in
set_option maxRecDepth 100000 in
theorem c_X0_enter (l : Launch) (dC : Nat → ClassId) (dI : Nat → Nat → Nat) (cyI cyZ cyJ : ClassId) (sz : Nat) (h0 : Nat) (a5 : Nat) (a7 : Nat) (a8 : Nat) (a9 : Nat) (a11 : Nat) (a12 : Nat) (a13 : Nat) (a14 : Nat) (a16 : Nat) (g7 : Nat → Int32) (g8 : Nat → Int32) (g9 : Nat → Int32) (g12 : Nat → Int32) (g13 : Nat → Int32) (p0 : Int32) (p1 : Int32) (p2 : Int32) : Met l yX0_enter wsX0_enter ({ frames := 0, cells := 0, slots := 0, locals := 0 }) (va_Pc [.ref h0, .int p0, .int p1, .int p2] (x_PreD (dC, dI) (x_T cyI cyZ cyJ) [(h0, .inr (0, [.int 0, .int 0, .int (-1), .int 0, .int 0, .ref a5, .int 0, .ref a7, .ref a8, .ref a9, .int 0, .ref a11, .ref a12, .ref a13, .ref a14, .int 0, .ref a16])), (a7, .inl (cyI, 1000, .inl g7)), (a8, .inl (cyI, 1000, .inl g8)), (a9, .inl (cyI, 1000, .inl g9)), (a12, .inl (cyI, 1000, .inl g12)), (a13, .inl (cyI, 1000, .inl g13))] sz)) (va_Qi (fun (r : Int32) (_ : Unit) => r = 0) (fun _ _ => True) (va_A [(h0, .inr (0, [.int 0, .int 0, .int (-1), .int 0, .int 0, .ref a5, .int 0, .ref a7, .ref a8, .ref a9, .int 0, .ref a11, .ref a12, .ref a13, .ref a14, .int 0, .ref a16])), (a7, .inl (cyI, 1000, .inl g7)), (a8, .inl (cyI, 1000, .inl g8)), (a9, .inl (cyI, 1000, .inl g9)), (a12, .inl (cyI, 1000, .inl g12)), (a13, .inl (cyI, 1000, .inl g13))] sz)) 0 0 (va_A [(h0, .inr (0, [.int 0, .int 0, .int (-1), .int 0, .int 0, .ref a5, .int 0, .ref a7, .ref a8, .ref a9, .int 0, .ref a11, .ref a12, .ref a13, .ref a14, .int 0, .ref a16])), (a7, .inl (cyI, 1000, .inl g7)), (a8, .inl (cyI, 1000, .inl g8)), (a9, .inl (cyI, 1000, .inl g9)), (a12, .inl (cyI, 1000, .inl g12)), (a13, .inl (cyI, 1000, .inl g13))] sz) := by
  refine Met.ofW (cc := cX0_enter) (maxL := 5) (ret := (some .int)) (by decide) rfl ?_
  intro p e s m args below meth c s₁ B hml hv
  obtain ⟨rfl, ⟨hsz, hP, hK, hN⟩, hD0⟩ := hv
  have hx := B.exec
  have hb := B.bytes
  have hr := B.returns
  have hts := atoms_spec (ws := wsX0_enter) B.pre
  have hown : s.vm.findClass RX0 = some m.cls := findClass_of_methodNamed B.named
  have hlocks := B.notSynchronized
  have k_1 := hts (.fieldLink RX0 59 "FlowJudge$Code" "count" "I") (by decide +kernel)
  have k_2 := hts (.fieldLink RX0 19 "FlowJudge$Code" "ops" "[I") (by decide +kernel)
  have k_3 := hts (.fieldLink RX0 22 "FlowJudge$Code" "as" "[I") (by decide +kernel)
  have k_4 := hts (.fieldLink RX0 25 "FlowJudge$Code" "bs" "[I") (by decide +kernel)
  have k_5 := hts (.fieldLink RX0 31 "FlowJudge$Code" "firstSwitched" "[I") (by decide +kernel)
  have k_6 := hts (.fieldLink RX0 34 "FlowJudge$Code" "upToSwitched" "[I") (by decide +kernel)
  subst hsz
  have hD := hD0.self (sz := s.heap.size)
  generalize hAe : va_A [(h0, .inr (0, [.int 0, .int 0, .int (-1), .int 0, .int 0, .ref a5, .int 0, .ref a7, .ref a8, .ref a9, .int 0, .ref a11, .ref a12, .ref a13, .ref a14, .int 0, .ref a16])), (a7, .inl (cyI, 1000, .inl g7)), (a8, .inl (cyI, 1000, .inl g8)), (a9, .inl (cyI, 1000, .inl g9)), (a12, .inl (cyI, 1000, .inl g12)), (a13, .inl (cyI, 1000, .inl g13))] s.heap.size = A at hD ⊢
  have hA : ∀ q : Nat, s.heap.size ≤ q → A q := fun q h => by rw [← hAe]; exact Or.inr h
  have hS : va_S A s.heap s.heap [] := va_S.rf
  have hP : va_P (dC, dI) vwCl [(h0, .inr (0, [.int 0, .int 0, .int (-1), .int 0, .int 0, .ref a5, .int 0, .ref a7, .ref a8, .ref a9, .int 0, .ref a11, .ref a12, .ref a13, .ref a14, .int 0, .ref a16])), (a7, .inl (cyI, 1000, .inl g7)), (a8, .inl (cyI, 1000, .inl g8)), (a9, .inl (cyI, 1000, .inl g9)), (a12, .inl (cyI, 1000, .inl g12)), (a13, .inl (cyI, 1000, .inl g13))] s.heap := hP
  have hl := lv_entry ([.ref h0, .int p0, .int p1, .int p2]) (n := 5) (Nat.le_of_ble_eq_true rfl)
  rw [lg_entry_eq]
  generalize (lg_sl ([.ref h0, .int p0, .int p1, .int p2]) ++ List.replicate (5 - (lg_sl ([.ref h0, .int p0, .int p1, .int p2])).length) Slot.unset).toArray = ls at hl ⊢
  have hl : lv_has ls 5 [(0, .ref h0), (1, .int p0), (2, .int p1), (3, .int p2)] := hl
  obtain ⟨H, hH⟩ : ∃ z, z = s.heap := ⟨_, rfl⟩
  refine x_here hH ?_
  have hP : va_P (dC, dI) vwCl [(h0, .inr (0, [.int 0, .int 0, .int (-1), .int 0, .int 0, .ref a5, .int 0, .ref a7, .ref a8, .ref a9, .int 0, .ref a11, .ref a12, .ref a13, .ref a14, .int 0, .ref a16])), (a7, .inl (cyI, 1000, .inl g7)), (a8, .inl (cyI, 1000, .inl g8)), (a9, .inl (cyI, 1000, .inl g9)), (a12, .inl (cyI, 1000, .inl g12)), (a13, .inl (cyI, 1000, .inl g13))] H := by rw [hH]; exact hP
  have hS : va_S A s.heap H [] := by rw [hH]; exact va_S.rf
  clear hH
  refine lv_aload_n hx hb dX0_enter_0 rfl (lv_at hl 0 rfl) ?_
  refine va_get (D := (dC, dI)) (ci := 0) (v := .int 0) (C := RX0) (T := TX0) (N := 17) hx hb hts i_X0_enter_X0 hown hK hP 0 rfl rfl 10 (by decide) k_1 (fun _ h9 => h9) rfl dX0_enter_1 ?_
  refine lv_if_le (tgt := 21) hx hb dX0_enter_4 (by decide) (fun _ => ?_) (fun c_1 => absurd (by decide) c_1)
  refine lv_iconst (v := 0) hx hb dX0_enter_21 (by decide) ?_
  refine lv_istore (lv' := [(4, .int 0), (0, .ref h0), (1, .int p0), (2, .int p1), (3, .int p2)]) hx hb dX0_enter_22 hl (by decide) rfl (fun ls hl => ?_)
  refine lv_aload_n hx hb dX0_enter_24 rfl (lv_at hl 1 rfl) ?_
  refine va_get (D := (dC, dI)) (ci := 0) (v := .ref a7) (C := RX0) (T := TX0) (N := 17) hx hb hts i_X0_enter_X0 hown hK hP 0 rfl rfl 7 (by decide) k_2 (fun _ h9 => h9) rfl dX0_enter_25 ?_
  refine lv_aload_n hx hb dX0_enter_28 rfl (lv_at hl 1 rfl) ?_
  refine va_get (D := (dC, dI)) (ci := 0) (v := .int 0) (C := RX0) (T := TX0) (N := 17) hx hb hts i_X0_enter_X0 hown hK hP 0 rfl rfl 10 (by decide) k_1 (fun _ h9 => h9) rfl dX0_enter_29 ?_
  refine lv_iload_n hx hb dX0_enter_32 rfl (lv_at hl 2 rfl) ?_
  refine va_iast hx hb hK hP hD hS 1 0 rfl rfl (x_lit _ _ (by decide)) dX0_enter_33 (fun H locs hP hD hS => ?_)
  have hP : va_P (dC, dI) vwCl [(h0, .inr (0, [.int 0, .int 0, .int (-1), .int 0, .int 0, .ref a5, .int 0, .ref a7, .ref a8, .ref a9, .int 0, .ref a11, .ref a12, .ref a13, .ref a14, .int 0, .ref a16])), (a7, .inl (cyI, 1000, .inl (upd g7 (Int32.toNatClampNeg 0) p0))), (a8, .inl (cyI, 1000, .inl g8)), (a9, .inl (cyI, 1000, .inl g9)), (a12, .inl (cyI, 1000, .inl g12)), (a13, .inl (cyI, 1000, .inl g13))] H := hP
  have hD : va_D A [(h0, .inr (0, [.int 0, .int 0, .int (-1), .int 0, .int 0, .ref a5, .int 0, .ref a7, .ref a8, .ref a9, .int 0, .ref a11, .ref a12, .ref a13, .ref a14, .int 0, .ref a16])), (a7, .inl (cyI, 1000, .inl (upd g7 (Int32.toNatClampNeg 0) p0))), (a8, .inl (cyI, 1000, .inl g8)), (a9, .inl (cyI, 1000, .inl g9)), (a12, .inl (cyI, 1000, .inl g12)), (a13, .inl (cyI, 1000, .inl g13))] := hD
  refine lv_aload_n hx hb dX0_enter_34 rfl (lv_at hl 1 rfl) ?_
  refine va_get (D := (dC, dI)) (ci := 0) (v := .ref a8) (C := RX0) (T := TX0) (N := 17) hx hb hts i_X0_enter_X0 hown hK hP 0 rfl rfl 8 (by decide) k_3 (fun _ h9 => h9) rfl dX0_enter_35 ?_
  refine lv_aload_n hx hb dX0_enter_38 rfl (lv_at hl 1 rfl) ?_
  refine va_get (D := (dC, dI)) (ci := 0) (v := .int 0) (C := RX0) (T := TX0) (N := 17) hx hb hts i_X0_enter_X0 hown hK hP 0 rfl rfl 10 (by decide) k_1 (fun _ h9 => h9) rfl dX0_enter_39 ?_
  refine lv_iload_n hx hb dX0_enter_42 rfl (lv_at hl 3 rfl) ?_
  refine va_iast hx hb hK hP hD hS 2 0 rfl rfl (x_lit _ _ (by decide)) dX0_enter_43 (fun H locs hP hD hS => ?_)
  have hP : va_P (dC, dI) vwCl [(h0, .inr (0, [.int 0, .int 0, .int (-1), .int 0, .int 0, .ref a5, .int 0, .ref a7, .ref a8, .ref a9, .int 0, .ref a11, .ref a12, .ref a13, .ref a14, .int 0, .ref a16])), (a7, .inl (cyI, 1000, .inl (upd g7 (Int32.toNatClampNeg 0) p0))), (a8, .inl (cyI, 1000, .inl (upd g8 (Int32.toNatClampNeg 0) p1))), (a9, .inl (cyI, 1000, .inl g9)), (a12, .inl (cyI, 1000, .inl g12)), (a13, .inl (cyI, 1000, .inl g13))] H := hP
  have hD : va_D A [(h0, .inr (0, [.int 0, .int 0, .int (-1), .int 0, .int 0, .ref a5, .int 0, .ref a7, .ref a8, .ref a9, .int 0, .ref a11, .ref a12, .ref a13, .ref a14, .int 0, .ref a16])), (a7, .inl (cyI, 1000, .inl (upd g7 (Int32.toNatClampNeg 0) p0))), (a8, .inl (cyI, 1000, .inl (upd g8 (Int32.toNatClampNeg 0) p1))), (a9, .inl (cyI, 1000, .inl g9)), (a12, .inl (cyI, 1000, .inl g12)), (a13, .inl (cyI, 1000, .inl g13))] := hD
  refine lv_aload_n hx hb dX0_enter_44 rfl (lv_at hl 1 rfl) ?_
  refine va_get (D := (dC, dI)) (ci := 0) (v := .ref a9) (C := RX0) (T := TX0) (N := 17) hx hb hts i_X0_enter_X0 hown hK hP 0 rfl rfl 9 (by decide) k_4 (fun _ h9 => h9) rfl dX0_enter_45 ?_
  refine lv_aload_n hx hb dX0_enter_48 rfl (lv_at hl 1 rfl) ?_
  refine va_get (D := (dC, dI)) (ci := 0) (v := .int 0) (C := RX0) (T := TX0) (N := 17) hx hb hts i_X0_enter_X0 hown hK hP 0 rfl rfl 10 (by decide) k_1 (fun _ h9 => h9) rfl dX0_enter_49 ?_
  refine lv_iload_n hx hb dX0_enter_52 rfl (lv_at hl 4 rfl) ?_
  refine va_iast hx hb hK hP hD hS 3 0 rfl rfl (x_lit _ _ (by decide)) dX0_enter_53 (fun H locs hP hD hS => ?_)
  have hP : va_P (dC, dI) vwCl [(h0, .inr (0, [.int 0, .int 0, .int (-1), .int 0, .int 0, .ref a5, .int 0, .ref a7, .ref a8, .ref a9, .int 0, .ref a11, .ref a12, .ref a13, .ref a14, .int 0, .ref a16])), (a7, .inl (cyI, 1000, .inl (upd g7 (Int32.toNatClampNeg 0) p0))), (a8, .inl (cyI, 1000, .inl (upd g8 (Int32.toNatClampNeg 0) p1))), (a9, .inl (cyI, 1000, .inl (upd g9 (Int32.toNatClampNeg 0) p2))), (a12, .inl (cyI, 1000, .inl g12)), (a13, .inl (cyI, 1000, .inl g13))] H := hP
  have hD : va_D A [(h0, .inr (0, [.int 0, .int 0, .int (-1), .int 0, .int 0, .ref a5, .int 0, .ref a7, .ref a8, .ref a9, .int 0, .ref a11, .ref a12, .ref a13, .ref a14, .int 0, .ref a16])), (a7, .inl (cyI, 1000, .inl (upd g7 (Int32.toNatClampNeg 0) p0))), (a8, .inl (cyI, 1000, .inl (upd g8 (Int32.toNatClampNeg 0) p1))), (a9, .inl (cyI, 1000, .inl (upd g9 (Int32.toNatClampNeg 0) p2))), (a12, .inl (cyI, 1000, .inl g12)), (a13, .inl (cyI, 1000, .inl g13))] := hD
  refine lv_aload_n hx hb dX0_enter_54 rfl (lv_at hl 1 rfl) ?_
  refine va_get (D := (dC, dI)) (ci := 0) (v := .ref a12) (C := RX0) (T := TX0) (N := 17) hx hb hts i_X0_enter_X0 hown hK hP 0 rfl rfl 12 (by decide) k_5 (fun _ h9 => h9) rfl dX0_enter_55 ?_
  refine lv_aload_n hx hb dX0_enter_58 rfl (lv_at hl 1 rfl) ?_
  refine va_get (D := (dC, dI)) (ci := 0) (v := .int 0) (C := RX0) (T := TX0) (N := 17) hx hb hts i_X0_enter_X0 hown hK hP 0 rfl rfl 10 (by decide) k_1 (fun _ h9 => h9) rfl dX0_enter_59 ?_
  refine lv_iload hx hb dX0_enter_62 (lv_at hl 0 rfl) ?_
  refine va_iast hx hb hK hP hD hS 4 0 rfl rfl (x_lit _ _ (by decide)) dX0_enter_64 (fun H locs hP hD hS => ?_)
  have hP : va_P (dC, dI) vwCl [(h0, .inr (0, [.int 0, .int 0, .int (-1), .int 0, .int 0, .ref a5, .int 0, .ref a7, .ref a8, .ref a9, .int 0, .ref a11, .ref a12, .ref a13, .ref a14, .int 0, .ref a16])), (a7, .inl (cyI, 1000, .inl (upd g7 (Int32.toNatClampNeg 0) p0))), (a8, .inl (cyI, 1000, .inl (upd g8 (Int32.toNatClampNeg 0) p1))), (a9, .inl (cyI, 1000, .inl (upd g9 (Int32.toNatClampNeg 0) p2))), (a12, .inl (cyI, 1000, .inl (upd g12 (Int32.toNatClampNeg 0) 0))), (a13, .inl (cyI, 1000, .inl g13))] H := hP
  have hD : va_D A [(h0, .inr (0, [.int 0, .int 0, .int (-1), .int 0, .int 0, .ref a5, .int 0, .ref a7, .ref a8, .ref a9, .int 0, .ref a11, .ref a12, .ref a13, .ref a14, .int 0, .ref a16])), (a7, .inl (cyI, 1000, .inl (upd g7 (Int32.toNatClampNeg 0) p0))), (a8, .inl (cyI, 1000, .inl (upd g8 (Int32.toNatClampNeg 0) p1))), (a9, .inl (cyI, 1000, .inl (upd g9 (Int32.toNatClampNeg 0) p2))), (a12, .inl (cyI, 1000, .inl (upd g12 (Int32.toNatClampNeg 0) 0))), (a13, .inl (cyI, 1000, .inl g13))] := hD
  refine lv_aload_n hx hb dX0_enter_65 rfl (lv_at hl 1 rfl) ?_
  refine va_get (D := (dC, dI)) (ci := 0) (v := .ref a13) (C := RX0) (T := TX0) (N := 17) hx hb hts i_X0_enter_X0 hown hK hP 0 rfl rfl 13 (by decide) k_6 (fun _ h9 => h9) rfl dX0_enter_66 ?_
  refine lv_aload_n hx hb dX0_enter_69 rfl (lv_at hl 1 rfl) ?_
  refine va_get (D := (dC, dI)) (ci := 0) (v := .int 0) (C := RX0) (T := TX0) (N := 17) hx hb hts i_X0_enter_X0 hown hK hP 0 rfl rfl 10 (by decide) k_1 (fun _ h9 => h9) rfl dX0_enter_70 ?_
  refine lv_iload hx hb dX0_enter_73 (lv_at hl 0 rfl) ?_
  refine va_iast hx hb hK hP hD hS 5 0 rfl rfl (x_lit _ _ (by decide)) dX0_enter_75 (fun H locs hP hD hS => ?_)
  have hP : va_P (dC, dI) vwCl [(h0, .inr (0, [.int 0, .int 0, .int (-1), .int 0, .int 0, .ref a5, .int 0, .ref a7, .ref a8, .ref a9, .int 0, .ref a11, .ref a12, .ref a13, .ref a14, .int 0, .ref a16])), (a7, .inl (cyI, 1000, .inl (upd g7 (Int32.toNatClampNeg 0) p0))), (a8, .inl (cyI, 1000, .inl (upd g8 (Int32.toNatClampNeg 0) p1))), (a9, .inl (cyI, 1000, .inl (upd g9 (Int32.toNatClampNeg 0) p2))), (a12, .inl (cyI, 1000, .inl (upd g12 (Int32.toNatClampNeg 0) 0))), (a13, .inl (cyI, 1000, .inl (upd g13 (Int32.toNatClampNeg 0) 0)))] H := hP
  have hD : va_D A [(h0, .inr (0, [.int 0, .int 0, .int (-1), .int 0, .int 0, .ref a5, .int 0, .ref a7, .ref a8, .ref a9, .int 0, .ref a11, .ref a12, .ref a13, .ref a14, .int 0, .ref a16])), (a7, .inl (cyI, 1000, .inl (upd g7 (Int32.toNatClampNeg 0) p0))), (a8, .inl (cyI, 1000, .inl (upd g8 (Int32.toNatClampNeg 0) p1))), (a9, .inl (cyI, 1000, .inl (upd g9 (Int32.toNatClampNeg 0) p2))), (a12, .inl (cyI, 1000, .inl (upd g12 (Int32.toNatClampNeg 0) 0))), (a13, .inl (cyI, 1000, .inl (upd g13 (Int32.toNatClampNeg 0) 0)))] := hD
  refine lv_aload_n hx hb dX0_enter_76 rfl (lv_at hl 1 rfl) ?_
  refine lv_dup hx hb dX0_enter_77 rfl ?_
  refine va_get (D := (dC, dI)) (ci := 0) (v := .int 0) (C := RX0) (T := TX0) (N := 17) hx hb hts i_X0_enter_X0 hown hK hP 0 rfl rfl 10 (by decide) k_1 (fun _ h9 => h9) rfl dX0_enter_78 ?_
  refine lv_dup_x1 hx hb dX0_enter_81 rfl rfl ?_
  refine lv_iconst (v := 1) hx hb dX0_enter_82 (by decide) ?_
  refine lv_iadd hx hb dX0_enter_83 ?_
  refine lv_topi (fun z_2 ez_2 => ?_)
  obtain rfl : z_2 = 1 := ez_2.trans (by decide)
  refine va_put (D := (dC, dI)) (ci := 0) (v := .int 1) (ty := .int) (C := RX0) (T := TX0) (N := 17) hx hb hts i_X0_enter_X0 tyX0 tyX0_ok nmX0 hown hK hP hD hS 0 rfl rfl 10 (by decide) k_1 (fun _ h9 => h9) rfl (by decide +kernel) rfl rfl (Nat.le_of_ble_eq_true rfl) dX0_enter_84 (fun H locs hP hD hS => ?_)
  have hP : va_P (dC, dI) vwCl [(h0, .inr (0, [.int 0, .int 0, .int (-1), .int 0, .int 0, .ref a5, .int 0, .ref a7, .ref a8, .ref a9, .int 1, .ref a11, .ref a12, .ref a13, .ref a14, .int 0, .ref a16])), (a7, .inl (cyI, 1000, .inl (upd g7 (Int32.toNatClampNeg 0) p0))), (a8, .inl (cyI, 1000, .inl (upd g8 (Int32.toNatClampNeg 0) p1))), (a9, .inl (cyI, 1000, .inl (upd g9 (Int32.toNatClampNeg 0) p2))), (a12, .inl (cyI, 1000, .inl (upd g12 (Int32.toNatClampNeg 0) 0))), (a13, .inl (cyI, 1000, .inl (upd g13 (Int32.toNatClampNeg 0) 0)))] H := hP
  have hD : va_D A [(h0, .inr (0, [.int 0, .int 0, .int (-1), .int 0, .int 0, .ref a5, .int 0, .ref a7, .ref a8, .ref a9, .int 1, .ref a11, .ref a12, .ref a13, .ref a14, .int 0, .ref a16])), (a7, .inl (cyI, 1000, .inl (upd g7 (Int32.toNatClampNeg 0) p0))), (a8, .inl (cyI, 1000, .inl (upd g8 (Int32.toNatClampNeg 0) p1))), (a9, .inl (cyI, 1000, .inl (upd g9 (Int32.toNatClampNeg 0) p2))), (a12, .inl (cyI, 1000, .inl (upd g12 (Int32.toNatClampNeg 0) 0))), (a13, .inl (cyI, 1000, .inl (upd g13 (Int32.toNatClampNeg 0) 0)))] := hD
  exact W.iret hx hb hr (fun t ht hW => ⟨⟨_, (), rfl, rfl, trivial⟩, hS.F ht⟩) hS.2.2 dX0_enter_87

theorem i_X0_canSwitchToMore_X0 : ∀ w ∈ wsX00, w ∈ wsX0_canSwitchToMore := by decide +kernel
set_option maxHeartbeats 4000000 in
set_option maxRecDepth 100000 in
theorem c_X0_canSwitchToMore (l : Launch) (dC : Nat → ClassId) (dI : Nat → Nat → Nat) (cyI cyZ cyJ : ClassId) (sz : Nat) (h0 : Nat) (a5 : Nat) (a7 : Nat) (a8 : Nat) (a9 : Nat) (a11 : Nat) (a12 : Nat) (a13 : Nat) (a14 : Nat) (a16 : Nat) : Met l yX0_canSwitchToMore wsX0_canSwitchToMore ({ frames := 0, cells := 0, slots := 0, locals := 0 }) (va_Pc [.ref h0] (x_Pre (dC, dI) (x_T cyI cyZ cyJ) [(h0, .inr (0, [.int 0, .int 0, .int (-1), .int 0, .int 0, .ref a5, .int 0, .ref a7, .ref a8, .ref a9, .int 0, .ref a11, .ref a12, .ref a13, .ref a14, .int 0, .ref a16]))] sz)) (va_Qi (fun (r : Int32) (_ : Unit) => r = 0) (fun _ _ => True) (x_new sz)) 0 0 (x_new sz) := by
  refine Met.ofW (cc := cX0_canSwitchToMore) (maxL := 2) (ret := (some .boolean)) (by decide) rfl ?_
  intro p e s m args below meth c s₁ B hml hv
  obtain ⟨rfl, hsz, hP, hK, hN⟩ := hv
  have hx := B.exec
  have hb := B.bytes
  have hr := B.returns
  have hts := atoms_spec (ws := wsX0_canSwitchToMore) B.pre
  have hown : s.vm.findClass RX0 = some m.cls := findClass_of_methodNamed B.named
  have hlocks := B.notSynchronized
  have k_1 := hts (.fieldLink RX0 59 "FlowJudge$Code" "count" "I") (by decide +kernel)
  subst hsz
  have hA : ∀ q : Nat, s.heap.size ≤ q → x_new s.heap.size q := fun _ h => h
  have hS : va_S (x_new s.heap.size) s.heap s.heap [] := va_S.rf
  have hP : va_P (dC, dI) vwCl [(h0, .inr (0, [.int 0, .int 0, .int (-1), .int 0, .int 0, .ref a5, .int 0, .ref a7, .ref a8, .ref a9, .int 0, .ref a11, .ref a12, .ref a13, .ref a14, .int 0, .ref a16]))] s.heap := hP
  have hl := lv_entry ([.ref h0]) (n := 2) (Nat.le_of_ble_eq_true rfl)
  rw [lg_entry_eq]
  generalize (lg_sl ([.ref h0]) ++ List.replicate (2 - (lg_sl ([.ref h0])).length) Slot.unset).toArray = ls at hl ⊢
  have hl : lv_has ls 2 [(0, .ref h0)] := hl
  obtain ⟨H, hH⟩ : ∃ z, z = s.heap := ⟨_, rfl⟩
  refine x_here hH ?_
  have hP : va_P (dC, dI) vwCl [(h0, .inr (0, [.int 0, .int 0, .int (-1), .int 0, .int 0, .ref a5, .int 0, .ref a7, .ref a8, .ref a9, .int 0, .ref a11, .ref a12, .ref a13, .ref a14, .int 0, .ref a16]))] H := by rw [hH]; exact hP
  have hS : va_S (x_new s.heap.size) s.heap H [] := by rw [hH]; exact va_S.rf
  clear hH
  refine lv_aload_n hx hb dX0_canSwitchToMore_0 rfl (lv_at hl 0 rfl) ?_
  refine va_get (D := (dC, dI)) (ci := 0) (v := .int 0) (C := RX0) (T := TX0) (N := 17) hx hb hts i_X0_canSwitchToMore_X0 hown hK hP 0 rfl rfl 10 (by decide) k_1 (fun _ h9 => h9) rfl dX0_canSwitchToMore_1 ?_
  refine lv_iconst (v := 1) hx hb dX0_canSwitchToMore_4 (by decide) ?_
  refine lv_isub hx hb dX0_canSwitchToMore_5 ?_
  refine lv_topi (fun z_1 ez_1 => ?_)
  obtain rfl : z_1 = (-1) := ez_1.trans (by decide)
  refine lv_istore_n (lv' := [(1, .int (-1)), (0, .ref h0)]) hx hb dX0_canSwitchToMore_6 rfl hl (by decide) rfl (fun ls hl => ?_)
  refine lv_iload_n hx hb dX0_canSwitchToMore_7 rfl (lv_at hl 0 rfl) ?_
  refine lv_if_lt (tgt := 45) hx hb dX0_canSwitchToMore_8 (by decide) (fun _ => ?_) (fun c_2 => absurd (by decide) c_2)
  refine lv_iconst (v := 0) hx hb dX0_canSwitchToMore_45 (by decide) ?_
  exact W.zret (ty := .boolean) hx hb hr rfl (fun t ht hW => ⟨⟨_, (), rfl, rfl, trivial⟩, hS.F ht⟩) hS.2.2 dX0_canSwitchToMore_46

theorem i_X0_enterRow_X0 : ∀ w ∈ wsX00, w ∈ wsX0_enterRow := by decide +kernel
set_option maxHeartbeats 4000000 in
set_option maxRecDepth 100000 in
theorem c_X0_enterRow (l : Launch) (dC : Nat → ClassId) (dI : Nat → Nat → Nat) (cyI cyZ cyJ : ClassId) (sz : Nat) (h0 : Nat) (a5 : Nat) (a7 : Nat) (a8 : Nat) (a9 : Nat) (a11 : Nat) (a12 : Nat) (a13 : Nat) (a14 : Nat) (a16 : Nat) (g14 : Nat → Int32) (p0 : Int32) (p1 : Int32) (p2 : Int32) (p3 : Int32) : Met l yX0_enterRow wsX0_enterRow ({ frames := 0, cells := 0, slots := 0, locals := 0 }) (va_Pc [.ref h0, .int p0, .int p1, .int p2, .int p3] (x_PreD (dC, dI) (x_T cyI cyZ cyJ) [(h0, .inr (0, [.int 0, .int 0, .int (-1), .int 0, .int 0, .ref a5, .int 0, .ref a7, .ref a8, .ref a9, .int 0, .ref a11, .ref a12, .ref a13, .ref a14, .int 0, .ref a16])), (a14, .inl (cyI, 200, .inl g14))] sz)) (va_Qi (fun (r : Int32) (_ : Unit) => r = 1) (fun _ _ => True) (va_A [(h0, .inr (0, [.int 0, .int 0, .int (-1), .int 0, .int 0, .ref a5, .int 0, .ref a7, .ref a8, .ref a9, .int 0, .ref a11, .ref a12, .ref a13, .ref a14, .int 0, .ref a16])), (a14, .inl (cyI, 200, .inl g14))] sz)) 0 0 (va_A [(h0, .inr (0, [.int 0, .int 0, .int (-1), .int 0, .int 0, .ref a5, .int 0, .ref a7, .ref a8, .ref a9, .int 0, .ref a11, .ref a12, .ref a13, .ref a14, .int 0, .ref a16])), (a14, .inl (cyI, 200, .inl g14))] sz) := by
  refine Met.ofW (cc := cX0_enterRow) (maxL := 6) (ret := (some .int)) (by decide) rfl ?_
  intro p e s m args below meth c s₁ B hml hv
  obtain ⟨rfl, ⟨hsz, hP, hK, hN⟩, hD0⟩ := hv
  have hx := B.exec
  have hb := B.bytes
  have hr := B.returns
  have hts := atoms_spec (ws := wsX0_enterRow) B.pre
  have hown : s.vm.findClass RX0 = some m.cls := findClass_of_methodNamed B.named
  have hlocks := B.notSynchronized
  have k_1 := hts (.fieldLink RX0 62 "FlowJudge$Code" "rowCount" "I") (by decide +kernel)
  have k_2 := hts (.fieldLink RX0 37 "FlowJudge$Code" "rows" "[I") (by decide +kernel)
  subst hsz
  have hD := hD0.self (sz := s.heap.size)
  generalize hAe : va_A [(h0, .inr (0, [.int 0, .int 0, .int (-1), .int 0, .int 0, .ref a5, .int 0, .ref a7, .ref a8, .ref a9, .int 0, .ref a11, .ref a12, .ref a13, .ref a14, .int 0, .ref a16])), (a14, .inl (cyI, 200, .inl g14))] s.heap.size = A at hD ⊢
  have hA : ∀ q : Nat, s.heap.size ≤ q → A q := fun q h => by rw [← hAe]; exact Or.inr h
  have hS : va_S A s.heap s.heap [] := va_S.rf
  have hP : va_P (dC, dI) vwCl [(h0, .inr (0, [.int 0, .int 0, .int (-1), .int 0, .int 0, .ref a5, .int 0, .ref a7, .ref a8, .ref a9, .int 0, .ref a11, .ref a12, .ref a13, .ref a14, .int 0, .ref a16])), (a14, .inl (cyI, 200, .inl g14))] s.heap := hP
  have hl := lv_entry ([.ref h0, .int p0, .int p1, .int p2, .int p3]) (n := 6) (Nat.le_of_ble_eq_true rfl)
  rw [lg_entry_eq]
  generalize (lg_sl ([.ref h0, .int p0, .int p1, .int p2, .int p3]) ++ List.replicate (6 - (lg_sl ([.ref h0, .int p0, .int p1, .int p2, .int p3])).length) Slot.unset).toArray = ls at hl ⊢
  have hl : lv_has ls 6 [(0, .ref h0), (1, .int p0), (2, .int p1), (3, .int p2), (4, .int p3)] := hl
  obtain ⟨H, hH⟩ : ∃ z, z = s.heap := ⟨_, rfl⟩
  refine x_here hH ?_
  have hP : va_P (dC, dI) vwCl [(h0, .inr (0, [.int 0, .int 0, .int (-1), .int 0, .int 0, .ref a5, .int 0, .ref a7, .ref a8, .ref a9, .int 0, .ref a11, .ref a12, .ref a13, .ref a14, .int 0, .ref a16])), (a14, .inl (cyI, 200, .inl g14))] H := by rw [hH]; exact hP
  have hS : va_S A s.heap H [] := by rw [hH]; exact va_S.rf
  clear hH
  refine lv_iconst (v := 4) hx hb dX0_enterRow_0 (by decide) ?_
  refine lv_aload_n hx hb dX0_enterRow_1 rfl (lv_at hl 0 rfl) ?_
  refine va_get (D := (dC, dI)) (ci := 0) (v := .int 0) (C := RX0) (T := TX0) (N := 17) hx hb hts i_X0_enterRow_X0 hown hK hP 0 rfl rfl 15 (by decide) k_1 (fun _ h9 => h9) rfl dX0_enterRow_2 ?_
  refine lv_imul hx hb dX0_enterRow_5 ?_
  refine lv_topi (fun z_1 ez_1 => ?_)
  obtain rfl : z_1 = 0 := ez_1.trans (by decide)
  refine lv_istore (lv' := [(5, .int 0), (0, .ref h0), (1, .int p0), (2, .int p1), (3, .int p2), (4, .int p3)]) hx hb dX0_enterRow_6 hl (by decide) rfl (fun ls hl => ?_)
  refine lv_aload_n hx hb dX0_enterRow_8 rfl (lv_at hl 1 rfl) ?_
  refine va_get (D := (dC, dI)) (ci := 0) (v := .ref a14) (C := RX0) (T := TX0) (N := 17) hx hb hts i_X0_enterRow_X0 hown hK hP 0 rfl rfl 14 (by decide) k_2 (fun _ h9 => h9) rfl dX0_enterRow_9 ?_
  refine lv_iload hx hb dX0_enterRow_12 (lv_at hl 0 rfl) ?_
  refine lv_iload_n hx hb dX0_enterRow_14 rfl (lv_at hl 2 rfl) ?_
  refine va_iast hx hb hK hP hD hS 1 0 rfl rfl (x_lit _ _ (by decide)) dX0_enterRow_15 (fun H locs hP hD hS => ?_)
  have hP : va_P (dC, dI) vwCl [(h0, .inr (0, [.int 0, .int 0, .int (-1), .int 0, .int 0, .ref a5, .int 0, .ref a7, .ref a8, .ref a9, .int 0, .ref a11, .ref a12, .ref a13, .ref a14, .int 0, .ref a16])), (a14, .inl (cyI, 200, .inl (upd g14 (Int32.toNatClampNeg 0) p0)))] H := hP
  have hD : va_D A [(h0, .inr (0, [.int 0, .int 0, .int (-1), .int 0, .int 0, .ref a5, .int 0, .ref a7, .ref a8, .ref a9, .int 0, .ref a11, .ref a12, .ref a13, .ref a14, .int 0, .ref a16])), (a14, .inl (cyI, 200, .inl (upd g14 (Int32.toNatClampNeg 0) p0)))] := hD
  refine lv_aload_n hx hb dX0_enterRow_16 rfl (lv_at hl 1 rfl) ?_
  refine va_get (D := (dC, dI)) (ci := 0) (v := .ref a14) (C := RX0) (T := TX0) (N := 17) hx hb hts i_X0_enterRow_X0 hown hK hP 0 rfl rfl 14 (by decide) k_2 (fun _ h9 => h9) rfl dX0_enterRow_17 ?_
  refine lv_iload hx hb dX0_enterRow_20 (lv_at hl 0 rfl) ?_
  refine lv_iconst (v := 1) hx hb dX0_enterRow_22 (by decide) ?_
  refine lv_iadd hx hb dX0_enterRow_23 ?_
  refine lv_topi (fun z_2 ez_2 => ?_)
  obtain rfl : z_2 = 1 := ez_2.trans (by decide)
  refine lv_iload_n hx hb dX0_enterRow_24 rfl (lv_at hl 3 rfl) ?_
  refine va_iast hx hb hK hP hD hS 1 0 rfl rfl (x_lit _ _ (by decide)) dX0_enterRow_25 (fun H locs hP hD hS => ?_)
  have hP : va_P (dC, dI) vwCl [(h0, .inr (0, [.int 0, .int 0, .int (-1), .int 0, .int 0, .ref a5, .int 0, .ref a7, .ref a8, .ref a9, .int 0, .ref a11, .ref a12, .ref a13, .ref a14, .int 0, .ref a16])), (a14, .inl (cyI, 200, .inl (upd (upd g14 (Int32.toNatClampNeg 0) p0) (Int32.toNatClampNeg 1) p1)))] H := hP
  have hD : va_D A [(h0, .inr (0, [.int 0, .int 0, .int (-1), .int 0, .int 0, .ref a5, .int 0, .ref a7, .ref a8, .ref a9, .int 0, .ref a11, .ref a12, .ref a13, .ref a14, .int 0, .ref a16])), (a14, .inl (cyI, 200, .inl (upd (upd g14 (Int32.toNatClampNeg 0) p0) (Int32.toNatClampNeg 1) p1)))] := hD
  refine lv_aload_n hx hb dX0_enterRow_26 rfl (lv_at hl 1 rfl) ?_
  refine va_get (D := (dC, dI)) (ci := 0) (v := .ref a14) (C := RX0) (T := TX0) (N := 17) hx hb hts i_X0_enterRow_X0 hown hK hP 0 rfl rfl 14 (by decide) k_2 (fun _ h9 => h9) rfl dX0_enterRow_27 ?_
  refine lv_iload hx hb dX0_enterRow_30 (lv_at hl 0 rfl) ?_
  refine lv_iconst (v := 2) hx hb dX0_enterRow_32 (by decide) ?_
  refine lv_iadd hx hb dX0_enterRow_33 ?_
  refine lv_topi (fun z_3 ez_3 => ?_)
  obtain rfl : z_3 = 2 := ez_3.trans (by decide)
  refine lv_iload_n hx hb dX0_enterRow_34 rfl (lv_at hl 4 rfl) ?_
  refine va_iast hx hb hK hP hD hS 1 0 rfl rfl (x_lit _ _ (by decide)) dX0_enterRow_35 (fun H locs hP hD hS => ?_)
  have hP : va_P (dC, dI) vwCl [(h0, .inr (0, [.int 0, .int 0, .int (-1), .int 0, .int 0, .ref a5, .int 0, .ref a7, .ref a8, .ref a9, .int 0, .ref a11, .ref a12, .ref a13, .ref a14, .int 0, .ref a16])), (a14, .inl (cyI, 200, .inl (upd (upd (upd g14 (Int32.toNatClampNeg 0) p0) (Int32.toNatClampNeg 1) p1) (Int32.toNatClampNeg 2) p2)))] H := hP
  have hD : va_D A [(h0, .inr (0, [.int 0, .int 0, .int (-1), .int 0, .int 0, .ref a5, .int 0, .ref a7, .ref a8, .ref a9, .int 0, .ref a11, .ref a12, .ref a13, .ref a14, .int 0, .ref a16])), (a14, .inl (cyI, 200, .inl (upd (upd (upd g14 (Int32.toNatClampNeg 0) p0) (Int32.toNatClampNeg 1) p1) (Int32.toNatClampNeg 2) p2)))] := hD
  refine lv_aload_n hx hb dX0_enterRow_36 rfl (lv_at hl 1 rfl) ?_
  refine va_get (D := (dC, dI)) (ci := 0) (v := .ref a14) (C := RX0) (T := TX0) (N := 17) hx hb hts i_X0_enterRow_X0 hown hK hP 0 rfl rfl 14 (by decide) k_2 (fun _ h9 => h9) rfl dX0_enterRow_37 ?_
  refine lv_iload hx hb dX0_enterRow_40 (lv_at hl 0 rfl) ?_
  refine lv_iconst (v := 3) hx hb dX0_enterRow_42 (by decide) ?_
  refine lv_iadd hx hb dX0_enterRow_43 ?_
  refine lv_topi (fun z_4 ez_4 => ?_)
  obtain rfl : z_4 = 3 := ez_4.trans (by decide)
  refine lv_iload hx hb dX0_enterRow_44 (lv_at hl 5 rfl) ?_
  refine va_iast hx hb hK hP hD hS 1 0 rfl rfl (x_lit _ _ (by decide)) dX0_enterRow_46 (fun H locs hP hD hS => ?_)
  have hP : va_P (dC, dI) vwCl [(h0, .inr (0, [.int 0, .int 0, .int (-1), .int 0, .int 0, .ref a5, .int 0, .ref a7, .ref a8, .ref a9, .int 0, .ref a11, .ref a12, .ref a13, .ref a14, .int 0, .ref a16])), (a14, .inl (cyI, 200, .inl (upd (upd (upd (upd g14 (Int32.toNatClampNeg 0) p0) (Int32.toNatClampNeg 1) p1) (Int32.toNatClampNeg 2) p2) (Int32.toNatClampNeg 3) p3)))] H := hP
  have hD : va_D A [(h0, .inr (0, [.int 0, .int 0, .int (-1), .int 0, .int 0, .ref a5, .int 0, .ref a7, .ref a8, .ref a9, .int 0, .ref a11, .ref a12, .ref a13, .ref a14, .int 0, .ref a16])), (a14, .inl (cyI, 200, .inl (upd (upd (upd (upd g14 (Int32.toNatClampNeg 0) p0) (Int32.toNatClampNeg 1) p1) (Int32.toNatClampNeg 2) p2) (Int32.toNatClampNeg 3) p3)))] := hD
  refine lv_aload_n hx hb dX0_enterRow_47 rfl (lv_at hl 1 rfl) ?_
  refine lv_dup hx hb dX0_enterRow_48 rfl ?_
  refine va_get (D := (dC, dI)) (ci := 0) (v := .int 0) (C := RX0) (T := TX0) (N := 17) hx hb hts i_X0_enterRow_X0 hown hK hP 0 rfl rfl 15 (by decide) k_1 (fun _ h9 => h9) rfl dX0_enterRow_49 ?_
  refine lv_iconst (v := 1) hx hb dX0_enterRow_52 (by decide) ?_
  refine lv_iadd hx hb dX0_enterRow_53 ?_
  refine lv_topi (fun z_5 ez_5 => ?_)
  obtain rfl : z_5 = 1 := ez_5.trans (by decide)
  refine va_put (D := (dC, dI)) (ci := 0) (v := .int 1) (ty := .int) (C := RX0) (T := TX0) (N := 17) hx hb hts i_X0_enterRow_X0 tyX0 tyX0_ok nmX0 hown hK hP hD hS 0 rfl rfl 15 (by decide) k_1 (fun _ h9 => h9) rfl (by decide +kernel) rfl rfl (Nat.le_of_ble_eq_true rfl) dX0_enterRow_54 (fun H locs hP hD hS => ?_)
  have hP : va_P (dC, dI) vwCl [(h0, .inr (0, [.int 0, .int 0, .int (-1), .int 0, .int 0, .ref a5, .int 0, .ref a7, .ref a8, .ref a9, .int 0, .ref a11, .ref a12, .ref a13, .ref a14, .int 1, .ref a16])), (a14, .inl (cyI, 200, .inl (upd (upd (upd (upd g14 (Int32.toNatClampNeg 0) p0) (Int32.toNatClampNeg 1) p1) (Int32.toNatClampNeg 2) p2) (Int32.toNatClampNeg 3) p3)))] H := hP
  have hD : va_D A [(h0, .inr (0, [.int 0, .int 0, .int (-1), .int 0, .int 0, .ref a5, .int 0, .ref a7, .ref a8, .ref a9, .int 0, .ref a11, .ref a12, .ref a13, .ref a14, .int 1, .ref a16])), (a14, .inl (cyI, 200, .inl (upd (upd (upd (upd g14 (Int32.toNatClampNeg 0) p0) (Int32.toNatClampNeg 1) p1) (Int32.toNatClampNeg 2) p2) (Int32.toNatClampNeg 3) p3)))] := hD
  refine lv_aload_n hx hb dX0_enterRow_57 rfl (lv_at hl 1 rfl) ?_
  refine va_get (D := (dC, dI)) (ci := 0) (v := .int 1) (C := RX0) (T := TX0) (N := 17) hx hb hts i_X0_enterRow_X0 hown hK hP 0 rfl rfl 15 (by decide) k_1 (fun _ h9 => h9) rfl dX0_enterRow_58 ?_
  exact W.iret hx hb hr (fun t ht hW => ⟨⟨_, (), rfl, rfl, trivial⟩, hS.F ht⟩) hS.2.2 dX0_enterRow_61

theorem i_X0_isSound_X0 : ∀ w ∈ wsX00, w ∈ wsX0_isSound := by decide +kernel
set_option maxHeartbeats 4000000 in
set_option maxRecDepth 100000 in
theorem c_X0_isSound (l : Launch) (dC : Nat → ClassId) (dI : Nat → Nat → Nat) (cyI cyZ cyJ : ClassId) (sz : Nat) (h0 : Nat) (a5 : Nat) (a7 : Nat) (a8 : Nat) (a9 : Nat) (a11 : Nat) (a12 : Nat) (a13 : Nat) (a14 : Nat) (a16 : Nat) : Met l yX0_isSound wsX0_isSound ({ frames := 0, cells := 0, slots := 0, locals := 0 }) (va_Pc [.ref h0] (x_Pre (dC, dI) (x_T cyI cyZ cyJ) [(h0, .inr (0, [.int 0, .int 0, .int (-1), .int 0, .int 0, .ref a5, .int 0, .ref a7, .ref a8, .ref a9, .int 0, .ref a11, .ref a12, .ref a13, .ref a14, .int 0, .ref a16]))] sz)) (va_Qi (fun (r : Int32) (_ : Unit) => r = 0) (fun _ _ => True) (x_new sz)) 0 0 (x_new sz) := by
  refine Met.ofW (cc := cX0_isSound) (maxL := 3) (ret := (some .boolean)) (by decide) rfl ?_
  intro p e s m args below meth c s₁ B hml hv
  obtain ⟨rfl, hsz, hP, hK, hN⟩ := hv
  have hx := B.exec
  have hb := B.bytes
  have hr := B.returns
  have hts := atoms_spec (ws := wsX0_isSound) B.pre
  have hown : s.vm.findClass RX0 = some m.cls := findClass_of_methodNamed B.named
  have hlocks := B.notSynchronized
  have k_1 := hts (.fieldLink RX0 59 "FlowJudge$Code" "count" "I") (by decide +kernel)
  have k_2 := hts (.fieldLink RX0 62 "FlowJudge$Code" "rowCount" "I") (by decide +kernel)
  subst hsz
  have hA : ∀ q : Nat, s.heap.size ≤ q → x_new s.heap.size q := fun _ h => h
  have hS : va_S (x_new s.heap.size) s.heap s.heap [] := va_S.rf
  have hP : va_P (dC, dI) vwCl [(h0, .inr (0, [.int 0, .int 0, .int (-1), .int 0, .int 0, .ref a5, .int 0, .ref a7, .ref a8, .ref a9, .int 0, .ref a11, .ref a12, .ref a13, .ref a14, .int 0, .ref a16]))] s.heap := hP
  have hl := lv_entry ([.ref h0]) (n := 3) (Nat.le_of_ble_eq_true rfl)
  rw [lg_entry_eq]
  generalize (lg_sl ([.ref h0]) ++ List.replicate (3 - (lg_sl ([.ref h0])).length) Slot.unset).toArray = ls at hl ⊢
  have hl : lv_has ls 3 [(0, .ref h0)] := hl
  obtain ⟨H, hH⟩ : ∃ z, z = s.heap := ⟨_, rfl⟩
  refine x_here hH ?_
  have hP : va_P (dC, dI) vwCl [(h0, .inr (0, [.int 0, .int 0, .int (-1), .int 0, .int 0, .ref a5, .int 0, .ref a7, .ref a8, .ref a9, .int 0, .ref a11, .ref a12, .ref a13, .ref a14, .int 0, .ref a16]))] H := by rw [hH]; exact hP
  have hS : va_S (x_new s.heap.size) s.heap H [] := by rw [hH]; exact va_S.rf
  clear hH
  refine lv_aload_n hx hb dX0_isSound_0 rfl (lv_at hl 0 rfl) ?_
  refine va_get (D := (dC, dI)) (ci := 0) (v := .int 0) (C := RX0) (T := TX0) (N := 17) hx hb hts i_X0_isSound_X0 hown hK hP 0 rfl rfl 10 (by decide) k_1 (fun _ h9 => h9) rfl dX0_isSound_1 ?_
  refine lv_if_le (tgt := 22) hx hb dX0_isSound_4 (by decide) (fun _ => ?_) (fun c_1 => absurd (by decide) c_1)
  refine lv_iconst (v := 0) hx hb dX0_isSound_22 (by decide) ?_
  refine lv_istore_n (lv' := [(1, .int 0), (0, .ref h0)]) hx hb dX0_isSound_23 rfl hl (by decide) rfl (fun ls hl => ?_)
  refine lv_iconst (v := 0) hx hb dX0_isSound_24 (by decide) ?_
  refine lv_istore_n (lv' := [(2, .int 0), (1, .int 0), (0, .ref h0)]) hx hb dX0_isSound_25 rfl hl (by decide) rfl (fun ls hl => ?_)
  refine lv_iload_n hx hb dX0_isSound_26 rfl (lv_at hl 0 rfl) ?_
  refine lv_aload_n hx hb dX0_isSound_27 rfl (lv_at hl 2 rfl) ?_
  refine va_get (D := (dC, dI)) (ci := 0) (v := .int 0) (C := RX0) (T := TX0) (N := 17) hx hb hts i_X0_isSound_X0 hown hK hP 0 rfl rfl 10 (by decide) k_1 (fun _ h9 => h9) rfl dX0_isSound_28 ?_
  refine lv_icmp_ge (tgt := 50) hx hb dX0_isSound_31 (by decide) (fun _ => ?_) (fun c_2 => absurd (by decide) c_2)
  refine lv_iconst (v := 0) hx hb dX0_isSound_50 (by decide) ?_
  refine lv_istore_n (lv' := [(2, .int 0), (1, .int 0), (0, .ref h0)]) hx hb dX0_isSound_51 rfl hl (by decide) rfl (fun ls hl => ?_)
  refine lv_iload_n hx hb dX0_isSound_52 rfl (lv_at hl 0 rfl) ?_
  refine lv_aload_n hx hb dX0_isSound_53 rfl (lv_at hl 2 rfl) ?_
  refine va_get (D := (dC, dI)) (ci := 0) (v := .int 0) (C := RX0) (T := TX0) (N := 17) hx hb hts i_X0_isSound_X0 hown hK hP 0 rfl rfl 15 (by decide) k_2 (fun _ h9 => h9) rfl dX0_isSound_54 ?_
  refine lv_icmp_ge (tgt := 76) hx hb dX0_isSound_57 (by decide) (fun _ => ?_) (fun c_3 => absurd (by decide) c_3)
  refine lv_iload_n hx hb dX0_isSound_76 rfl (lv_at hl 1 rfl) ?_
  exact W.zret (ty := .boolean) hx hb hr rfl (fun t ht hW => ⟨⟨_, (), rfl, rfl, trivial⟩, hS.F ht⟩) hS.2.2 dX0_isSound_77

theorem i_X1_clear_X1 : ∀ w ∈ wsX10, w ∈ wsX1_clear := by decide +kernel
set_option maxHeartbeats 4000000 in
set_option maxRecDepth 100000 in
theorem c_X1_clear (l : Launch) (dC : Nat → ClassId) (dI : Nat → Nat → Nat) (cyI cyZ cyJ : ClassId) (sz : Nat) (h0 : Nat) (a0 : Nat) (a1 : Nat) (a2 : Nat) (a3 : Nat) (a4 : Nat) (g3 : Nat → Int32) : Met l yX1_clear wsX1_clear ({ frames := 0, cells := 0, slots := 0, locals := 0 }) (va_Pc [.ref h0] (x_PreD (dC, dI) (x_T cyI cyZ cyJ) [(h0, .inr (1, [.ref a0, .ref a1, .ref a2, .ref a3, .ref a4, .int 1])), (a3, .inl (cyI, 16, .inl g3))] sz)) (va_Qv (fun _ : Unit => True) (fun (_ : Unit) (t : State) => ∃ (gn : Nat → Int32), va_P (dC, dI) vwCl [(h0, .inr (1, [.ref a0, .ref a1, .ref a2, .ref a3, .ref a4, .int 1])), (a3, .inl (cyI, 16, .inl gn))] t.heap ∧ va_K (dC, dI) vwCl (x_T cyI cyZ cyJ) t ∧ va_D (va_A [(h0, .inr (1, [.ref a0, .ref a1, .ref a2, .ref a3, .ref a4, .int 1])), (a3, .inl (cyI, 16, .inl g3))] sz) [(h0, .inr (1, [.ref a0, .ref a1, .ref a2, .ref a3, .ref a4, .int 1])), (a3, .inl (cyI, 16, .inl gn))]) (va_A [(h0, .inr (1, [.ref a0, .ref a1, .ref a2, .ref a3, .ref a4, .int 1])), (a3, .inl (cyI, 16, .inl g3))] sz)) 0 0 (va_A [(h0, .inr (1, [.ref a0, .ref a1, .ref a2, .ref a3, .ref a4, .int 1])), (a3, .inl (cyI, 16, .inl g3))] sz) := by
  refine Met.ofW (cc := cX1_clear) (maxL := 1) (ret := none) (by decide) rfl ?_
  intro p e s m args below meth c s₁ B hml hv
  obtain ⟨rfl, ⟨hsz, hP, hK, hN⟩, hD0⟩ := hv
  have hx := B.exec
  have hb := B.bytes
  have hr := B.returns
  have hts := atoms_spec (ws := wsX1_clear) B.pre
  have hown : s.vm.findClass RX1 = some m.cls := findClass_of_methodNamed B.named
  have hlocks := B.notSynchronized
  have k_1 := hts (.fieldLink RX1 21 "FlowJudge$Contexts" "firstBelow" "[I") (by decide +kernel)
  have k_2 := hts (.fieldLink RX1 27 "FlowJudge$Contexts" "count" "I") (by decide +kernel)
  subst hsz
  have hD := hD0.self (sz := s.heap.size)
  generalize hAe : va_A [(h0, .inr (1, [.ref a0, .ref a1, .ref a2, .ref a3, .ref a4, .int 1])), (a3, .inl (cyI, 16, .inl g3))] s.heap.size = A at hD ⊢
  have hA : ∀ q : Nat, s.heap.size ≤ q → A q := fun q h => by rw [← hAe]; exact Or.inr h
  have hS : va_S A s.heap s.heap [] := va_S.rf
  have hP : va_P (dC, dI) vwCl [(h0, .inr (1, [.ref a0, .ref a1, .ref a2, .ref a3, .ref a4, .int 1])), (a3, .inl (cyI, 16, .inl g3))] s.heap := hP
  have hl := lv_entry ([.ref h0]) (n := 1) (Nat.le_of_ble_eq_true rfl)
  rw [lg_entry_eq]
  generalize (lg_sl ([.ref h0]) ++ List.replicate (1 - (lg_sl ([.ref h0])).length) Slot.unset).toArray = ls at hl ⊢
  have hl : lv_has ls 1 [(0, .ref h0)] := hl
  obtain ⟨H, hH⟩ : ∃ z, z = s.heap := ⟨_, rfl⟩
  refine x_here hH ?_
  have hP : va_P (dC, dI) vwCl [(h0, .inr (1, [.ref a0, .ref a1, .ref a2, .ref a3, .ref a4, .int 1])), (a3, .inl (cyI, 16, .inl g3))] H := by rw [hH]; exact hP
  have hS : va_S A s.heap H [] := by rw [hH]; exact va_S.rf
  clear hH
  refine lv_aload_n hx hb dX1_clear_0 rfl (lv_at hl 0 rfl) ?_
  refine va_get (D := (dC, dI)) (ci := 1) (v := .ref a3) (C := RX1) (T := TX1) (N := 6) hx hb hts i_X1_clear_X1 hown hK hP 0 rfl rfl 3 (by decide) k_1 (fun _ h9 => h9) rfl dX1_clear_1 ?_
  refine lv_iconst (v := 0) hx hb dX1_clear_4 (by decide) ?_
  refine lv_iconst (v := (-1)) hx hb dX1_clear_5 (by decide) ?_
  refine va_iast hx hb hK hP hD hS 1 0 rfl rfl (x_lit _ _ (by decide)) dX1_clear_6 (fun H locs hP hD hS => ?_)
  have hP : va_P (dC, dI) vwCl [(h0, .inr (1, [.ref a0, .ref a1, .ref a2, .ref a3, .ref a4, .int 1])), (a3, .inl (cyI, 16, .inl (upd g3 (Int32.toNatClampNeg 0) (-1))))] H := hP
  have hD : va_D A [(h0, .inr (1, [.ref a0, .ref a1, .ref a2, .ref a3, .ref a4, .int 1])), (a3, .inl (cyI, 16, .inl (upd g3 (Int32.toNatClampNeg 0) (-1))))] := hD
  refine lv_aload_n hx hb dX1_clear_7 rfl (lv_at hl 0 rfl) ?_
  refine lv_iconst (v := 1) hx hb dX1_clear_8 (by decide) ?_
  refine va_put (D := (dC, dI)) (ci := 1) (v := .int 1) (ty := .int) (C := RX1) (T := TX1) (N := 6) hx hb hts i_X1_clear_X1 tyX1 tyX1_ok nmX1 hown hK hP hD hS 0 rfl rfl 5 (by decide) k_2 (fun _ h9 => h9) rfl (by decide +kernel) rfl rfl (Nat.le_of_ble_eq_true rfl) dX1_clear_9 (fun H locs hP hD hS => ?_)
  have hP : va_P (dC, dI) vwCl [(h0, .inr (1, [.ref a0, .ref a1, .ref a2, .ref a3, .ref a4, .int 1])), (a3, .inl (cyI, 16, .inl (upd g3 (Int32.toNatClampNeg 0) (-1))))] H := hP
  have hD : va_D A [(h0, .inr (1, [.ref a0, .ref a1, .ref a2, .ref a3, .ref a4, .int 1])), (a3, .inl (cyI, 16, .inl (upd g3 (Int32.toNatClampNeg 0) (-1))))] := hD
  have hP9 := hP.sub (ws' := [(h0, .inr (1, [.ref a0, .ref a1, .ref a2, .ref a3, .ref a4, .int 1])), (a3, .inl (cyI, 16, .inl (upd g3 (Int32.toNatClampNeg 0) (-1))))]) [0, 1] rfl
  have hD9 := hD.sub (ws' := [(h0, .inr (1, [.ref a0, .ref a1, .ref a2, .ref a3, .ref a4, .int 1])), (a3, .inl (cyI, 16, .inl (upd g3 (Int32.toNatClampNeg 0) (-1))))]) [0, 1] (by decide) rfl
  exact W.vret hx hb hr (fun t ht hW => ⟨⟨(), rfl, trivial, (upd g3 (Int32.toNatClampNeg 0) (-1)), by rw [ht]; exact hP9, va_K.moved hW.alike hK, hD9⟩, hS.F ht⟩) hS.2.2 dX1_clear_12

theorem i_X3_isAnyAwaited_X3 : ∀ w ∈ wsX30, w ∈ wsX3_isAnyAwaited := by decide +kernel
set_option maxHeartbeats 4000000 in
set_option maxRecDepth 100000 in
theorem c_X3_isAnyAwaited (l : Launch) (dC : Nat → ClassId) (dI : Nat → Nat → Nat) (cyI cyZ cyJ : ClassId) (sz : Nat) (h0 : Nat) (b0 : Nat) (b1 : Nat) (a5 : Nat) (a6 : Nat) (a7 : Nat) (a8 : Nat) (a9 : Nat) (a10 : Nat) (a11 : Nat) (a12 : Nat) (a15 : Nat) (a16 : Nat) : Met l yX3_isAnyAwaited wsX3_isAnyAwaited ({ frames := 0, cells := 0, slots := 0, locals := 0 }) (va_Pc [.ref h0] (x_Pre (dC, dI) (x_T cyI cyZ cyJ) [(h0, .inr (3, [.ref b0, .ref b1, .int 0, .int 0, .int 0, .ref a5, .ref a6, .ref a7, .ref a8, .ref a9, .ref a10, .ref a11, .ref a12, .int (-1), .int (-1), .ref a15, .ref a16]))] sz)) (va_Qi (fun (r : Int32) (_ : Unit) => r = 0) (fun _ _ => True) (x_new sz)) 0 0 (x_new sz) := by
  refine Met.ofW (cc := cX3_isAnyAwaited) (maxL := 1) (ret := (some .boolean)) (by decide) rfl ?_
  intro p e s m args below meth c s₁ B hml hv
  obtain ⟨rfl, hsz, hP, hK, hN⟩ := hv
  have hx := B.exec
  have hb := B.bytes
  have hr := B.returns
  have hts := atoms_spec (ws := wsX3_isAnyAwaited) B.pre
  have hown : s.vm.findClass RX3 = some m.cls := findClass_of_methodNamed B.named
  have hlocks := B.notSynchronized
  have k_1 := hts (.fieldLink RX3 36 "FlowJudge$Frames" "firstAwaited" "I") (by decide +kernel)
  subst hsz
  have hA : ∀ q : Nat, s.heap.size ≤ q → x_new s.heap.size q := fun _ h => h
  have hS : va_S (x_new s.heap.size) s.heap s.heap [] := va_S.rf
  have hP : va_P (dC, dI) vwCl [(h0, .inr (3, [.ref b0, .ref b1, .int 0, .int 0, .int 0, .ref a5, .ref a6, .ref a7, .ref a8, .ref a9, .ref a10, .ref a11, .ref a12, .int (-1), .int (-1), .ref a15, .ref a16]))] s.heap := hP
  have hl := lv_entry ([.ref h0]) (n := 1) (Nat.le_of_ble_eq_true rfl)
  rw [lg_entry_eq]
  generalize (lg_sl ([.ref h0]) ++ List.replicate (1 - (lg_sl ([.ref h0])).length) Slot.unset).toArray = ls at hl ⊢
  have hl : lv_has ls 1 [(0, .ref h0)] := hl
  obtain ⟨H, hH⟩ : ∃ z, z = s.heap := ⟨_, rfl⟩
  refine x_here hH ?_
  have hP : va_P (dC, dI) vwCl [(h0, .inr (3, [.ref b0, .ref b1, .int 0, .int 0, .int 0, .ref a5, .ref a6, .ref a7, .ref a8, .ref a9, .ref a10, .ref a11, .ref a12, .int (-1), .int (-1), .ref a15, .ref a16]))] H := by rw [hH]; exact hP
  have hS : va_S (x_new s.heap.size) s.heap H [] := by rw [hH]; exact va_S.rf
  clear hH
  refine lv_aload_n hx hb dX3_isAnyAwaited_0 rfl (lv_at hl 0 rfl) ?_
  refine va_get (D := (dC, dI)) (ci := 3) (v := .int (-1)) (C := RX3) (T := TX3) (N := 17) hx hb hts i_X3_isAnyAwaited_X3 hown hK hP 0 rfl rfl 13 (by decide) k_1 (fun _ h9 => h9) rfl dX3_isAnyAwaited_1 ?_
  refine lv_iconst (v := (-1)) hx hb dX3_isAnyAwaited_4 (by decide) ?_
  refine lv_icmp_eq (tgt := 12) hx hb dX3_isAnyAwaited_5 (by decide) (fun _ => ?_) (fun c_1 => absurd (by decide) c_1)
  refine lv_iconst (v := 0) hx hb dX3_isAnyAwaited_12 (by decide) ?_
  exact W.zret (ty := .boolean) hx hb hr rfl (fun t ht hW => ⟨⟨_, (), rfl, rfl, trivial⟩, hS.F ht⟩) hS.2.2 dX3_isAnyAwaited_13

theorem i_X3_factOf_X3 : ∀ w ∈ wsX30, w ∈ wsX3_factOf := by decide +kernel
set_option maxHeartbeats 4000000 in
set_option maxRecDepth 100000 in
theorem c_X3_factOf (l : Launch) (dC : Nat → ClassId) (dI : Nat → Nat → Nat) (cyI cyZ cyJ : ClassId) (sz : Nat) (h0 : Nat) (b0 : Nat) (b1 : Nat) (a5 : Nat) (a6 : Nat) (a7 : Nat) (a8 : Nat) (a9 : Nat) (a10 : Nat) (a11 : Nat) (a12 : Nat) (a15 : Nat) (a16 : Nat) (p0 : Int32) (p1 : Int32) : Met l yX3_factOf wsX3_factOf ({ frames := 0, cells := 0, slots := 0, locals := 0 }) (va_Pc [.ref h0, .int p0, .int p1] (x_Pre (dC, dI) (x_T cyI cyZ cyJ) [(h0, .inr (3, [.ref b0, .ref b1, .int 0, .int 0, .int 0, .ref a5, .ref a6, .ref a7, .ref a8, .ref a9, .ref a10, .ref a11, .ref a12, .int (-1), .int (-1), .ref a15, .ref a16]))] sz)) (va_Qi (fun (r : Int32) (_ : Unit) => r = (-1)) (fun _ _ => True) (x_new sz)) 0 0 (x_new sz) := by
  refine Met.ofW (cc := cX3_factOf) (maxL := 4) (ret := (some .int)) (by decide) rfl ?_
  intro p e s m args below meth c s₁ B hml hv
  obtain ⟨rfl, hsz, hP, hK, hN⟩ := hv
  have hx := B.exec
  have hb := B.bytes
  have hr := B.returns
  have hts := atoms_spec (ws := wsX3_factOf) B.pre
  have hown : s.vm.findClass RX3 = some m.cls := findClass_of_methodNamed B.named
  have hlocks := B.notSynchronized
  have k_1 := hts (.fieldLink RX3 69 "FlowJudge$Frames" "count" "I") (by decide +kernel)
  subst hsz
  have hA : ∀ q : Nat, s.heap.size ≤ q → x_new s.heap.size q := fun _ h => h
  have hS : va_S (x_new s.heap.size) s.heap s.heap [] := va_S.rf
  have hP : va_P (dC, dI) vwCl [(h0, .inr (3, [.ref b0, .ref b1, .int 0, .int 0, .int 0, .ref a5, .ref a6, .ref a7, .ref a8, .ref a9, .ref a10, .ref a11, .ref a12, .int (-1), .int (-1), .ref a15, .ref a16]))] s.heap := hP
  have hl := lv_entry ([.ref h0, .int p0, .int p1]) (n := 4) (Nat.le_of_ble_eq_true rfl)
  rw [lg_entry_eq]
  generalize (lg_sl ([.ref h0, .int p0, .int p1]) ++ List.replicate (4 - (lg_sl ([.ref h0, .int p0, .int p1])).length) Slot.unset).toArray = ls at hl ⊢
  have hl : lv_has ls 4 [(0, .ref h0), (1, .int p0), (2, .int p1)] := hl
  obtain ⟨H, hH⟩ : ∃ z, z = s.heap := ⟨_, rfl⟩
  refine x_here hH ?_
  have hP : va_P (dC, dI) vwCl [(h0, .inr (3, [.ref b0, .ref b1, .int 0, .int 0, .int 0, .ref a5, .ref a6, .ref a7, .ref a8, .ref a9, .ref a10, .ref a11, .ref a12, .int (-1), .int (-1), .ref a15, .ref a16]))] H := by rw [hH]; exact hP
  have hS : va_S (x_new s.heap.size) s.heap H [] := by rw [hH]; exact va_S.rf
  clear hH
  refine lv_iload_n hx hb dX3_factOf_0 rfl (lv_at hl 1 rfl) ?_
  refine lv_if_lt (tgt := 12) hx hb dX3_factOf_1 (by decide) (fun c_1 => ?_) (fun c_1 => ?_)
  · skip
    refine lv_iconst (v := (-1)) hx hb dX3_factOf_12 (by decide) ?_
    exact W.iret hx hb hr (fun t ht hW => ⟨⟨_, (), rfl, rfl, trivial⟩, hS.F ht⟩) hS.2.2 dX3_factOf_13
  · skip
    refine lv_iload_n hx hb dX3_factOf_4 rfl (lv_at hl 1 rfl) ?_
    refine lv_aload_n hx hb dX3_factOf_5 rfl (lv_at hl 0 rfl) ?_
    refine va_get (D := (dC, dI)) (ci := 3) (v := .int 0) (C := RX3) (T := TX3) (N := 17) hx hb hts i_X3_factOf_X3 hown hK hP 0 rfl rfl 4 (by decide) k_1 (fun _ h9 => h9) rfl dX3_factOf_6 ?_
    refine lv_icmp_lt (tgt := 14) hx hb dX3_factOf_9 (by decide) (fun c_2 => ?_) (fun c_2 => ?_)
    · exact absurd c_2 (by assumption)
    · skip
      refine lv_iconst (v := (-1)) hx hb dX3_factOf_12 (by decide) ?_
      exact W.iret hx hb hr (fun t ht hW => ⟨⟨_, (), rfl, rfl, trivial⟩, hS.F ht⟩) hS.2.2 dX3_factOf_13

theorem i_X3_addressOf_X3 : ∀ w ∈ wsX30, w ∈ wsX3_addressOf := by decide +kernel
set_option maxHeartbeats 4000000 in
set_option maxRecDepth 100000 in
theorem c_X3_addressOf (l : Launch) (dC : Nat → ClassId) (dI : Nat → Nat → Nat) (cyI cyZ cyJ : ClassId) (sz : Nat) (h0 : Nat) (b0 : Nat) (b1 : Nat) (a5 : Nat) (a6 : Nat) (a7 : Nat) (a8 : Nat) (a9 : Nat) (a10 : Nat) (a11 : Nat) (a12 : Nat) (a15 : Nat) (a16 : Nat) (p0 : Int32) (p1 : Int32) : Met l yX3_addressOf wsX3_addressOf ({ frames := 0, cells := 0, slots := 0, locals := 0 }) (va_Pc [.ref h0, .int p0, .int p1] (x_Pre (dC, dI) (x_T cyI cyZ cyJ) [(h0, .inr (3, [.ref b0, .ref b1, .int 0, .int 0, .int 0, .ref a5, .ref a6, .ref a7, .ref a8, .ref a9, .ref a10, .ref a11, .ref a12, .int (-1), .int (-1), .ref a15, .ref a16]))] sz)) (va_Qi (fun (r : Int32) (_ : Unit) => r = (-1)) (fun _ _ => True) (x_new sz)) 0 0 (x_new sz) := by
  refine Met.ofW (cc := cX3_addressOf) (maxL := 4) (ret := (some .int)) (by decide) rfl ?_
  intro p e s m args below meth c s₁ B hml hv
  obtain ⟨rfl, hsz, hP, hK, hN⟩ := hv
  have hx := B.exec
  have hb := B.bytes
  have hr := B.returns
  have hts := atoms_spec (ws := wsX3_addressOf) B.pre
  have hown : s.vm.findClass RX3 = some m.cls := findClass_of_methodNamed B.named
  have hlocks := B.notSynchronized
  have k_1 := hts (.fieldLink RX3 69 "FlowJudge$Frames" "count" "I") (by decide +kernel)
  subst hsz
  have hA : ∀ q : Nat, s.heap.size ≤ q → x_new s.heap.size q := fun _ h => h
  have hS : va_S (x_new s.heap.size) s.heap s.heap [] := va_S.rf
  have hP : va_P (dC, dI) vwCl [(h0, .inr (3, [.ref b0, .ref b1, .int 0, .int 0, .int 0, .ref a5, .ref a6, .ref a7, .ref a8, .ref a9, .ref a10, .ref a11, .ref a12, .int (-1), .int (-1), .ref a15, .ref a16]))] s.heap := hP
  have hl := lv_entry ([.ref h0, .int p0, .int p1]) (n := 4) (Nat.le_of_ble_eq_true rfl)
  rw [lg_entry_eq]
  generalize (lg_sl ([.ref h0, .int p0, .int p1]) ++ List.replicate (4 - (lg_sl ([.ref h0, .int p0, .int p1])).length) Slot.unset).toArray = ls at hl ⊢
  have hl : lv_has ls 4 [(0, .ref h0), (1, .int p0), (2, .int p1)] := hl
  obtain ⟨H, hH⟩ : ∃ z, z = s.heap := ⟨_, rfl⟩
  refine x_here hH ?_
  have hP : va_P (dC, dI) vwCl [(h0, .inr (3, [.ref b0, .ref b1, .int 0, .int 0, .int 0, .ref a5, .ref a6, .ref a7, .ref a8, .ref a9, .ref a10, .ref a11, .ref a12, .int (-1), .int (-1), .ref a15, .ref a16]))] H := by rw [hH]; exact hP
  have hS : va_S (x_new s.heap.size) s.heap H [] := by rw [hH]; exact va_S.rf
  clear hH
  refine lv_iload_n hx hb dX3_addressOf_0 rfl (lv_at hl 1 rfl) ?_
  refine lv_if_lt (tgt := 16) hx hb dX3_addressOf_1 (by decide) (fun c_1 => ?_) (fun c_1 => ?_)
  · skip
    refine lv_iconst (v := (-1)) hx hb dX3_addressOf_16 (by decide) ?_
    exact W.iret hx hb hr (fun t ht hW => ⟨⟨_, (), rfl, rfl, trivial⟩, hS.F ht⟩) hS.2.2 dX3_addressOf_17
  · skip
    refine lv_iload_n hx hb dX3_addressOf_4 rfl (lv_at hl 1 rfl) ?_
    refine lv_aload_n hx hb dX3_addressOf_5 rfl (lv_at hl 0 rfl) ?_
    refine va_get (D := (dC, dI)) (ci := 3) (v := .int 0) (C := RX3) (T := TX3) (N := 17) hx hb hts i_X3_addressOf_X3 hown hK hP 0 rfl rfl 4 (by decide) k_1 (fun _ h9 => h9) rfl dX3_addressOf_6 ?_
    refine lv_icmp_ge (tgt := 16) hx hb dX3_addressOf_9 (by decide) (fun c_2 => ?_) (fun c_2 => ?_)
    · skip
      refine lv_iconst (v := (-1)) hx hb dX3_addressOf_16 (by decide) ?_
      exact W.iret hx hb hr (fun t ht hW => ⟨⟨_, (), rfl, rfl, trivial⟩, hS.F ht⟩) hS.2.2 dX3_addressOf_17
    · exact absurd (x_ge0 (by assumption)) c_2

theorem i_X3_placeOf_X3 : ∀ w ∈ wsX30, w ∈ wsX3_placeOf := by decide +kernel
set_option maxHeartbeats 4000000 in
set_option maxRecDepth 100000 in
theorem c_X3_placeOf (l : Launch) (dC : Nat → ClassId) (dI : Nat → Nat → Nat) (cyI cyZ cyJ : ClassId) (sz : Nat) (h0 : Nat) (b0 : Nat) (b1 : Nat) (a5 : Nat) (a6 : Nat) (a7 : Nat) (a8 : Nat) (a9 : Nat) (a10 : Nat) (a11 : Nat) (a12 : Nat) (a15 : Nat) (a16 : Nat) (p0 : Int32) (p1 : Int32) : Met l yX3_placeOf wsX3_placeOf ({ frames := 0, cells := 0, slots := 0, locals := 0 }) (va_Pc [.ref h0, .int p0, .int p1] (x_Pre (dC, dI) (x_T cyI cyZ cyJ) [(h0, .inr (3, [.ref b0, .ref b1, .int 0, .int 0, .int 0, .ref a5, .ref a6, .ref a7, .ref a8, .ref a9, .ref a10, .ref a11, .ref a12, .int (-1), .int (-1), .ref a15, .ref a16]))] sz)) (va_Qi (fun (r : Int32) (_ : Unit) => r = (-1)) (fun _ _ => True) (x_new sz)) 0 0 (x_new sz) := by
  refine Met.ofW (cc := cX3_placeOf) (maxL := 4) (ret := (some .int)) (by decide) rfl ?_
  intro p e s m args below meth c s₁ B hml hv
  obtain ⟨rfl, hsz, hP, hK, hN⟩ := hv
  have hx := B.exec
  have hb := B.bytes
  have hr := B.returns
  have hts := atoms_spec (ws := wsX3_placeOf) B.pre
  have hown : s.vm.findClass RX3 = some m.cls := findClass_of_methodNamed B.named
  have hlocks := B.notSynchronized
  have k_1 := hts (.fieldLink RX3 69 "FlowJudge$Frames" "count" "I") (by decide +kernel)
  subst hsz
  have hA : ∀ q : Nat, s.heap.size ≤ q → x_new s.heap.size q := fun _ h => h
  have hS : va_S (x_new s.heap.size) s.heap s.heap [] := va_S.rf
  have hP : va_P (dC, dI) vwCl [(h0, .inr (3, [.ref b0, .ref b1, .int 0, .int 0, .int 0, .ref a5, .ref a6, .ref a7, .ref a8, .ref a9, .ref a10, .ref a11, .ref a12, .int (-1), .int (-1), .ref a15, .ref a16]))] s.heap := hP
  have hl := lv_entry ([.ref h0, .int p0, .int p1]) (n := 4) (Nat.le_of_ble_eq_true rfl)
  rw [lg_entry_eq]
  generalize (lg_sl ([.ref h0, .int p0, .int p1]) ++ List.replicate (4 - (lg_sl ([.ref h0, .int p0, .int p1])).length) Slot.unset).toArray = ls at hl ⊢
  have hl : lv_has ls 4 [(0, .ref h0), (1, .int p0), (2, .int p1)] := hl
  obtain ⟨H, hH⟩ : ∃ z, z = s.heap := ⟨_, rfl⟩
  refine x_here hH ?_
  have hP : va_P (dC, dI) vwCl [(h0, .inr (3, [.ref b0, .ref b1, .int 0, .int 0, .int 0, .ref a5, .ref a6, .ref a7, .ref a8, .ref a9, .ref a10, .ref a11, .ref a12, .int (-1), .int (-1), .ref a15, .ref a16]))] H := by rw [hH]; exact hP
  have hS : va_S (x_new s.heap.size) s.heap H [] := by rw [hH]; exact va_S.rf
  clear hH
  refine lv_iload_n hx hb dX3_placeOf_0 rfl (lv_at hl 1 rfl) ?_
  refine lv_if_lt (tgt := 16) hx hb dX3_placeOf_1 (by decide) (fun c_1 => ?_) (fun c_1 => ?_)
  · skip
    refine lv_iconst (v := (-1)) hx hb dX3_placeOf_16 (by decide) ?_
    exact W.iret hx hb hr (fun t ht hW => ⟨⟨_, (), rfl, rfl, trivial⟩, hS.F ht⟩) hS.2.2 dX3_placeOf_17
  · skip
    refine lv_iload_n hx hb dX3_placeOf_4 rfl (lv_at hl 1 rfl) ?_
    refine lv_aload_n hx hb dX3_placeOf_5 rfl (lv_at hl 0 rfl) ?_
    refine va_get (D := (dC, dI)) (ci := 3) (v := .int 0) (C := RX3) (T := TX3) (N := 17) hx hb hts i_X3_placeOf_X3 hown hK hP 0 rfl rfl 4 (by decide) k_1 (fun _ h9 => h9) rfl dX3_placeOf_6 ?_
    refine lv_icmp_ge (tgt := 16) hx hb dX3_placeOf_9 (by decide) (fun c_2 => ?_) (fun c_2 => ?_)
    · skip
      refine lv_iconst (v := (-1)) hx hb dX3_placeOf_16 (by decide) ?_
      exact W.iret hx hb hr (fun t ht hW => ⟨⟨_, (), rfl, rfl, trivial⟩, hS.F ht⟩) hS.2.2 dX3_placeOf_17
    · exact absurd (x_ge0 (by assumption)) c_2

theorem i_X3_clear_X3 : ∀ w ∈ wsX30, w ∈ wsX3_clear := by decide +kernel
set_option maxHeartbeats 4000000 in
set_option maxRecDepth 100000 in
theorem c_X3_clear (l : Launch) (dC : Nat → ClassId) (dI : Nat → Nat → Nat) (cyI cyZ cyJ : ClassId) (sz : Nat) (h0 : Nat) (b0 : Nat) (b1 : Nat) (a5 : Nat) (a6 : Nat) (a7 : Nat) (a8 : Nat) (a9 : Nat) (a10 : Nat) (a11 : Nat) (a12 : Nat) (a15 : Nat) (a16 : Nat) (g0 : Nat → Int32) : Met l yX3_clear wsX3_clear ({ frames := 1, cells := 0, slots := 0, locals := 23 }) (va_Pc [.ref h0, .int 0, .int 0] (x_PreD (dC, dI) (x_T cyI cyZ cyJ) [(h0, .inr (3, [.ref b0, .ref b1, .int 0, .int 0, .int 0, .ref a5, .ref a6, .ref a7, .ref a8, .ref a9, .ref a10, .ref a11, .ref a12, .int (-1), .int (-1), .ref a15, .ref a16])), (a10, .inl (cyI, 256, .inl g0))] sz)) (va_Qv (fun _ : Unit => True) (fun (_ : Unit) (t : State) => ∃ (gn : Nat → Int32), va_P (dC, dI) vwCl [(h0, .inr (3, [.ref b0, .ref b1, .int 0, .int 0, .int 0, .ref a5, .ref a6, .ref a7, .ref a8, .ref a9, .ref a10, .ref a11, .ref a12, .int (-1), .int (-1), .ref a15, .ref a16])), (a10, .inl (cyI, 256, .inl gn))] t.heap ∧ va_K (dC, dI) vwCl (x_T cyI cyZ cyJ) t ∧ va_D (va_A [(h0, .inr (3, [.ref b0, .ref b1, .int 0, .int 0, .int 0, .ref a5, .ref a6, .ref a7, .ref a8, .ref a9, .ref a10, .ref a11, .ref a12, .int (-1), .int (-1), .ref a15, .ref a16])), (a10, .inl (cyI, 256, .inl g0))] sz) [(h0, .inr (3, [.ref b0, .ref b1, .int 0, .int 0, .int 0, .ref a5, .ref a6, .ref a7, .ref a8, .ref a9, .ref a10, .ref a11, .ref a12, .int (-1), .int (-1), .ref a15, .ref a16])), (a10, .inl (cyI, 256, .inl gn))]) (va_A [(h0, .inr (3, [.ref b0, .ref b1, .int 0, .int 0, .int 0, .ref a5, .ref a6, .ref a7, .ref a8, .ref a9, .ref a10, .ref a11, .ref a12, .int (-1), .int (-1), .ref a15, .ref a16])), (a10, .inl (cyI, 256, .inl g0))] sz)) 0 0 (va_A [(h0, .inr (3, [.ref b0, .ref b1, .int 0, .int 0, .int 0, .ref a5, .ref a6, .ref a7, .ref a8, .ref a9, .ref a10, .ref a11, .ref a12, .int (-1), .int (-1), .ref a15, .ref a16])), (a10, .inl (cyI, 256, .inl g0))] sz) := by
  refine Met.ofW (cc := cX3_clear) (maxL := 3) (ret := none) (by decide) rfl ?_
  intro p e s m args below meth c s₁ B hml hv
  obtain ⟨rfl, ⟨hsz, hP, hK, hN⟩, hD0⟩ := hv
  have hx := B.exec
  have hb := B.bytes
  have hr := B.returns
  have hts := atoms_spec (ws := wsX3_clear) B.pre
  have hown : s.vm.findClass RX3 = some m.cls := findClass_of_methodNamed B.named
  have hlocks := B.notSynchronized
  have k_1 := hts (.fieldLink RX3 63 "FlowJudge$Frames" "locals" "I") (by decide +kernel)
  have k_2 := hts (.fieldLink RX3 66 "FlowJudge$Frames" "size" "I") (by decide +kernel)
  have k_3 := hts (.fieldLink RX3 69 "FlowJudge$Frames" "count" "I") (by decide +kernel)
  have k_4 := hts (.fieldLink RX3 36 "FlowJudge$Frames" "firstAwaited" "I") (by decide +kernel)
  have k_5 := hts (.fieldLink RX3 40 "FlowJudge$Frames" "lastAwaited" "I") (by decide +kernel)
  have k_6 := hts (.fieldLink RX3 27 "FlowJudge$Frames" "heads" "[I") (by decide +kernel)
  subst hsz
  have hD := hD0.self (sz := s.heap.size)
  generalize hAe : va_A [(h0, .inr (3, [.ref b0, .ref b1, .int 0, .int 0, .int 0, .ref a5, .ref a6, .ref a7, .ref a8, .ref a9, .ref a10, .ref a11, .ref a12, .int (-1), .int (-1), .ref a15, .ref a16])), (a10, .inl (cyI, 256, .inl g0))] s.heap.size = A at hD ⊢
  have hA : ∀ q : Nat, s.heap.size ≤ q → A q := fun q h => by rw [← hAe]; exact Or.inr h
  have hS : va_S A s.heap s.heap [] := va_S.rf
  have hP : va_P (dC, dI) vwCl [(h0, .inr (3, [.ref b0, .ref b1, .int 0, .int 0, .int 0, .ref a5, .ref a6, .ref a7, .ref a8, .ref a9, .ref a10, .ref a11, .ref a12, .int (-1), .int (-1), .ref a15, .ref a16])), (a10, .inl (cyI, 256, .inl g0))] s.heap := hP
  have hl := lv_entry ([.ref h0, .int 0, .int 0]) (n := 3) (Nat.le_of_ble_eq_true rfl)
  rw [lg_entry_eq]
  generalize (lg_sl ([.ref h0, .int 0, .int 0]) ++ List.replicate (3 - (lg_sl ([.ref h0, .int 0, .int 0])).length) Slot.unset).toArray = ls at hl ⊢
  have hl : lv_has ls 3 [(0, .ref h0), (1, .int 0), (2, .int 0)] := hl
  obtain ⟨H, hH⟩ : ∃ z, z = s.heap := ⟨_, rfl⟩
  refine x_here hH ?_
  have hP : va_P (dC, dI) vwCl [(h0, .inr (3, [.ref b0, .ref b1, .int 0, .int 0, .int 0, .ref a5, .ref a6, .ref a7, .ref a8, .ref a9, .ref a10, .ref a11, .ref a12, .int (-1), .int (-1), .ref a15, .ref a16])), (a10, .inl (cyI, 256, .inl g0))] H := by rw [hH]; exact hP
  have hS : va_S A s.heap H [] := by rw [hH]; exact va_S.rf
  clear hH
  refine lv_aload_n hx hb dX3_clear_0 rfl (lv_at hl 0 rfl) ?_
  refine lv_iload_n hx hb dX3_clear_1 rfl (lv_at hl 1 rfl) ?_
  refine va_put (D := (dC, dI)) (ci := 3) (v := .int 0) (ty := .int) (C := RX3) (T := TX3) (N := 17) hx hb hts i_X3_clear_X3 tyX3 tyX3_ok nmX3 hown hK hP hD hS 0 rfl rfl 2 (by decide) k_1 (fun _ h9 => h9) rfl (by decide +kernel) rfl rfl (Nat.le_of_ble_eq_true rfl) dX3_clear_2 (fun H locs hP hD hS => ?_)
  have hP : va_P (dC, dI) vwCl [(h0, .inr (3, [.ref b0, .ref b1, .int 0, .int 0, .int 0, .ref a5, .ref a6, .ref a7, .ref a8, .ref a9, .ref a10, .ref a11, .ref a12, .int (-1), .int (-1), .ref a15, .ref a16])), (a10, .inl (cyI, 256, .inl g0))] H := hP
  have hD : va_D A [(h0, .inr (3, [.ref b0, .ref b1, .int 0, .int 0, .int 0, .ref a5, .ref a6, .ref a7, .ref a8, .ref a9, .ref a10, .ref a11, .ref a12, .int (-1), .int (-1), .ref a15, .ref a16])), (a10, .inl (cyI, 256, .inl g0))] := hD
  refine lv_aload_n hx hb dX3_clear_5 rfl (lv_at hl 0 rfl) ?_
  refine lv_iload_n hx hb dX3_clear_6 rfl (lv_at hl 1 rfl) ?_
  refine lv_iload_n hx hb dX3_clear_7 rfl (lv_at hl 2 rfl) ?_
  refine lv_iadd hx hb dX3_clear_8 ?_
  refine lv_topi (fun z_1 ez_1 => ?_)
  obtain rfl : z_1 = 0 := ez_1.trans (by decide)
  refine va_put (D := (dC, dI)) (ci := 3) (v := .int 0) (ty := .int) (C := RX3) (T := TX3) (N := 17) hx hb hts i_X3_clear_X3 tyX3 tyX3_ok nmX3 hown hK hP hD hS 0 rfl rfl 3 (by decide) k_2 (fun _ h9 => h9) rfl (by decide +kernel) rfl rfl (Nat.le_of_ble_eq_true rfl) dX3_clear_9 (fun H locs hP hD hS => ?_)
  have hP : va_P (dC, dI) vwCl [(h0, .inr (3, [.ref b0, .ref b1, .int 0, .int 0, .int 0, .ref a5, .ref a6, .ref a7, .ref a8, .ref a9, .ref a10, .ref a11, .ref a12, .int (-1), .int (-1), .ref a15, .ref a16])), (a10, .inl (cyI, 256, .inl g0))] H := hP
  have hD : va_D A [(h0, .inr (3, [.ref b0, .ref b1, .int 0, .int 0, .int 0, .ref a5, .ref a6, .ref a7, .ref a8, .ref a9, .ref a10, .ref a11, .ref a12, .int (-1), .int (-1), .ref a15, .ref a16])), (a10, .inl (cyI, 256, .inl g0))] := hD
  refine lv_aload_n hx hb dX3_clear_12 rfl (lv_at hl 0 rfl) ?_
  refine lv_iconst (v := 0) hx hb dX3_clear_13 (by decide) ?_
  refine va_put (D := (dC, dI)) (ci := 3) (v := .int 0) (ty := .int) (C := RX3) (T := TX3) (N := 17) hx hb hts i_X3_clear_X3 tyX3 tyX3_ok nmX3 hown hK hP hD hS 0 rfl rfl 4 (by decide) k_3 (fun _ h9 => h9) rfl (by decide +kernel) rfl rfl (Nat.le_of_ble_eq_true rfl) dX3_clear_14 (fun H locs hP hD hS => ?_)
  have hP : va_P (dC, dI) vwCl [(h0, .inr (3, [.ref b0, .ref b1, .int 0, .int 0, .int 0, .ref a5, .ref a6, .ref a7, .ref a8, .ref a9, .ref a10, .ref a11, .ref a12, .int (-1), .int (-1), .ref a15, .ref a16])), (a10, .inl (cyI, 256, .inl g0))] H := hP
  have hD : va_D A [(h0, .inr (3, [.ref b0, .ref b1, .int 0, .int 0, .int 0, .ref a5, .ref a6, .ref a7, .ref a8, .ref a9, .ref a10, .ref a11, .ref a12, .int (-1), .int (-1), .ref a15, .ref a16])), (a10, .inl (cyI, 256, .inl g0))] := hD
  refine lv_aload_n hx hb dX3_clear_17 rfl (lv_at hl 0 rfl) ?_
  refine lv_iconst (v := (-1)) hx hb dX3_clear_18 (by decide) ?_
  refine va_put (D := (dC, dI)) (ci := 3) (v := .int (-1)) (ty := .int) (C := RX3) (T := TX3) (N := 17) hx hb hts i_X3_clear_X3 tyX3 tyX3_ok nmX3 hown hK hP hD hS 0 rfl rfl 13 (by decide) k_4 (fun _ h9 => h9) rfl (by decide +kernel) rfl rfl (Nat.le_of_ble_eq_true rfl) dX3_clear_19 (fun H locs hP hD hS => ?_)
  have hP : va_P (dC, dI) vwCl [(h0, .inr (3, [.ref b0, .ref b1, .int 0, .int 0, .int 0, .ref a5, .ref a6, .ref a7, .ref a8, .ref a9, .ref a10, .ref a11, .ref a12, .int (-1), .int (-1), .ref a15, .ref a16])), (a10, .inl (cyI, 256, .inl g0))] H := hP
  have hD : va_D A [(h0, .inr (3, [.ref b0, .ref b1, .int 0, .int 0, .int 0, .ref a5, .ref a6, .ref a7, .ref a8, .ref a9, .ref a10, .ref a11, .ref a12, .int (-1), .int (-1), .ref a15, .ref a16])), (a10, .inl (cyI, 256, .inl g0))] := hD
  refine lv_aload_n hx hb dX3_clear_22 rfl (lv_at hl 0 rfl) ?_
  refine lv_iconst (v := (-1)) hx hb dX3_clear_23 (by decide) ?_
  refine va_put (D := (dC, dI)) (ci := 3) (v := .int (-1)) (ty := .int) (C := RX3) (T := TX3) (N := 17) hx hb hts i_X3_clear_X3 tyX3 tyX3_ok nmX3 hown hK hP hD hS 0 rfl rfl 14 (by decide) k_5 (fun _ h9 => h9) rfl (by decide +kernel) rfl rfl (Nat.le_of_ble_eq_true rfl) dX3_clear_24 (fun H locs hP hD hS => ?_)
  have hP : va_P (dC, dI) vwCl [(h0, .inr (3, [.ref b0, .ref b1, .int 0, .int 0, .int 0, .ref a5, .ref a6, .ref a7, .ref a8, .ref a9, .ref a10, .ref a11, .ref a12, .int (-1), .int (-1), .ref a15, .ref a16])), (a10, .inl (cyI, 256, .inl g0))] H := hP
  have hD : va_D A [(h0, .inr (3, [.ref b0, .ref b1, .int 0, .int 0, .int 0, .ref a5, .ref a6, .ref a7, .ref a8, .ref a9, .ref a10, .ref a11, .ref a12, .int (-1), .int (-1), .ref a15, .ref a16])), (a10, .inl (cyI, 256, .inl g0))] := hD
  refine lv_aload_n hx hb dX3_clear_27 rfl (lv_at hl 0 rfl) ?_
  refine va_get (D := (dC, dI)) (ci := 3) (v := .ref a10) (C := RX3) (T := TX3) (N := 17) hx hb hts i_X3_clear_X3 hown hK hP 0 rfl rfl 10 (by decide) k_6 (fun _ h9 => h9) rfl dX3_clear_28 ?_
  refine lv_iconst (v := (-1)) hx hb dX3_clear_31 (by decide) ?_
  have hPc := hP.sub (ws' := [(a10, .inl (cyI, 256, .inl g0))]) [1] rfl
  have hDc := hD.sub (ws' := [(a10, .inl (cyI, 256, .inl g0))]) [1] (by decide) rfl
  have hFc := va_free (wc := [(a10, .inl (cyI, 256, .inl g0))]) hD hS hA [1] rfl
  refine va_callv (va_runS (As := [.ref a10, .int (-1)]) (rest := []) ⟨hx, hb, hml, hown, hts⟩ (c_J7_fill_53178 l dC dI cyI cyZ cyJ H.size a10 g0 (-1)) (va_cwS 2 hts gX3_clear_J7_fill_53178 rfl rfl rfl (by decide +kernel) ⟨Nat.le_of_ble_eq_true rfl, Nat.le_of_ble_eq_true rfl⟩) (x_pSD hN hK hPc hDc) rfl rfl hl.1 rfl (lv_room (Nat.le_of_ble_eq_true rfl)) dX3_clear_32 ⟨Nat.le_of_ble_eq_true rfl, Nat.le_of_ble_eq_true rfl⟩) hS (fun q _ h => hFc q h) hFc (fun u t H1 locs ht hvm hw hB hz1 hk1 hS => ?_)
  obtain ⟨gn_2, hP1, hK1, hD1⟩ := hB
  rw [ht] at hP1
  obtain ⟨hP, hD⟩ := va_join (wr := [(h0, .inr (3, [.ref b0, .ref b1, .int 0, .int 0, .int 0, .ref a5, .ref a6, .ref a7, .ref a8, .ref a9, .ref a10, .ref a11, .ref a12, .int (-1), .int (-1), .ref a15, .ref a16]))]) (w1 := [(a10, .inl (cyI, 256, .inl gn_2))]) hP hD [1] [0] rfl rfl (by decide) (by decide) hk1 hFc hP1 hD1
  clear hz1 hk1 hPc hDc hFc hP1 hK1 hD1 ht hvm t u
  generalize H1 = H at hP hS ⊢
  have hP : va_P (dC, dI) vwCl [(h0, .inr (3, [.ref b0, .ref b1, .int 0, .int 0, .int 0, .ref a5, .ref a6, .ref a7, .ref a8, .ref a9, .ref a10, .ref a11, .ref a12, .int (-1), .int (-1), .ref a15, .ref a16])), (a10, .inl (cyI, 256, .inl gn_2))] H := hP
  have hD : va_D A [(h0, .inr (3, [.ref b0, .ref b1, .int 0, .int 0, .int 0, .ref a5, .ref a6, .ref a7, .ref a8, .ref a9, .ref a10, .ref a11, .ref a12, .int (-1), .int (-1), .ref a15, .ref a16])), (a10, .inl (cyI, 256, .inl gn_2))] := hD
  have hP9 := hP.sub (ws' := [(h0, .inr (3, [.ref b0, .ref b1, .int 0, .int 0, .int 0, .ref a5, .ref a6, .ref a7, .ref a8, .ref a9, .ref a10, .ref a11, .ref a12, .int (-1), .int (-1), .ref a15, .ref a16])), (a10, .inl (cyI, 256, .inl gn_2))]) [0, 1] rfl
  have hD9 := hD.sub (ws' := [(h0, .inr (3, [.ref b0, .ref b1, .int 0, .int 0, .int 0, .ref a5, .ref a6, .ref a7, .ref a8, .ref a9, .ref a10, .ref a11, .ref a12, .int (-1), .int (-1), .ref a15, .ref a16])), (a10, .inl (cyI, 256, .inl gn_2))]) [0, 1] (by decide) rfl
  exact W.vret hx hb hr (fun t ht hW => ⟨⟨(), rfl, trivial, gn_2, by rw [ht]; exact hP9, va_K.moved hW.alike hK, hD9⟩, hS.F ht⟩) hS.2.2 dX3_clear_35
