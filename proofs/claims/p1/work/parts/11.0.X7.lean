theorem i_X7_init_X7 : ∀ w ∈ wsX70, w ∈ wsX7_init := by decide +kernel
set_option maxHeartbeats 4000000 in
set_option maxRecDepth 100000 in
theorem c_X7_init (l : Launch) (dC : Nat → ClassId) (dI : Nat → Nat → Nat) (cyI cyZ cyJ : ClassId) (sz : Nat) (h0 : Nat) : Met l yX7_init wsX7_init ({ frames := 1, cells := 2, slots := 400, locals := 12 }) (va_Pc [.ref h0] (x_PreD (dC, dI) (x_T cyI cyZ cyJ) [(h0, .inr (7, [.null, .null, .int 0]))] sz)) (va_Qv (fun _ : Unit => True) (fun (_ : Unit) (t : State) => ∃ (h1 : Nat) (h2 : Nat), va_P (dC, dI) vwCl [(h0, .inr (7, [.ref h1, .ref h2, .int 4])), (h1, .inl (cyI, 200, .inl x_z0)), (h2, .inl (cyZ, 200, .inl x_face))] t.heap ∧ va_K (dC, dI) vwCl (x_T cyI cyZ cyJ) t ∧ va_D (va_A [(h0, .inr (7, [.null, .null, .int 0]))] sz) [(h0, .inr (7, [.ref h1, .ref h2, .int 4])), (h1, .inl (cyI, 200, .inl x_z0)), (h2, .inl (cyZ, 200, .inl x_face))]) (va_A [(h0, .inr (7, [.null, .null, .int 0]))] sz)) 2 400 (va_A [(h0, .inr (7, [.null, .null, .int 0]))] sz) := by
  refine Met.ofW (cc := cX7_init) (maxL := 1) (ret := none) (by decide) rfl ?_
  intro p e s m args below meth c s₁ B hml hv
  obtain ⟨rfl, ⟨hsz, hP, hK, hN⟩, hD0⟩ := hv
  have hx := B.exec
  have hb := B.bytes
  have hr := B.returns
  have hts := atoms_spec (ws := wsX7_init) B.pre
  have hown : s.vm.findClass RX7 = some m.cls := findClass_of_methodNamed B.named
  have hlocks := B.notSynchronized
  have hin : meth.name = "<init>" := (name_of_methodNamed B.named B.method).1
  have k_1 := hts (.methodLink RX7 3 objectInit) (by decide +kernel)
  have k_2 := hts (.instanceMethod objectInit) (by decide +kernel)
  have k_3 := hts (.code objectInit ⟨#[0xb1]⟩ 1 none) (by decide +kernel)
  have k_4 := hts (.arrayClass .int) (by decide +kernel)
  have k_5 := hts (.fieldLink RX7 9 "FlowJudge$Types" "above" "[I") (by decide +kernel)
  have k_6 := hts (.arrayClass .boolean) (by decide +kernel)
  have k_7 := hts (.fieldLink RX7 15 "FlowJudge$Types" "isInterface" "[Z") (by decide +kernel)
  have k_8 := hts (.fieldLink RX7 19 "FlowJudge$Types" "count" "I") (by decide +kernel)
  subst hsz
  have hD := hD0.self (sz := s.heap.size)
  generalize hAe : va_A [(h0, .inr (7, [.null, .null, .int 0]))] s.heap.size = A at hD ⊢
  have hA : ∀ q : Nat, s.heap.size ≤ q → A q := fun q h => by rw [← hAe]; exact Or.inr h
  have hS : va_S A s.heap s.heap [] := va_S.rf
  have hP : va_P (dC, dI) vwCl [(h0, .inr (7, [.null, .null, .int 0]))] s.heap := hP
  have hl := lv_entry ([.ref h0]) (n := 1) (Nat.le_of_ble_eq_true rfl)
  rw [lg_entry_eq]
  generalize (lg_sl ([.ref h0]) ++ List.replicate (1 - (lg_sl ([.ref h0])).length) Slot.unset).toArray = ls at hl ⊢
  have hl : lv_has ls 1 [(0, .ref h0)] := hl
  obtain ⟨H, hH⟩ : ∃ z, z = s.heap := ⟨_, rfl⟩
  refine x_here hH ?_
  have hP : va_P (dC, dI) vwCl [(h0, .inr (7, [.null, .null, .int 0]))] H := by rw [hH]; exact hP
  have hS : va_S A s.heap H [] := by rw [hH]; exact va_S.rf
  clear hH
  refine lv_aload_n hx hb dX7_init_0 rfl (lv_at hl 0 rfl) ?_
  refine W.objInit hx hb hown k_1 k_2 k_3 rfl (by rw [hml]; exact hl.1) rfl dX7_init_1 (Nat.le_of_ble_eq_true rfl) (Nat.le_of_ble_eq_true rfl) ?_
  refine W.eq (g2 := F0 m 4 ls []) rfl ?_
  refine lv_aload_n hx hb dX7_init_4 rfl (lv_at hl 0 rfl) ?_
  refine lv_sipush (v := 200) hx hb dX7_init_5 (by decide) ?_
  refine va_newa (atype := .int) (ty := .int) (n := 200) (N' := 200) (a0 := (200, .inl x_z0)) hx hb k_4 rfl hK hP hD hS hA (fun _ => x_zcI _ _) (by decide) (by decide) (Nat.le_of_ble_eq_true rfl) (Nat.le_of_ble_eq_true rfl) (Nat.le_of_ble_eq_true rfl) dX7_init_8 (fun q8_1 cN H hKn hP hD hS => ?_)
  obtain rfl : cyI = cN := x_one (i := 0) (j := 3) hKn rfl rfl (fun _ h => by cases h)
  clear hKn
  have hP : va_P (dC, dI) vwCl [(h0, .inr (7, [.null, .null, .int 0])), (q8_1, .inl (cyI, 200, .inl x_z0))] H := hP
  have hD : va_D A [(h0, .inr (7, [.null, .null, .int 0])), (q8_1, .inl (cyI, 200, .inl x_z0))] := hD
  refine W.widen (k := 1) (n := 200) (Nat.le_of_ble_eq_true rfl) (Nat.le_of_ble_eq_true rfl) ?_
  refine va_putF (D := (dC, dI)) (ci := 7) (v := .ref q8_1) (ty := .array .int) (C := RX7) (T := TX7) (N := 3) hx hb hts i_X7_init_X7 tyX7 tyX7_ok nmX7 hown hK hP hD hS 0 rfl rfl 0 (by decide) k_5 (fun _ h9 => h9) rfl hin rfl (by decide +kernel) rfl rfl (Nat.le_of_ble_eq_true rfl) dX7_init_10 (fun H locs hP hD hS => ?_)
  have hP : va_P (dC, dI) vwCl [(h0, .inr (7, [.ref q8_1, .null, .int 0])), (q8_1, .inl (cyI, 200, .inl x_z0))] H := hP
  have hD : va_D A [(h0, .inr (7, [.ref q8_1, .null, .int 0])), (q8_1, .inl (cyI, 200, .inl x_z0))] := hD
  refine lv_aload_n hx hb dX7_init_13 rfl (lv_at hl 0 rfl) ?_
  refine lv_sipush (v := 200) hx hb dX7_init_14 (by decide) ?_
  refine va_newa (atype := .boolean) (ty := .boolean) (n := 200) (N' := 200) (a0 := (200, .inl x_z0)) hx hb k_6 rfl hK hP hD hS hA (fun _ => x_zcZ _ _) (by decide) (by decide) (Nat.le_of_ble_eq_true rfl) (Nat.le_of_ble_eq_true rfl) (Nat.le_of_ble_eq_true rfl) dX7_init_17 (fun q17_2 cN H hKn hP hD hS => ?_)
  obtain rfl : cyZ = cN := x_one (i := 1) (j := 3) hKn rfl rfl (fun _ h => by cases h)
  clear hKn
  have hP : va_P (dC, dI) vwCl [(h0, .inr (7, [.ref q8_1, .null, .int 0])), (q8_1, .inl (cyI, 200, .inl x_z0)), (q17_2, .inl (cyZ, 200, .inl x_z0))] H := hP
  have hD : va_D A [(h0, .inr (7, [.ref q8_1, .null, .int 0])), (q8_1, .inl (cyI, 200, .inl x_z0)), (q17_2, .inl (cyZ, 200, .inl x_z0))] := hD
  refine W.widen (k := 2) (n := 400) (Nat.le_of_ble_eq_true rfl) (Nat.le_of_ble_eq_true rfl) ?_
  refine va_putF (D := (dC, dI)) (ci := 7) (v := .ref q17_2) (ty := .array .boolean) (C := RX7) (T := TX7) (N := 3) hx hb hts i_X7_init_X7 tyX7 tyX7_ok nmX7 hown hK hP hD hS 0 rfl rfl 1 (by decide) k_7 (fun _ h9 => h9) rfl hin rfl (by decide +kernel) rfl rfl (Nat.le_of_ble_eq_true rfl) dX7_init_19 (fun H locs hP hD hS => ?_)
  have hP : va_P (dC, dI) vwCl [(h0, .inr (7, [.ref q8_1, .ref q17_2, .int 0])), (q8_1, .inl (cyI, 200, .inl x_z0)), (q17_2, .inl (cyZ, 200, .inl x_z0))] H := hP
  have hD : va_D A [(h0, .inr (7, [.ref q8_1, .ref q17_2, .int 0])), (q8_1, .inl (cyI, 200, .inl x_z0)), (q17_2, .inl (cyZ, 200, .inl x_z0))] := hD
  refine lv_aload_n hx hb dX7_init_22 rfl (lv_at hl 0 rfl) ?_
  refine va_get (D := (dC, dI)) (ci := 7) (v := .ref q17_2) (C := RX7) (T := TX7) (N := 3) hx hb hts i_X7_init_X7 hown hK hP 0 rfl rfl 1 (by decide) k_7 (fun _ h9 => h9) rfl dX7_init_23 ?_
  refine lv_iconst (v := 2) hx hb dX7_init_26 (by decide) ?_
  refine lv_iconst (v := 1) hx hb dX7_init_27 (by decide) ?_
  refine va_zast hx hb hK hP hD hS 2 1 rfl rfl (x_lit _ _ (by decide)) dX7_init_28 (fun H locs hP hD hS => ?_)
  have hP : va_P (dC, dI) vwCl [(h0, .inr (7, [.ref q8_1, .ref q17_2, .int 0])), (q8_1, .inl (cyI, 200, .inl x_z0)), (q17_2, .inl (cyZ, 200, .inl (upd x_z0 (Int32.toNatClampNeg 2) (vp_nar .boolean 1))))] H := hP
  have hD : va_D A [(h0, .inr (7, [.ref q8_1, .ref q17_2, .int 0])), (q8_1, .inl (cyI, 200, .inl x_z0)), (q17_2, .inl (cyZ, 200, .inl (upd x_z0 (Int32.toNatClampNeg 2) (vp_nar .boolean 1))))] := hD
  refine lv_aload_n hx hb dX7_init_29 rfl (lv_at hl 0 rfl) ?_
  refine va_get (D := (dC, dI)) (ci := 7) (v := .ref q17_2) (C := RX7) (T := TX7) (N := 3) hx hb hts i_X7_init_X7 hown hK hP 0 rfl rfl 1 (by decide) k_7 (fun _ h9 => h9) rfl dX7_init_30 ?_
  refine lv_iconst (v := 3) hx hb dX7_init_33 (by decide) ?_
  refine lv_iconst (v := 1) hx hb dX7_init_34 (by decide) ?_
  refine va_zast hx hb hK hP hD hS 2 1 rfl rfl (x_lit _ _ (by decide)) dX7_init_35 (fun H locs hP hD hS => ?_)
  have hP : va_P (dC, dI) vwCl [(h0, .inr (7, [.ref q8_1, .ref q17_2, .int 0])), (q8_1, .inl (cyI, 200, .inl x_z0)), (q17_2, .inl (cyZ, 200, .inl (upd (upd x_z0 (Int32.toNatClampNeg 2) (vp_nar .boolean 1)) (Int32.toNatClampNeg 3) (vp_nar .boolean 1))))] H := hP
  have hD : va_D A [(h0, .inr (7, [.ref q8_1, .ref q17_2, .int 0])), (q8_1, .inl (cyI, 200, .inl x_z0)), (q17_2, .inl (cyZ, 200, .inl (upd (upd x_z0 (Int32.toNatClampNeg 2) (vp_nar .boolean 1)) (Int32.toNatClampNeg 3) (vp_nar .boolean 1))))] := hD
  refine lv_aload_n hx hb dX7_init_36 rfl (lv_at hl 0 rfl) ?_
  refine lv_iconst (v := 4) hx hb dX7_init_37 (by decide) ?_
  refine va_put (D := (dC, dI)) (ci := 7) (v := .int 4) (ty := .int) (C := RX7) (T := TX7) (N := 3) hx hb hts i_X7_init_X7 tyX7 tyX7_ok nmX7 hown hK hP hD hS 0 rfl rfl 2 (by decide) k_8 (fun _ h9 => h9) rfl (by decide +kernel) rfl rfl (Nat.le_of_ble_eq_true rfl) dX7_init_38 (fun H locs hP hD hS => ?_)
  have hP : va_P (dC, dI) vwCl [(h0, .inr (7, [.ref q8_1, .ref q17_2, .int 4])), (q8_1, .inl (cyI, 200, .inl x_z0)), (q17_2, .inl (cyZ, 200, .inl (upd (upd x_z0 (Int32.toNatClampNeg 2) (vp_nar .boolean 1)) (Int32.toNatClampNeg 3) (vp_nar .boolean 1))))] H := hP
  have hD : va_D A [(h0, .inr (7, [.ref q8_1, .ref q17_2, .int 4])), (q8_1, .inl (cyI, 200, .inl x_z0)), (q17_2, .inl (cyZ, 200, .inl (upd (upd x_z0 (Int32.toNatClampNeg 2) (vp_nar .boolean 1)) (Int32.toNatClampNeg 3) (vp_nar .boolean 1))))] := hD
  rw [x_faceE] at hP hD
  have hP9 := hP.sub (ws' := [(h0, .inr (7, [.ref q8_1, .ref q17_2, .int 4])), (q8_1, .inl (cyI, 200, .inl x_z0)), (q17_2, .inl (cyZ, 200, .inl x_face))]) [0, 1, 2] rfl
  have hD9 := hD.sub (ws' := [(h0, .inr (7, [.ref q8_1, .ref q17_2, .int 4])), (q8_1, .inl (cyI, 200, .inl x_z0)), (q17_2, .inl (cyZ, 200, .inl x_face))]) [0, 1, 2] (by decide) rfl
  exact W.vret hx hb hr (fun t ht hW => ⟨⟨(), rfl, trivial, q8_1, q17_2, by rw [ht]; exact hP9, va_K.moved hW.alike hK, hD9⟩, hS.F ht⟩) hS.2.2 dX7_init_41
