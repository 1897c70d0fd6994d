def f_X6_storeElement (v7_2 : Int32) (g7_0 : Nat → Int32) (g7_1 : Nat → Int32) (v5_2 : Int32) (v5_3 : Int32) (v5_6 : Int32) (v5_8 : Int32) (v5_9 : Int32) (g5_1 : Nat → Int32) (p1 : Int32) : Option (Int32 × Int32 × Int32) := if x_gd p1 8 = true then if (x_st4 (Int32.toNatClampNeg p1)) = (0 : Int32) then (f_X5_pullType v7_2 g7_0 g7_1 v5_2 v5_3 v5_6 v5_8 v5_9 g5_1 0) >>= (fun r_12 => (f_X5_pullKind v5_2 r_12.1 r_12.2.1 g5_1 1) >>= (fun r_13 => (f_X5_pullType v7_2 g7_0 g7_1 v5_2 r_13.1 r_13.2 r_12.2.2 v5_9 g5_1 65536) >>= (fun r_14 => some (r_14.1, r_14.2.1, r_14.2.2)))) else if x_gd p1 8 = true then (f_X5_pullType v7_2 g7_0 g7_1 v5_2 v5_3 v5_6 v5_8 v5_9 g5_1 (x_st4 (Int32.toNatClampNeg p1))) >>= (fun r_6 => (f_X5_pullKind v5_2 r_6.1 r_6.2.1 g5_1 1) >>= (fun r_7 => (f_X5_pullArray v5_2 r_7.1 r_7.2 g5_1) >>= (fun r_8 => if x_gd p1 8 = true then (f_X6_lookAtArray r_8.2.2 r_8.1 (x_st4 (Int32.toNatClampNeg p1))) >>= (fun r_11 => some (r_8.2.1, r_11, r_6.2.2)) else none))) else none else none
theorem i_X6_storeElement_X6 : ∀ w ∈ wsX60, w ∈ wsX6_storeElement := fun _ h => List.mem_cons_of_mem _ (List.mem_append_left _ (List.mem_append_left _ (List.mem_append_right _ h)))
set_option maxHeartbeats 4000000 in
set_option maxRecDepth 100000 in
theorem c_X6_storeElement (l : Launch) (dC : Nat → ClassId) (dI : Nat → Nat → Nat) (cyI cyZ cyJ : ClassId) (sz : Nat) (base : Nat) (o7 : Nat) (a7_0 : Nat) (a7_1 : Nat) (v7_2 : Int32) (g7_0 : Nat → Int32) (g7_1 : Nat → Int32) (o5 : Nat) (a5_1 : Nat) (v5_2 : Int32) (v5_3 : Int32) (v5_4 : Int32) (v5_5 : Int32) (v5_6 : Int32) (v5_7 : Int32) (v5_8 : Int32) (v5_9 : Int32) (g5_1 : Nat → Int32) (o6 : Nat) (o4 : Nat) (o0 : Nat) (p1 : Int32) (R : Int32 × Int32 × Int32) (hf : f_X6_storeElement v7_2 g7_0 g7_1 v5_2 v5_3 v5_6 v5_8 v5_9 g5_1 p1 = some R) : Met l yX6_storeElement wsX6_storeElement ({ frames := 3, cells := 0, slots := 0, locals := 72 }) (va_Pc [.ref o6, .int p1] (x_PreT (dC, dI) (x_T cyI cyZ cyJ) [(o7, .inr (7, [.ref a7_0, .ref a7_1, .int v7_2])), (a7_0, .inl (cyI, 200, .inl g7_0)), (a7_1, .inl (cyZ, 200, .inl g7_1)), (o5, .inr (5, [.ref o7, .ref a5_1, .int v5_2, .int v5_3, .int v5_4, .int v5_5, .int v5_6, .int v5_7, .int v5_8, .int v5_9])), (a5_1, .inl (cyI, 400, .inl g5_1)), (o6, .inr (6, [.ref o7, .ref o4, .ref o0, .ref o5]))] base sz)) (va_Qv (fun _ : Unit => True) (fun (_ : Unit) (t : State) => va_P (dC, dI) vwCl [(o7, .inr (7, [.ref a7_0, .ref a7_1, .int v7_2])), (a7_0, .inl (cyI, 200, .inl g7_0)), (a7_1, .inl (cyZ, 200, .inl g7_1)), (o5, .inr (5, [.ref o7, .ref a5_1, .int v5_2, .int (R.1), .int v5_4, .int v5_5, .int (R.2.1), .int v5_7, .int (R.2.2), .int v5_9])), (a5_1, .inl (cyI, 400, .inl g5_1)), (o6, .inr (6, [.ref o7, .ref o4, .ref o0, .ref o5]))] t.heap ∧ va_K (dC, dI) vwCl (x_T cyI cyZ cyJ) t ∧ va_D (va_A [(o7, .inr (7, [.ref a7_0, .ref a7_1, .int v7_2])), (a7_0, .inl (cyI, 200, .inl g7_0)), (a7_1, .inl (cyZ, 200, .inl g7_1)), (o5, .inr (5, [.ref o7, .ref a5_1, .int v5_2, .int v5_3, .int v5_4, .int v5_5, .int v5_6, .int v5_7, .int v5_8, .int v5_9])), (a5_1, .inl (cyI, 400, .inl g5_1)), (o6, .inr (6, [.ref o7, .ref o4, .ref o0, .ref o5]))] sz) [(o7, .inr (7, [.ref a7_0, .ref a7_1, .int v7_2])), (a7_0, .inl (cyI, 200, .inl g7_0)), (a7_1, .inl (cyZ, 200, .inl g7_1)), (o5, .inr (5, [.ref o7, .ref a5_1, .int v5_2, .int (R.1), .int v5_4, .int v5_5, .int (R.2.1), .int v5_7, .int (R.2.2), .int v5_9])), (a5_1, .inl (cyI, 400, .inl g5_1)), (o6, .inr (6, [.ref o7, .ref o4, .ref o0, .ref o5]))]) (va_A [(o7, .inr (7, [.ref a7_0, .ref a7_1, .int v7_2])), (a7_0, .inl (cyI, 200, .inl g7_0)), (a7_1, .inl (cyZ, 200, .inl g7_1)), (o5, .inr (5, [.ref o7, .ref a5_1, .int v5_2, .int v5_3, .int v5_4, .int v5_5, .int v5_6, .int v5_7, .int v5_8, .int v5_9])), (a5_1, .inl (cyI, 400, .inl g5_1)), (o6, .inr (6, [.ref o7, .ref o4, .ref o0, .ref o5]))] sz)) 0 0 (va_A [(o7, .inr (7, [.ref a7_0, .ref a7_1, .int v7_2])), (a7_0, .inl (cyI, 200, .inl g7_0)), (a7_1, .inl (cyZ, 200, .inl g7_1)), (o5, .inr (5, [.ref o7, .ref a5_1, .int v5_2, .int v5_3, .int v5_4, .int v5_5, .int v5_6, .int v5_7, .int v5_8, .int v5_9])), (a5_1, .inl (cyI, 400, .inl g5_1)), (o6, .inr (6, [.ref o7, .ref o4, .ref o0, .ref o5]))] sz) := by
  refine Met.ofW (cc := cX6_storeElement) (maxL := 2) (ret := none) (by decide) rfl ?_
  intro p e s m args below meth c s₁ B hml hv
  obtain ⟨rfl, ⟨⟨hsz, hP, hK, hN⟩, hD0⟩, hDb, hbz, hT⟩ := hv
  have hx := B.exec
  have hb := B.bytes
  have hr := B.returns
  have hts := atoms_spec (ws := wsX6_storeElement) B.pre
  have hown : s.vm.findClass RX6 = some m.cls := findClass_of_methodNamed B.named
  have k_1 := hts (.fieldLink RX6 123 "FlowJudge$Steps" "ELEMENTS" "[I") (by decide +kernel)
  have k_2 := hts (.fieldLink RX6 23 "FlowJudge$Steps" "places" "LFlowJudge$Places;") (by decide +kernel)
  have k_3 := hts (.constant RX6 122 (65536)) (by decide +kernel)
  subst hsz
  have hAb : ∀ q, va_A [(o7, .inr (7, [.ref a7_0, .ref a7_1, .int v7_2])), (a7_0, .inl (cyI, 200, .inl g7_0)), (a7_1, .inl (cyZ, 200, .inl g7_1)), (o5, .inr (5, [.ref o7, .ref a5_1, .int v5_2, .int v5_3, .int v5_4, .int v5_5, .int v5_6, .int v5_7, .int v5_8, .int v5_9])), (a5_1, .inl (cyI, 400, .inl g5_1)), (o6, .inr (6, [.ref o7, .ref o4, .ref o0, .ref o5]))] s.heap.size q → x_new base q := x_Ab hDb hbz
  have hD := hD0.self (sz := s.heap.size)
  generalize hAe : va_A [(o7, .inr (7, [.ref a7_0, .ref a7_1, .int v7_2])), (a7_0, .inl (cyI, 200, .inl g7_0)), (a7_1, .inl (cyZ, 200, .inl g7_1)), (o5, .inr (5, [.ref o7, .ref a5_1, .int v5_2, .int v5_3, .int v5_4, .int v5_5, .int v5_6, .int v5_7, .int v5_8, .int v5_9])), (a5_1, .inl (cyI, 400, .inl g5_1)), (o6, .inr (6, [.ref o7, .ref o4, .ref o0, .ref o5]))] s.heap.size = A at hD hAb ⊢
  have hA : ∀ q : Nat, s.heap.size ≤ q → A q := fun q h => by rw [← hAe]; exact Or.inr h
  have hP : va_P (dC, dI) vwCl [(o7, .inr (7, [.ref a7_0, .ref a7_1, .int v7_2])), (a7_0, .inl (cyI, 200, .inl g7_0)), (a7_1, .inl (cyZ, 200, .inl g7_1)), (o5, .inr (5, [.ref o7, .ref a5_1, .int v5_2, .int v5_3, .int v5_4, .int v5_5, .int v5_6, .int v5_7, .int v5_8, .int v5_9])), (a5_1, .inl (cyI, 400, .inl g5_1)), (o6, .inr (6, [.ref o7, .ref o4, .ref o0, .ref o5]))] s.heap := hP
  have hl := lv_entry ([.ref o6, .int p1]) (n := 2) (Nat.le_of_ble_eq_true rfl)
  rw [lg_entry_eq]
  generalize (lg_sl ([.ref o6, .int p1]) ++ List.replicate (2 - (lg_sl ([.ref o6, .int p1])).length) Slot.unset).toArray = ls at hl ⊢
  have hl : lv_has ls 2 [(0, .ref o6), (1, .int p1)] := hl
  obtain ⟨H, hH⟩ : ∃ z, z = s.heap := ⟨_, rfl⟩
  refine x_here hH ?_
  have hP : va_P (dC, dI) vwCl [(o7, .inr (7, [.ref a7_0, .ref a7_1, .int v7_2])), (a7_0, .inl (cyI, 200, .inl g7_0)), (a7_1, .inl (cyZ, 200, .inl g7_1)), (o5, .inr (5, [.ref o7, .ref a5_1, .int v5_2, .int v5_3, .int v5_4, .int v5_5, .int v5_6, .int v5_7, .int v5_8, .int v5_9])), (a5_1, .inl (cyI, 400, .inl g5_1)), (o6, .inr (6, [.ref o7, .ref o4, .ref o0, .ref o5]))] H := by rw [hH]; exact hP
  have hS : va_S A s.heap H [] := by rw [hH]; exact va_S.rf
  clear hH
  obtain ⟨locs, hlo⟩ : ∃ z : List Loc, z = [] := ⟨_, rfl⟩
  refine x_herl hlo ?_
  have hS : va_S A s.heap H locs := by rw [hlo]; exact hS
  clear hlo
  unfold f_X6_storeElement at hf
  obtain ⟨b_1, hZ_1, hX_1, hb_1⟩ := hT _ (List.mem_of_getElem? (i := 4) rfl)
  refine va_gets hx hb (hZ_1.narrow hAb) hS hown k_1 (fun _ h9 => h9) dX6_storeElement_0 ?_
  refine lv_iload_n hx hb dX6_storeElement_3 rfl (lv_at hl 1 rfl) ?_
  obtain ⟨g_2, hf⟩ := x_gu hf
  refine va_sld hx hb hX_1 (Nat.lt_of_lt_of_le hb_1 hbz) (fun h9 => absurd (hAb _ h9) (Nat.not_le.mpr hb_1)) hS (x_gdin g_2) dX6_storeElement_4 ?_
  refine lv_if_ne (tgt := 34) hx hb dX6_storeElement_5 (by decide) (fun c_3 => ?_) (fun c_3 => ?_)
  · replace hf := x_in c_3 hf
    refine lv_aload_n hx hb dX6_storeElement_34 rfl (lv_at hl 0 rfl) ?_
    refine va_get (D := (dC, dI)) (ci := 6) (v := .ref o5) (C := RX6) (T := TX6) (N := 4) hx hb hts i_X6_storeElement_X6 hown hK hP 5 rfl rfl 3 (by decide) k_2 (fun _ h9 => h9) rfl dX6_storeElement_35 ?_
    obtain ⟨b_4, hZ_4, hX_4, hb_4⟩ := hT _ (List.mem_of_getElem? (i := 4) rfl)
    refine va_gets hx hb (hZ_4.narrow hAb) hS hown k_1 (fun _ h9 => h9) dX6_storeElement_38 ?_
    refine lv_iload_n hx hb dX6_storeElement_41 rfl (lv_at hl 1 rfl) ?_
    obtain ⟨g_5, hf⟩ := x_gu hf
    refine va_sld hx hb hX_4 (Nat.lt_of_lt_of_le hb_4 hbz) (fun h9 => absurd (hAb _ h9) (Nat.not_le.mpr hb_4)) hS (x_gdin g_5) dX6_storeElement_42 ?_
    obtain ⟨r_6, h_6, hf⟩ := x_bi hf
    have hPc := hP.sub (ws' := [(o7, .inr (7, [.ref a7_0, .ref a7_1, .int v7_2])), (a7_0, .inl (cyI, 200, .inl g7_0)), (a7_1, .inl (cyZ, 200, .inl g7_1)), (o5, .inr (5, [.ref o7, .ref a5_1, .int v5_2, .int v5_3, .int v5_4, .int v5_5, .int v5_6, .int v5_7, .int v5_8, .int v5_9])), (a5_1, .inl (cyI, 400, .inl g5_1))]) [0, 1, 2, 3, 4] rfl
    have hDc := hD.sub (ws' := [(o7, .inr (7, [.ref a7_0, .ref a7_1, .int v7_2])), (a7_0, .inl (cyI, 200, .inl g7_0)), (a7_1, .inl (cyZ, 200, .inl g7_1)), (o5, .inr (5, [.ref o7, .ref a5_1, .int v5_2, .int v5_3, .int v5_4, .int v5_5, .int v5_6, .int v5_7, .int v5_8, .int v5_9])), (a5_1, .inl (cyI, 400, .inl g5_1))]) [0, 1, 2, 3, 4] (by decide) rfl
    have hFc := va_free (wc := [(o7, .inr (7, [.ref a7_0, .ref a7_1, .int v7_2])), (a7_0, .inl (cyI, 200, .inl g7_0)), (a7_1, .inl (cyZ, 200, .inl g7_1)), (o5, .inr (5, [.ref o7, .ref a5_1, .int v5_2, .int v5_3, .int v5_4, .int v5_5, .int v5_6, .int v5_7, .int v5_8, .int v5_9])), (a5_1, .inl (cyI, 400, .inl g5_1))]) hD hS hA [0, 1, 2, 3, 4] rfl
    refine va_callv (va_runV (As := [.int (x_st4 (Int32.toNatClampNeg p1))]) (rest := []) ⟨hx, hb, hml, hown, hts⟩ (c_X5_pullType l dC dI cyI cyZ cyJ H.size o7 a7_0 a7_1 v7_2 g7_0 g7_1 o5 a5_1 v5_2 v5_3 v5_4 v5_5 v5_6 v5_7 v5_8 v5_9 g5_1 (x_st4 (Int32.toNatClampNeg p1)) r_6 h_6) (cwV 1 hts gX6_storeElement_X5_pullType rfl rfl rfl (by decide +kernel) ⟨Nat.le_of_ble_eq_true rfl, Nat.le_of_ble_eq_true rfl⟩) (x_pVD hN hK hPc hDc (ci := 5) (q0 := 3) rfl rfl) rfl rfl hl.1 rfl (lv_room (Nat.le_of_ble_eq_true rfl)) dX6_storeElement_43 ⟨Nat.le_of_ble_eq_true rfl, Nat.le_of_ble_eq_true rfl⟩) hS (fun q _ h => hFc q h) hFc (fun u t H1 locs ht hvm hw hB hz1 hk1 hS => ?_)
    obtain ⟨hP1, hK1, hD1⟩ := hB
    rw [ht] at hP1
    obtain ⟨hP, hD⟩ := va_join (wr := [(o6, .inr (6, [.ref o7, .ref o4, .ref o0, .ref o5]))]) (w1 := [(o7, .inr (7, [.ref a7_0, .ref a7_1, .int v7_2])), (a7_0, .inl (cyI, 200, .inl g7_0)), (a7_1, .inl (cyZ, 200, .inl g7_1)), (o5, .inr (5, [.ref o7, .ref a5_1, .int v5_2, .int (r_6.1), .int v5_4, .int v5_5, .int (r_6.2.1), .int v5_7, .int (r_6.2.2), .int v5_9])), (a5_1, .inl (cyI, 400, .inl g5_1))]) hP hD [0, 1, 2, 3, 4] [5] rfl rfl (by decide) (by decide) hk1 hFc hP1 hD1
    clear hz1 hk1 hPc hDc hFc hP1 hK1 hD1 ht hvm t u
    generalize H1 = H at hP hS ⊢
    have hP : va_P (dC, dI) vwCl [(o6, .inr (6, [.ref o7, .ref o4, .ref o0, .ref o5])), (o7, .inr (7, [.ref a7_0, .ref a7_1, .int v7_2])), (a7_0, .inl (cyI, 200, .inl g7_0)), (a7_1, .inl (cyZ, 200, .inl g7_1)), (o5, .inr (5, [.ref o7, .ref a5_1, .int v5_2, .int (r_6.1), .int v5_4, .int v5_5, .int (r_6.2.1), .int v5_7, .int (r_6.2.2), .int v5_9])), (a5_1, .inl (cyI, 400, .inl g5_1))] H := hP
    have hD : va_D A [(o6, .inr (6, [.ref o7, .ref o4, .ref o0, .ref o5])), (o7, .inr (7, [.ref a7_0, .ref a7_1, .int v7_2])), (a7_0, .inl (cyI, 200, .inl g7_0)), (a7_1, .inl (cyZ, 200, .inl g7_1)), (o5, .inr (5, [.ref o7, .ref a5_1, .int v5_2, .int (r_6.1), .int v5_4, .int v5_5, .int (r_6.2.1), .int v5_7, .int (r_6.2.2), .int v5_9])), (a5_1, .inl (cyI, 400, .inl g5_1))] := hD
    refine lv_aload_n hx hb dX6_storeElement_46 rfl (lv_at hl 0 rfl) ?_
    refine va_get (D := (dC, dI)) (ci := 6) (v := .ref o5) (C := RX6) (T := TX6) (N := 4) hx hb hts i_X6_storeElement_X6 hown hK hP 0 rfl rfl 3 (by decide) k_2 (fun _ h9 => h9) rfl dX6_storeElement_47 ?_
    refine lv_iconst (v := 1) hx hb dX6_storeElement_50 (by decide) ?_
    obtain ⟨r_7, h_7, hf⟩ := x_bi hf
    have hPc := hP.sub (ws' := [(o5, .inr (5, [.ref o7, .ref a5_1, .int v5_2, .int (r_6.1), .int v5_4, .int v5_5, .int (r_6.2.1), .int v5_7, .int (r_6.2.2), .int v5_9])), (a5_1, .inl (cyI, 400, .inl g5_1))]) [4, 5] rfl
    have hDc := hD.sub (ws' := [(o5, .inr (5, [.ref o7, .ref a5_1, .int v5_2, .int (r_6.1), .int v5_4, .int v5_5, .int (r_6.2.1), .int v5_7, .int (r_6.2.2), .int v5_9])), (a5_1, .inl (cyI, 400, .inl g5_1))]) [4, 5] (by decide) rfl
    have hFc := va_free (wc := [(o5, .inr (5, [.ref o7, .ref a5_1, .int v5_2, .int (r_6.1), .int v5_4, .int v5_5, .int (r_6.2.1), .int v5_7, .int (r_6.2.2), .int v5_9])), (a5_1, .inl (cyI, 400, .inl g5_1))]) hD hS hA [4, 5] rfl
    refine va_callv (va_runV (As := [.int 1]) (rest := []) ⟨hx, hb, hml, hown, hts⟩ (c_X5_pullKind l dC dI cyI cyZ cyJ H.size o5 o7 a5_1 v5_2 r_6.1 v5_4 v5_5 r_6.2.1 v5_7 r_6.2.2 v5_9 g5_1 1 r_7 h_7) (cwV 1 hts gX6_storeElement_X5_pullKind rfl rfl rfl (by decide +kernel) ⟨Nat.le_of_ble_eq_true rfl, Nat.le_of_ble_eq_true rfl⟩) (x_pVD hN hK hPc hDc (ci := 5) (q0 := 0) rfl rfl) rfl rfl hl.1 rfl (lv_room (Nat.le_of_ble_eq_true rfl)) dX6_storeElement_51 ⟨Nat.le_of_ble_eq_true rfl, Nat.le_of_ble_eq_true rfl⟩) hS (fun q _ h => hFc q h) hFc (fun u t H1 locs ht hvm hw hB hz1 hk1 hS => ?_)
    obtain ⟨hP1, hK1, hD1⟩ := hB
    rw [ht] at hP1
    obtain ⟨hP, hD⟩ := va_join (wr := [(o6, .inr (6, [.ref o7, .ref o4, .ref o0, .ref o5])), (o7, .inr (7, [.ref a7_0, .ref a7_1, .int v7_2])), (a7_0, .inl (cyI, 200, .inl g7_0)), (a7_1, .inl (cyZ, 200, .inl g7_1))]) (w1 := [(o5, .inr (5, [.ref o7, .ref a5_1, .int v5_2, .int (r_7.1), .int v5_4, .int v5_5, .int (r_7.2), .int v5_7, .int (r_6.2.2), .int v5_9])), (a5_1, .inl (cyI, 400, .inl g5_1))]) hP hD [4, 5] [0, 1, 2, 3] rfl rfl (by decide) (by decide) hk1 hFc hP1 hD1
    clear hz1 hk1 hPc hDc hFc hP1 hK1 hD1 ht hvm t u
    generalize H1 = H at hP hS ⊢
    have hP : va_P (dC, dI) vwCl [(o6, .inr (6, [.ref o7, .ref o4, .ref o0, .ref o5])), (o7, .inr (7, [.ref a7_0, .ref a7_1, .int v7_2])), (a7_0, .inl (cyI, 200, .inl g7_0)), (a7_1, .inl (cyZ, 200, .inl g7_1)), (o5, .inr (5, [.ref o7, .ref a5_1, .int v5_2, .int (r_7.1), .int v5_4, .int v5_5, .int (r_7.2), .int v5_7, .int (r_6.2.2), .int v5_9])), (a5_1, .inl (cyI, 400, .inl g5_1))] H := hP
    have hD : va_D A [(o6, .inr (6, [.ref o7, .ref o4, .ref o0, .ref o5])), (o7, .inr (7, [.ref a7_0, .ref a7_1, .int v7_2])), (a7_0, .inl (cyI, 200, .inl g7_0)), (a7_1, .inl (cyZ, 200, .inl g7_1)), (o5, .inr (5, [.ref o7, .ref a5_1, .int v5_2, .int (r_7.1), .int v5_4, .int v5_5, .int (r_7.2), .int v5_7, .int (r_6.2.2), .int v5_9])), (a5_1, .inl (cyI, 400, .inl g5_1))] := hD
    refine lv_aload_n hx hb dX6_storeElement_54 rfl (lv_at hl 0 rfl) ?_
    refine lv_aload_n hx hb dX6_storeElement_55 rfl (lv_at hl 0 rfl) ?_
    refine va_get (D := (dC, dI)) (ci := 6) (v := .ref o5) (C := RX6) (T := TX6) (N := 4) hx hb hts i_X6_storeElement_X6 hown hK hP 0 rfl rfl 3 (by decide) k_2 (fun _ h9 => h9) rfl dX6_storeElement_56 ?_
    obtain ⟨r_8, h_8, hf⟩ := x_bi hf
    have hPc := hP.sub (ws' := [(o5, .inr (5, [.ref o7, .ref a5_1, .int v5_2, .int (r_7.1), .int v5_4, .int v5_5, .int (r_7.2), .int v5_7, .int (r_6.2.2), .int v5_9])), (a5_1, .inl (cyI, 400, .inl g5_1))]) [4, 5] rfl
    have hDc := hD.sub (ws' := [(o5, .inr (5, [.ref o7, .ref a5_1, .int v5_2, .int (r_7.1), .int v5_4, .int v5_5, .int (r_7.2), .int v5_7, .int (r_6.2.2), .int v5_9])), (a5_1, .inl (cyI, 400, .inl g5_1))]) [4, 5] (by decide) rfl
    have hFc := va_free (wc := [(o5, .inr (5, [.ref o7, .ref a5_1, .int v5_2, .int (r_7.1), .int v5_4, .int v5_5, .int (r_7.2), .int v5_7, .int (r_6.2.2), .int v5_9])), (a5_1, .inl (cyI, 400, .inl g5_1))]) hD hS hA [4, 5] rfl
    refine va_calli (va_runV (As := []) (rest := [.ref o6]) ⟨hx, hb, hml, hown, hts⟩ (c_X5_pullArray l dC dI cyI cyZ cyJ H.size o5 o7 a5_1 v5_2 r_7.1 v5_4 v5_5 r_7.2 v5_7 r_6.2.2 v5_9 g5_1 r_8 h_8) (cwV 0 hts gX6_storeElement_X5_pullArray rfl rfl rfl (by decide +kernel) ⟨Nat.le_of_ble_eq_true rfl, Nat.le_of_ble_eq_true rfl⟩) (x_pVD hN hK hPc hDc (ci := 5) (q0 := 0) rfl rfl) rfl rfl hl.1 rfl (lv_room (Nat.le_of_ble_eq_true rfl)) dX6_storeElement_59 ⟨Nat.le_of_ble_eq_true rfl, Nat.le_of_ble_eq_true rfl⟩) hS (fun q _ h => hFc q h) hFc (fun q_8 u t H1 locs ht hvm hw hB hz1 hk1 hS => ?_)
    obtain ⟨hP1, hK1, hD1⟩ := hB
    rw [ht] at hP1
    obtain ⟨hP, hD⟩ := va_join (wr := [(o6, .inr (6, [.ref o7, .ref o4, .ref o0, .ref o5])), (o7, .inr (7, [.ref a7_0, .ref a7_1, .int v7_2])), (a7_0, .inl (cyI, 200, .inl g7_0)), (a7_1, .inl (cyZ, 200, .inl g7_1))]) (w1 := [(o5, .inr (5, [.ref o7, .ref a5_1, .int v5_2, .int (r_8.2.1), .int v5_4, .int v5_5, .int (r_8.2.2), .int v5_7, .int (r_6.2.2), .int v5_9])), (a5_1, .inl (cyI, 400, .inl g5_1))]) hP hD [4, 5] [0, 1, 2, 3] rfl rfl (by decide) (by decide) hk1 hFc hP1 hD1
    clear hz1 hk1 hPc hDc hFc hP1 hK1 hD1 ht hvm t u
    generalize H1 = H at hP hS ⊢
    have hP : va_P (dC, dI) vwCl [(o6, .inr (6, [.ref o7, .ref o4, .ref o0, .ref o5])), (o7, .inr (7, [.ref a7_0, .ref a7_1, .int v7_2])), (a7_0, .inl (cyI, 200, .inl g7_0)), (a7_1, .inl (cyZ, 200, .inl g7_1)), (o5, .inr (5, [.ref o7, .ref a5_1, .int v5_2, .int (r_8.2.1), .int v5_4, .int v5_5, .int (r_8.2.2), .int v5_7, .int (r_6.2.2), .int v5_9])), (a5_1, .inl (cyI, 400, .inl g5_1))] H := hP
    have hD : va_D A [(o6, .inr (6, [.ref o7, .ref o4, .ref o0, .ref o5])), (o7, .inr (7, [.ref a7_0, .ref a7_1, .int v7_2])), (a7_0, .inl (cyI, 200, .inl g7_0)), (a7_1, .inl (cyZ, 200, .inl g7_1)), (o5, .inr (5, [.ref o7, .ref a5_1, .int v5_2, .int (r_8.2.1), .int v5_4, .int v5_5, .int (r_8.2.2), .int v5_7, .int (r_6.2.2), .int v5_9])), (a5_1, .inl (cyI, 400, .inl g5_1))] := hD
    obtain rfl := hw.symm
    obtain ⟨b_9, hZ_9, hX_9, hb_9⟩ := hT _ (List.mem_of_getElem? (i := 4) rfl)
    refine va_gets hx hb (hZ_9.narrow hAb) hS hown k_1 (fun _ h9 => h9) dX6_storeElement_62 ?_
    refine lv_iload_n hx hb dX6_storeElement_65 rfl (lv_at hl 1 rfl) ?_
    obtain ⟨g_10, hf⟩ := x_gu hf
    refine va_sld hx hb hX_9 (Nat.lt_of_lt_of_le hb_9 hbz) (fun h9 => absurd (hAb _ h9) (Nat.not_le.mpr hb_9)) hS (x_gdin g_10) dX6_storeElement_66 ?_
    obtain ⟨r_11, h_11, hf⟩ := x_bi hf
    have hPc := hP.sub (ws' := [(o5, .inr (5, [.ref o7, .ref a5_1, .int v5_2, .int (r_8.2.1), .int v5_4, .int v5_5, .int (r_8.2.2), .int v5_7, .int (r_6.2.2), .int v5_9])), (o6, .inr (6, [.ref o7, .ref o4, .ref o0, .ref o5]))]) [4, 0] rfl
    have hDc := hD.sub (ws' := [(o5, .inr (5, [.ref o7, .ref a5_1, .int v5_2, .int (r_8.2.1), .int v5_4, .int v5_5, .int (r_8.2.2), .int v5_7, .int (r_6.2.2), .int v5_9])), (o6, .inr (6, [.ref o7, .ref o4, .ref o0, .ref o5]))]) [4, 0] (by decide) rfl
    have hFc := va_free (wc := [(o5, .inr (5, [.ref o7, .ref a5_1, .int v5_2, .int (r_8.2.1), .int v5_4, .int v5_5, .int (r_8.2.2), .int v5_7, .int (r_6.2.2), .int v5_9])), (o6, .inr (6, [.ref o7, .ref o4, .ref o0, .ref o5]))]) hD hS hA [4, 0] rfl
    refine va_callv (va_runV (As := [.int (r_8.1), .int (x_st4 (Int32.toNatClampNeg p1))]) (rest := []) ⟨hx, hb, hml, hown, hts⟩ (c_X6_lookAtArray l dC dI cyI cyZ cyJ H.size o5 o7 a5_1 v5_2 r_8.2.1 v5_4 v5_5 r_8.2.2 v5_7 r_6.2.2 v5_9 o6 o4 o0 r_8.1 (x_st4 (Int32.toNatClampNeg p1)) r_11 h_11) (cwV 2 hts gX6_storeElement_X6_lookAtArray rfl rfl rfl (by decide +kernel) ⟨Nat.le_of_ble_eq_true rfl, Nat.le_of_ble_eq_true rfl⟩) (x_pVD hN hK hPc hDc (ci := 6) (q0 := 1) rfl rfl) rfl rfl hl.1 rfl (lv_room (Nat.le_of_ble_eq_true rfl)) dX6_storeElement_67 ⟨Nat.le_of_ble_eq_true rfl, Nat.le_of_ble_eq_true rfl⟩) hS (fun q _ h => hFc q h) hFc (fun u t H1 locs ht hvm hw hB hz1 hk1 hS => ?_)
    obtain ⟨hP1, hK1, hD1⟩ := hB
    rw [ht] at hP1
    obtain ⟨hP, hD⟩ := va_join (wr := [(o7, .inr (7, [.ref a7_0, .ref a7_1, .int v7_2])), (a7_0, .inl (cyI, 200, .inl g7_0)), (a7_1, .inl (cyZ, 200, .inl g7_1)), (a5_1, .inl (cyI, 400, .inl g5_1))]) (w1 := [(o5, .inr (5, [.ref o7, .ref a5_1, .int v5_2, .int (r_8.2.1), .int v5_4, .int v5_5, .int r_11, .int v5_7, .int (r_6.2.2), .int v5_9])), (o6, .inr (6, [.ref o7, .ref o4, .ref o0, .ref o5]))]) hP hD [4, 0] [1, 2, 3, 5] rfl rfl (by decide) (by decide) hk1 hFc hP1 hD1
    clear hz1 hk1 hPc hDc hFc hP1 hK1 hD1 ht hvm t u
    generalize H1 = H at hP hS ⊢
    have hP : va_P (dC, dI) vwCl [(o7, .inr (7, [.ref a7_0, .ref a7_1, .int v7_2])), (a7_0, .inl (cyI, 200, .inl g7_0)), (a7_1, .inl (cyZ, 200, .inl g7_1)), (a5_1, .inl (cyI, 400, .inl g5_1)), (o5, .inr (5, [.ref o7, .ref a5_1, .int v5_2, .int (r_8.2.1), .int v5_4, .int v5_5, .int r_11, .int v5_7, .int (r_6.2.2), .int v5_9])), (o6, .inr (6, [.ref o7, .ref o4, .ref o0, .ref o5]))] H := hP
    have hD : va_D A [(o7, .inr (7, [.ref a7_0, .ref a7_1, .int v7_2])), (a7_0, .inl (cyI, 200, .inl g7_0)), (a7_1, .inl (cyZ, 200, .inl g7_1)), (a5_1, .inl (cyI, 400, .inl g5_1)), (o5, .inr (5, [.ref o7, .ref a5_1, .int v5_2, .int (r_8.2.1), .int v5_4, .int v5_5, .int r_11, .int v5_7, .int (r_6.2.2), .int v5_9])), (o6, .inr (6, [.ref o7, .ref o4, .ref o0, .ref o5]))] := hD
    obtain rfl := Option.some.inj hf
    have hP9 := hP.sub (ws' := [(o7, .inr (7, [.ref a7_0, .ref a7_1, .int v7_2])), (a7_0, .inl (cyI, 200, .inl g7_0)), (a7_1, .inl (cyZ, 200, .inl g7_1)), (o5, .inr (5, [.ref o7, .ref a5_1, .int v5_2, .int (r_8.2.1), .int v5_4, .int v5_5, .int r_11, .int v5_7, .int (r_6.2.2), .int v5_9])), (a5_1, .inl (cyI, 400, .inl g5_1)), (o6, .inr (6, [.ref o7, .ref o4, .ref o0, .ref o5]))]) [0, 1, 2, 4, 3, 5] rfl
    have hD9 := hD.sub (ws' := [(o7, .inr (7, [.ref a7_0, .ref a7_1, .int v7_2])), (a7_0, .inl (cyI, 200, .inl g7_0)), (a7_1, .inl (cyZ, 200, .inl g7_1)), (o5, .inr (5, [.ref o7, .ref a5_1, .int v5_2, .int (r_8.2.1), .int v5_4, .int v5_5, .int r_11, .int v5_7, .int (r_6.2.2), .int v5_9])), (a5_1, .inl (cyI, 400, .inl g5_1)), (o6, .inr (6, [.ref o7, .ref o4, .ref o0, .ref o5]))]) [0, 1, 2, 4, 3, 5] (by decide) rfl
    exact W.vret hx hb hr (fun t ht hW => ⟨⟨(), rfl, trivial, by rw [ht]; exact hP9, va_K.moved hW.alike hK, hD9⟩, hS.F ht⟩) hS.2.2 dX6_storeElement_70
  · replace hf := x_ip c_3 hf
    refine lv_aload_n hx hb dX6_storeElement_8 rfl (lv_at hl 0 rfl) ?_
    refine va_get (D := (dC, dI)) (ci := 6) (v := .ref o5) (C := RX6) (T := TX6) (N := 4) hx hb hts i_X6_storeElement_X6 hown hK hP 5 rfl rfl 3 (by decide) k_2 (fun _ h9 => h9) rfl dX6_storeElement_9 ?_
    refine lv_iconst (v := 0) hx hb dX6_storeElement_12 (by decide) ?_
    obtain ⟨r_12, h_12, hf⟩ := x_bi hf
    have hPc := hP.sub (ws' := [(o7, .inr (7, [.ref a7_0, .ref a7_1, .int v7_2])), (a7_0, .inl (cyI, 200, .inl g7_0)), (a7_1, .inl (cyZ, 200, .inl g7_1)), (o5, .inr (5, [.ref o7, .ref a5_1, .int v5_2, .int v5_3, .int v5_4, .int v5_5, .int v5_6, .int v5_7, .int v5_8, .int v5_9])), (a5_1, .inl (cyI, 400, .inl g5_1))]) [0, 1, 2, 3, 4] rfl
    have hDc := hD.sub (ws' := [(o7, .inr (7, [.ref a7_0, .ref a7_1, .int v7_2])), (a7_0, .inl (cyI, 200, .inl g7_0)), (a7_1, .inl (cyZ, 200, .inl g7_1)), (o5, .inr (5, [.ref o7, .ref a5_1, .int v5_2, .int v5_3, .int v5_4, .int v5_5, .int v5_6, .int v5_7, .int v5_8, .int v5_9])), (a5_1, .inl (cyI, 400, .inl g5_1))]) [0, 1, 2, 3, 4] (by decide) rfl
    have hFc := va_free (wc := [(o7, .inr (7, [.ref a7_0, .ref a7_1, .int v7_2])), (a7_0, .inl (cyI, 200, .inl g7_0)), (a7_1, .inl (cyZ, 200, .inl g7_1)), (o5, .inr (5, [.ref o7, .ref a5_1, .int v5_2, .int v5_3, .int v5_4, .int v5_5, .int v5_6, .int v5_7, .int v5_8, .int v5_9])), (a5_1, .inl (cyI, 400, .inl g5_1))]) hD hS hA [0, 1, 2, 3, 4] rfl
    refine va_callv (va_runV (As := [.int 0]) (rest := []) ⟨hx, hb, hml, hown, hts⟩ (c_X5_pullType l dC dI cyI cyZ cyJ H.size o7 a7_0 a7_1 v7_2 g7_0 g7_1 o5 a5_1 v5_2 v5_3 v5_4 v5_5 v5_6 v5_7 v5_8 v5_9 g5_1 0 r_12 h_12) (cwV 1 hts gX6_storeElement_X5_pullType rfl rfl rfl (by decide +kernel) ⟨Nat.le_of_ble_eq_true rfl, Nat.le_of_ble_eq_true rfl⟩) (x_pVD hN hK hPc hDc (ci := 5) (q0 := 3) rfl rfl) rfl rfl hl.1 rfl (lv_room (Nat.le_of_ble_eq_true rfl)) dX6_storeElement_13 ⟨Nat.le_of_ble_eq_true rfl, Nat.le_of_ble_eq_true rfl⟩) hS (fun q _ h => hFc q h) hFc (fun u t H1 locs ht hvm hw hB hz1 hk1 hS => ?_)
    obtain ⟨hP1, hK1, hD1⟩ := hB
    rw [ht] at hP1
    obtain ⟨hP, hD⟩ := va_join (wr := [(o6, .inr (6, [.ref o7, .ref o4, .ref o0, .ref o5]))]) (w1 := [(o7, .inr (7, [.ref a7_0, .ref a7_1, .int v7_2])), (a7_0, .inl (cyI, 200, .inl g7_0)), (a7_1, .inl (cyZ, 200, .inl g7_1)), (o5, .inr (5, [.ref o7, .ref a5_1, .int v5_2, .int (r_12.1), .int v5_4, .int v5_5, .int (r_12.2.1), .int v5_7, .int (r_12.2.2), .int v5_9])), (a5_1, .inl (cyI, 400, .inl g5_1))]) hP hD [0, 1, 2, 3, 4] [5] rfl rfl (by decide) (by decide) hk1 hFc hP1 hD1
    clear hz1 hk1 hPc hDc hFc hP1 hK1 hD1 ht hvm t u
    generalize H1 = H at hP hS ⊢
    have hP : va_P (dC, dI) vwCl [(o6, .inr (6, [.ref o7, .ref o4, .ref o0, .ref o5])), (o7, .inr (7, [.ref a7_0, .ref a7_1, .int v7_2])), (a7_0, .inl (cyI, 200, .inl g7_0)), (a7_1, .inl (cyZ, 200, .inl g7_1)), (o5, .inr (5, [.ref o7, .ref a5_1, .int v5_2, .int (r_12.1), .int v5_4, .int v5_5, .int (r_12.2.1), .int v5_7, .int (r_12.2.2), .int v5_9])), (a5_1, .inl (cyI, 400, .inl g5_1))] H := hP
    have hD : va_D A [(o6, .inr (6, [.ref o7, .ref o4, .ref o0, .ref o5])), (o7, .inr (7, [.ref a7_0, .ref a7_1, .int v7_2])), (a7_0, .inl (cyI, 200, .inl g7_0)), (a7_1, .inl (cyZ, 200, .inl g7_1)), (o5, .inr (5, [.ref o7, .ref a5_1, .int v5_2, .int (r_12.1), .int v5_4, .int v5_5, .int (r_12.2.1), .int v5_7, .int (r_12.2.2), .int v5_9])), (a5_1, .inl (cyI, 400, .inl g5_1))] := hD
    refine lv_aload_n hx hb dX6_storeElement_16 rfl (lv_at hl 0 rfl) ?_
    refine va_get (D := (dC, dI)) (ci := 6) (v := .ref o5) (C := RX6) (T := TX6) (N := 4) hx hb hts i_X6_storeElement_X6 hown hK hP 0 rfl rfl 3 (by decide) k_2 (fun _ h9 => h9) rfl dX6_storeElement_17 ?_
    refine lv_iconst (v := 1) hx hb dX6_storeElement_20 (by decide) ?_
    obtain ⟨r_13, h_13, hf⟩ := x_bi hf
    have hPc := hP.sub (ws' := [(o5, .inr (5, [.ref o7, .ref a5_1, .int v5_2, .int (r_12.1), .int v5_4, .int v5_5, .int (r_12.2.1), .int v5_7, .int (r_12.2.2), .int v5_9])), (a5_1, .inl (cyI, 400, .inl g5_1))]) [4, 5] rfl
    have hDc := hD.sub (ws' := [(o5, .inr (5, [.ref o7, .ref a5_1, .int v5_2, .int (r_12.1), .int v5_4, .int v5_5, .int (r_12.2.1), .int v5_7, .int (r_12.2.2), .int v5_9])), (a5_1, .inl (cyI, 400, .inl g5_1))]) [4, 5] (by decide) rfl
    have hFc := va_free (wc := [(o5, .inr (5, [.ref o7, .ref a5_1, .int v5_2, .int (r_12.1), .int v5_4, .int v5_5, .int (r_12.2.1), .int v5_7, .int (r_12.2.2), .int v5_9])), (a5_1, .inl (cyI, 400, .inl g5_1))]) hD hS hA [4, 5] rfl
    refine va_callv (va_runV (As := [.int 1]) (rest := []) ⟨hx, hb, hml, hown, hts⟩ (c_X5_pullKind l dC dI cyI cyZ cyJ H.size o5 o7 a5_1 v5_2 r_12.1 v5_4 v5_5 r_12.2.1 v5_7 r_12.2.2 v5_9 g5_1 1 r_13 h_13) (cwV 1 hts gX6_storeElement_X5_pullKind rfl rfl rfl (by decide +kernel) ⟨Nat.le_of_ble_eq_true rfl, Nat.le_of_ble_eq_true rfl⟩) (x_pVD hN hK hPc hDc (ci := 5) (q0 := 0) rfl rfl) rfl rfl hl.1 rfl (lv_room (Nat.le_of_ble_eq_true rfl)) dX6_storeElement_21 ⟨Nat.le_of_ble_eq_true rfl, Nat.le_of_ble_eq_true rfl⟩) hS (fun q _ h => hFc q h) hFc (fun u t H1 locs ht hvm hw hB hz1 hk1 hS => ?_)
    obtain ⟨hP1, hK1, hD1⟩ := hB
    rw [ht] at hP1
    obtain ⟨hP, hD⟩ := va_join (wr := [(o6, .inr (6, [.ref o7, .ref o4, .ref o0, .ref o5])), (o7, .inr (7, [.ref a7_0, .ref a7_1, .int v7_2])), (a7_0, .inl (cyI, 200, .inl g7_0)), (a7_1, .inl (cyZ, 200, .inl g7_1))]) (w1 := [(o5, .inr (5, [.ref o7, .ref a5_1, .int v5_2, .int (r_13.1), .int v5_4, .int v5_5, .int (r_13.2), .int v5_7, .int (r_12.2.2), .int v5_9])), (a5_1, .inl (cyI, 400, .inl g5_1))]) hP hD [4, 5] [0, 1, 2, 3] rfl rfl (by decide) (by decide) hk1 hFc hP1 hD1
    clear hz1 hk1 hPc hDc hFc hP1 hK1 hD1 ht hvm t u
    generalize H1 = H at hP hS ⊢
    have hP : va_P (dC, dI) vwCl [(o6, .inr (6, [.ref o7, .ref o4, .ref o0, .ref o5])), (o7, .inr (7, [.ref a7_0, .ref a7_1, .int v7_2])), (a7_0, .inl (cyI, 200, .inl g7_0)), (a7_1, .inl (cyZ, 200, .inl g7_1)), (o5, .inr (5, [.ref o7, .ref a5_1, .int v5_2, .int (r_13.1), .int v5_4, .int v5_5, .int (r_13.2), .int v5_7, .int (r_12.2.2), .int v5_9])), (a5_1, .inl (cyI, 400, .inl g5_1))] H := hP
    have hD : va_D A [(o6, .inr (6, [.ref o7, .ref o4, .ref o0, .ref o5])), (o7, .inr (7, [.ref a7_0, .ref a7_1, .int v7_2])), (a7_0, .inl (cyI, 200, .inl g7_0)), (a7_1, .inl (cyZ, 200, .inl g7_1)), (o5, .inr (5, [.ref o7, .ref a5_1, .int v5_2, .int (r_13.1), .int v5_4, .int v5_5, .int (r_13.2), .int v5_7, .int (r_12.2.2), .int v5_9])), (a5_1, .inl (cyI, 400, .inl g5_1))] := hD
    refine lv_aload_n hx hb dX6_storeElement_24 rfl (lv_at hl 0 rfl) ?_
    refine va_get (D := (dC, dI)) (ci := 6) (v := .ref o5) (C := RX6) (T := TX6) (N := 4) hx hb hts i_X6_storeElement_X6 hown hK hP 0 rfl rfl 3 (by decide) k_2 (fun _ h9 => h9) rfl dX6_storeElement_25 ?_
    refine lv_ldc (v := 65536) hx hb hown k_3 dX6_storeElement_28 ?_
    obtain ⟨r_14, h_14, hf⟩ := x_bi hf
    have hPc := hP.sub (ws' := [(o7, .inr (7, [.ref a7_0, .ref a7_1, .int v7_2])), (a7_0, .inl (cyI, 200, .inl g7_0)), (a7_1, .inl (cyZ, 200, .inl g7_1)), (o5, .inr (5, [.ref o7, .ref a5_1, .int v5_2, .int (r_13.1), .int v5_4, .int v5_5, .int (r_13.2), .int v5_7, .int (r_12.2.2), .int v5_9])), (a5_1, .inl (cyI, 400, .inl g5_1))]) [1, 2, 3, 4, 5] rfl
    have hDc := hD.sub (ws' := [(o7, .inr (7, [.ref a7_0, .ref a7_1, .int v7_2])), (a7_0, .inl (cyI, 200, .inl g7_0)), (a7_1, .inl (cyZ, 200, .inl g7_1)), (o5, .inr (5, [.ref o7, .ref a5_1, .int v5_2, .int (r_13.1), .int v5_4, .int v5_5, .int (r_13.2), .int v5_7, .int (r_12.2.2), .int v5_9])), (a5_1, .inl (cyI, 400, .inl g5_1))]) [1, 2, 3, 4, 5] (by decide) rfl
    have hFc := va_free (wc := [(o7, .inr (7, [.ref a7_0, .ref a7_1, .int v7_2])), (a7_0, .inl (cyI, 200, .inl g7_0)), (a7_1, .inl (cyZ, 200, .inl g7_1)), (o5, .inr (5, [.ref o7, .ref a5_1, .int v5_2, .int (r_13.1), .int v5_4, .int v5_5, .int (r_13.2), .int v5_7, .int (r_12.2.2), .int v5_9])), (a5_1, .inl (cyI, 400, .inl g5_1))]) hD hS hA [1, 2, 3, 4, 5] rfl
    refine va_callv (va_runV (As := [.int 65536]) (rest := []) ⟨hx, hb, hml, hown, hts⟩ (c_X5_pullType l dC dI cyI cyZ cyJ H.size o7 a7_0 a7_1 v7_2 g7_0 g7_1 o5 a5_1 v5_2 r_13.1 v5_4 v5_5 r_13.2 v5_7 r_12.2.2 v5_9 g5_1 65536 r_14 h_14) (cwV 1 hts gX6_storeElement_X5_pullType rfl rfl rfl (by decide +kernel) ⟨Nat.le_of_ble_eq_true rfl, Nat.le_of_ble_eq_true rfl⟩) (x_pVD hN hK hPc hDc (ci := 5) (q0 := 3) rfl rfl) rfl rfl hl.1 rfl (lv_room (Nat.le_of_ble_eq_true rfl)) dX6_storeElement_30 ⟨Nat.le_of_ble_eq_true rfl, Nat.le_of_ble_eq_true rfl⟩) hS (fun q _ h => hFc q h) hFc (fun u t H1 locs ht hvm hw hB hz1 hk1 hS => ?_)
    obtain ⟨hP1, hK1, hD1⟩ := hB
    rw [ht] at hP1
    obtain ⟨hP, hD⟩ := va_join (wr := [(o6, .inr (6, [.ref o7, .ref o4, .ref o0, .ref o5]))]) (w1 := [(o7, .inr (7, [.ref a7_0, .ref a7_1, .int v7_2])), (a7_0, .inl (cyI, 200, .inl g7_0)), (a7_1, .inl (cyZ, 200, .inl g7_1)), (o5, .inr (5, [.ref o7, .ref a5_1, .int v5_2, .int (r_14.1), .int v5_4, .int v5_5, .int (r_14.2.1), .int v5_7, .int (r_14.2.2), .int v5_9])), (a5_1, .inl (cyI, 400, .inl g5_1))]) hP hD [1, 2, 3, 4, 5] [0] rfl rfl (by decide) (by decide) hk1 hFc hP1 hD1
    clear hz1 hk1 hPc hDc hFc hP1 hK1 hD1 ht hvm t u
    generalize H1 = H at hP hS ⊢
    have hP : va_P (dC, dI) vwCl [(o6, .inr (6, [.ref o7, .ref o4, .ref o0, .ref o5])), (o7, .inr (7, [.ref a7_0, .ref a7_1, .int v7_2])), (a7_0, .inl (cyI, 200, .inl g7_0)), (a7_1, .inl (cyZ, 200, .inl g7_1)), (o5, .inr (5, [.ref o7, .ref a5_1, .int v5_2, .int (r_14.1), .int v5_4, .int v5_5, .int (r_14.2.1), .int v5_7, .int (r_14.2.2), .int v5_9])), (a5_1, .inl (cyI, 400, .inl g5_1))] H := hP
    have hD : va_D A [(o6, .inr (6, [.ref o7, .ref o4, .ref o0, .ref o5])), (o7, .inr (7, [.ref a7_0, .ref a7_1, .int v7_2])), (a7_0, .inl (cyI, 200, .inl g7_0)), (a7_1, .inl (cyZ, 200, .inl g7_1)), (o5, .inr (5, [.ref o7, .ref a5_1, .int v5_2, .int (r_14.1), .int v5_4, .int v5_5, .int (r_14.2.1), .int v5_7, .int (r_14.2.2), .int v5_9])), (a5_1, .inl (cyI, 400, .inl g5_1))] := hD
    obtain rfl := Option.some.inj hf
    have hP9 := hP.sub (ws' := [(o7, .inr (7, [.ref a7_0, .ref a7_1, .int v7_2])), (a7_0, .inl (cyI, 200, .inl g7_0)), (a7_1, .inl (cyZ, 200, .inl g7_1)), (o5, .inr (5, [.ref o7, .ref a5_1, .int v5_2, .int (r_14.1), .int v5_4, .int v5_5, .int (r_14.2.1), .int v5_7, .int (r_14.2.2), .int v5_9])), (a5_1, .inl (cyI, 400, .inl g5_1)), (o6, .inr (6, [.ref o7, .ref o4, .ref o0, .ref o5]))]) [1, 2, 3, 4, 5, 0] rfl
    have hD9 := hD.sub (ws' := [(o7, .inr (7, [.ref a7_0, .ref a7_1, .int v7_2])), (a7_0, .inl (cyI, 200, .inl g7_0)), (a7_1, .inl (cyZ, 200, .inl g7_1)), (o5, .inr (5, [.ref o7, .ref a5_1, .int v5_2, .int (r_14.1), .int v5_4, .int v5_5, .int (r_14.2.1), .int v5_7, .int (r_14.2.2), .int v5_9])), (a5_1, .inl (cyI, 400, .inl g5_1)), (o6, .inr (6, [.ref o7, .ref o4, .ref o0, .ref o5]))]) [1, 2, 3, 4, 5, 0] (by decide) rfl
    exact W.vret hx hb hr (fun t ht hW => ⟨⟨(), rfl, trivial, by rw [ht]; exact hP9, va_K.moved hW.alike hK, hD9⟩, hS.F ht⟩) hS.2.2 dX6_storeElement_33

def f_X6_shuffle (v5_2 : Int32) (v5_3 : Int32) (v5_4 : Int32) (v5_6 : Int32) (g5_1 : Nat → Int32) (p1 : Int32) : Option (Int32 × Int32 × (Nat → Int32)) := if (88 : Int32) < p1 then if (94 : Int32) < p1 then (f_X5_exchange v5_2 v5_3 v5_6 g5_1) >>= (fun r_3 => some (r_3.1, r_3.2.1, r_3.2.2)) else if x_gd (p1 - (89 : Int32)) 6 = true then if x_gd (p1 - (89 : Int32)) 6 = true then (f_X5_copyUnder v5_2 v5_3 v5_4 v5_6 g5_1 (x_st5 (Int32.toNatClampNeg (p1 - (89 : Int32)))) (x_st6 (Int32.toNatClampNeg (p1 - (89 : Int32))))) >>= (fun r_8 => some (r_8.1, r_8.2.1, r_8.2.2)) else none else none else (f_X5_drop v5_2 v5_3 v5_6 g5_1 (p1 - (86 : Int32))) >>= (fun r_9 => some (r_9.1, r_9.2, g5_1))
theorem i_X6_shuffle_X6 : ∀ w ∈ wsX60, w ∈ wsX6_shuffle := fun _ h => List.mem_cons_of_mem _ (List.mem_append_left _ (List.mem_append_right _ h))
set_option maxHeartbeats 4000000 in
set_option maxRecDepth 100000 in
theorem c_X6_shuffle (l : Launch) (dC : Nat → ClassId) (dI : Nat → Nat → Nat) (cyI cyZ cyJ : ClassId) (sz : Nat) (base : Nat) (o5 : Nat) (o7 : Nat) (a5_1 : Nat) (v5_2 : Int32) (v5_3 : Int32) (v5_4 : Int32) (v5_5 : Int32) (v5_6 : Int32) (v5_7 : Int32) (v5_8 : Int32) (v5_9 : Int32) (g5_1 : Nat → Int32) (o6 : Nat) (o4 : Nat) (o0 : Nat) (p1 : Int32) (R : Int32 × Int32 × (Nat → Int32)) (hf : f_X6_shuffle v5_2 v5_3 v5_4 v5_6 g5_1 p1 = some R) : Met l yX6_shuffle wsX6_shuffle ({ frames := 2, cells := 0, slots := 0, locals := 42 }) (va_Pc [.ref o6, .int p1] (x_PreT (dC, dI) (x_T cyI cyZ cyJ) [(o5, .inr (5, [.ref o7, .ref a5_1, .int v5_2, .int v5_3, .int v5_4, .int v5_5, .int v5_6, .int v5_7, .int v5_8, .int v5_9])), (a5_1, .inl (cyI, 400, .inl g5_1)), (o6, .inr (6, [.ref o7, .ref o4, .ref o0, .ref o5]))] base sz)) (va_Qv (fun _ : Unit => True) (fun (_ : Unit) (t : State) => va_P (dC, dI) vwCl [(o5, .inr (5, [.ref o7, .ref a5_1, .int v5_2, .int (R.1), .int v5_4, .int v5_5, .int (R.2.1), .int v5_7, .int v5_8, .int v5_9])), (a5_1, .inl (cyI, 400, .inl R.2.2)), (o6, .inr (6, [.ref o7, .ref o4, .ref o0, .ref o5]))] t.heap ∧ va_K (dC, dI) vwCl (x_T cyI cyZ cyJ) t ∧ va_D (va_A [(o5, .inr (5, [.ref o7, .ref a5_1, .int v5_2, .int v5_3, .int v5_4, .int v5_5, .int v5_6, .int v5_7, .int v5_8, .int v5_9])), (a5_1, .inl (cyI, 400, .inl g5_1)), (o6, .inr (6, [.ref o7, .ref o4, .ref o0, .ref o5]))] sz) [(o5, .inr (5, [.ref o7, .ref a5_1, .int v5_2, .int (R.1), .int v5_4, .int v5_5, .int (R.2.1), .int v5_7, .int v5_8, .int v5_9])), (a5_1, .inl (cyI, 400, .inl R.2.2)), (o6, .inr (6, [.ref o7, .ref o4, .ref o0, .ref o5]))]) (va_A [(o5, .inr (5, [.ref o7, .ref a5_1, .int v5_2, .int v5_3, .int v5_4, .int v5_5, .int v5_6, .int v5_7, .int v5_8, .int v5_9])), (a5_1, .inl (cyI, 400, .inl g5_1)), (o6, .inr (6, [.ref o7, .ref o4, .ref o0, .ref o5]))] sz)) 0 0 (va_A [(o5, .inr (5, [.ref o7, .ref a5_1, .int v5_2, .int v5_3, .int v5_4, .int v5_5, .int v5_6, .int v5_7, .int v5_8, .int v5_9])), (a5_1, .inl (cyI, 400, .inl g5_1)), (o6, .inr (6, [.ref o7, .ref o4, .ref o0, .ref o5]))] sz) := by
  refine Met.ofW (cc := cX6_shuffle) (maxL := 2) (ret := none) (by decide) rfl ?_
  intro p e s m args below meth c s₁ B hml hv
  obtain ⟨rfl, ⟨⟨hsz, hP, hK, hN⟩, hD0⟩, hDb, hbz, hT⟩ := hv
  have hx := B.exec
  have hb := B.bytes
  have hr := B.returns
  have hts := atoms_spec (ws := wsX6_shuffle) B.pre
  have hown : s.vm.findClass RX6 = some m.cls := findClass_of_methodNamed B.named
  have k_1 := hts (.fieldLink RX6 23 "FlowJudge$Steps" "places" "LFlowJudge$Places;") (by decide +kernel)
  have k_2 := hts (.fieldLink RX6 142 "FlowJudge$Steps" "COPIES" "[I") (by decide +kernel)
  have k_3 := hts (.fieldLink RX6 145 "FlowJudge$Steps" "UNDER" "[I") (by decide +kernel)
  subst hsz
  have hAb : ∀ q, va_A [(o5, .inr (5, [.ref o7, .ref a5_1, .int v5_2, .int v5_3, .int v5_4, .int v5_5, .int v5_6, .int v5_7, .int v5_8, .int v5_9])), (a5_1, .inl (cyI, 400, .inl g5_1)), (o6, .inr (6, [.ref o7, .ref o4, .ref o0, .ref o5]))] s.heap.size q → x_new base q := x_Ab hDb hbz
  have hD := hD0.self (sz := s.heap.size)
  generalize hAe : va_A [(o5, .inr (5, [.ref o7, .ref a5_1, .int v5_2, .int v5_3, .int v5_4, .int v5_5, .int v5_6, .int v5_7, .int v5_8, .int v5_9])), (a5_1, .inl (cyI, 400, .inl g5_1)), (o6, .inr (6, [.ref o7, .ref o4, .ref o0, .ref o5]))] s.heap.size = A at hD hAb ⊢
  have hA : ∀ q : Nat, s.heap.size ≤ q → A q := fun q h => by rw [← hAe]; exact Or.inr h
  have hP : va_P (dC, dI) vwCl [(o5, .inr (5, [.ref o7, .ref a5_1, .int v5_2, .int v5_3, .int v5_4, .int v5_5, .int v5_6, .int v5_7, .int v5_8, .int v5_9])), (a5_1, .inl (cyI, 400, .inl g5_1)), (o6, .inr (6, [.ref o7, .ref o4, .ref o0, .ref o5]))] s.heap := hP
  have hl := lv_entry ([.ref o6, .int p1]) (n := 2) (Nat.le_of_ble_eq_true rfl)
  rw [lg_entry_eq]
  generalize (lg_sl ([.ref o6, .int p1]) ++ List.replicate (2 - (lg_sl ([.ref o6, .int p1])).length) Slot.unset).toArray = ls at hl ⊢
  have hl : lv_has ls 2 [(0, .ref o6), (1, .int p1)] := hl
  obtain ⟨H, hH⟩ : ∃ z, z = s.heap := ⟨_, rfl⟩
  refine x_here hH ?_
  have hP : va_P (dC, dI) vwCl [(o5, .inr (5, [.ref o7, .ref a5_1, .int v5_2, .int v5_3, .int v5_4, .int v5_5, .int v5_6, .int v5_7, .int v5_8, .int v5_9])), (a5_1, .inl (cyI, 400, .inl g5_1)), (o6, .inr (6, [.ref o7, .ref o4, .ref o0, .ref o5]))] H := by rw [hH]; exact hP
  have hS : va_S A s.heap H [] := by rw [hH]; exact va_S.rf
  clear hH
  obtain ⟨locs, hlo⟩ : ∃ z : List Loc, z = [] := ⟨_, rfl⟩
  refine x_herl hlo ?_
  have hS : va_S A s.heap H locs := by rw [hlo]; exact hS
  clear hlo
  unfold f_X6_shuffle at hf
  refine lv_iload_n hx hb dX6_shuffle_0 rfl (lv_at hl 1 rfl) ?_
  refine lv_bipush (v := 88) hx hb dX6_shuffle_1 (by decide) ?_
  refine lv_icmp_gt (tgt := 20) hx hb dX6_shuffle_3 (by decide) (fun c_1 => ?_) (fun c_1 => ?_)
  · replace hf := x_ip c_1 hf
    refine lv_iload_n hx hb dX6_shuffle_20 rfl (lv_at hl 1 rfl) ?_
    refine lv_bipush (v := 94) hx hb dX6_shuffle_21 (by decide) ?_
    refine lv_icmp_gt (tgt := 52) hx hb dX6_shuffle_23 (by decide) (fun c_2 => ?_) (fun c_2 => ?_)
    · replace hf := x_ip c_2 hf
      refine lv_aload_n hx hb dX6_shuffle_52 rfl (lv_at hl 0 rfl) ?_
      refine va_get (D := (dC, dI)) (ci := 6) (v := .ref o5) (C := RX6) (T := TX6) (N := 4) hx hb hts i_X6_shuffle_X6 hown hK hP 2 rfl rfl 3 (by decide) k_1 (fun _ h9 => h9) rfl dX6_shuffle_53 ?_
      obtain ⟨r_3, h_3, hf⟩ := x_bi hf
      have hPc := hP.sub (ws' := [(o5, .inr (5, [.ref o7, .ref a5_1, .int v5_2, .int v5_3, .int v5_4, .int v5_5, .int v5_6, .int v5_7, .int v5_8, .int v5_9])), (a5_1, .inl (cyI, 400, .inl g5_1))]) [0, 1] rfl
      have hDc := hD.sub (ws' := [(o5, .inr (5, [.ref o7, .ref a5_1, .int v5_2, .int v5_3, .int v5_4, .int v5_5, .int v5_6, .int v5_7, .int v5_8, .int v5_9])), (a5_1, .inl (cyI, 400, .inl g5_1))]) [0, 1] (by decide) rfl
      have hFc := va_free (wc := [(o5, .inr (5, [.ref o7, .ref a5_1, .int v5_2, .int v5_3, .int v5_4, .int v5_5, .int v5_6, .int v5_7, .int v5_8, .int v5_9])), (a5_1, .inl (cyI, 400, .inl g5_1))]) hD hS hA [0, 1] rfl
      refine va_callv (va_runV (As := []) (rest := []) ⟨hx, hb, hml, hown, hts⟩ (c_X5_exchange l dC dI cyI cyZ cyJ H.size o5 o7 a5_1 v5_2 v5_3 v5_4 v5_5 v5_6 v5_7 v5_8 v5_9 g5_1 r_3 h_3) (cwV 0 hts gX6_shuffle_X5_exchange rfl rfl rfl (by decide +kernel) ⟨Nat.le_of_ble_eq_true rfl, Nat.le_of_ble_eq_true rfl⟩) (x_pVD hN hK hPc hDc (ci := 5) (q0 := 0) rfl rfl) rfl rfl hl.1 rfl (lv_room (Nat.le_of_ble_eq_true rfl)) dX6_shuffle_56 ⟨Nat.le_of_ble_eq_true rfl, Nat.le_of_ble_eq_true rfl⟩) hS (fun q _ h => hFc q h) hFc (fun u t H1 locs ht hvm hw hB hz1 hk1 hS => ?_)
      obtain ⟨hP1, hK1, hD1⟩ := hB
      rw [ht] at hP1
      obtain ⟨hP, hD⟩ := va_join (wr := [(o6, .inr (6, [.ref o7, .ref o4, .ref o0, .ref o5]))]) (w1 := [(o5, .inr (5, [.ref o7, .ref a5_1, .int v5_2, .int (r_3.1), .int v5_4, .int v5_5, .int (r_3.2.1), .int v5_7, .int v5_8, .int v5_9])), (a5_1, .inl (cyI, 400, .inl r_3.2.2))]) hP hD [0, 1] [2] rfl rfl (by decide) (by decide) hk1 hFc hP1 hD1
      clear hz1 hk1 hPc hDc hFc hP1 hK1 hD1 ht hvm t u
      generalize H1 = H at hP hS ⊢
      have hP : va_P (dC, dI) vwCl [(o6, .inr (6, [.ref o7, .ref o4, .ref o0, .ref o5])), (o5, .inr (5, [.ref o7, .ref a5_1, .int v5_2, .int (r_3.1), .int v5_4, .int v5_5, .int (r_3.2.1), .int v5_7, .int v5_8, .int v5_9])), (a5_1, .inl (cyI, 400, .inl r_3.2.2))] H := hP
      have hD : va_D A [(o6, .inr (6, [.ref o7, .ref o4, .ref o0, .ref o5])), (o5, .inr (5, [.ref o7, .ref a5_1, .int v5_2, .int (r_3.1), .int v5_4, .int v5_5, .int (r_3.2.1), .int v5_7, .int v5_8, .int v5_9])), (a5_1, .inl (cyI, 400, .inl r_3.2.2))] := hD
      obtain rfl := Option.some.inj hf
      have hP9 := hP.sub (ws' := [(o5, .inr (5, [.ref o7, .ref a5_1, .int v5_2, .int (r_3.1), .int v5_4, .int v5_5, .int (r_3.2.1), .int v5_7, .int v5_8, .int v5_9])), (a5_1, .inl (cyI, 400, .inl r_3.2.2)), (o6, .inr (6, [.ref o7, .ref o4, .ref o0, .ref o5]))]) [1, 2, 0] rfl
      have hD9 := hD.sub (ws' := [(o5, .inr (5, [.ref o7, .ref a5_1, .int v5_2, .int (r_3.1), .int v5_4, .int v5_5, .int (r_3.2.1), .int v5_7, .int v5_8, .int v5_9])), (a5_1, .inl (cyI, 400, .inl r_3.2.2)), (o6, .inr (6, [.ref o7, .ref o4, .ref o0, .ref o5]))]) [1, 2, 0] (by decide) rfl
      exact W.vret hx hb hr (fun t ht hW => ⟨⟨(), rfl, trivial, by rw [ht]; exact hP9, va_K.moved hW.alike hK, hD9⟩, hS.F ht⟩) hS.2.2 dX6_shuffle_59
    · replace hf := x_in c_2 hf
      refine lv_aload_n hx hb dX6_shuffle_26 rfl (lv_at hl 0 rfl) ?_
      refine va_get (D := (dC, dI)) (ci := 6) (v := .ref o5) (C := RX6) (T := TX6) (N := 4) hx hb hts i_X6_shuffle_X6 hown hK hP 2 rfl rfl 3 (by decide) k_1 (fun _ h9 => h9) rfl dX6_shuffle_27 ?_
      obtain ⟨b_4, hZ_4, hX_4, hb_4⟩ := hT _ (List.mem_of_getElem? (i := 5) rfl)
      refine va_gets hx hb (hZ_4.narrow hAb) hS hown k_2 (fun _ h9 => h9) dX6_shuffle_30 ?_
      refine lv_iload_n hx hb dX6_shuffle_33 rfl (lv_at hl 1 rfl) ?_
      refine lv_bipush (v := 89) hx hb dX6_shuffle_34 (by decide) ?_
      refine lv_isub hx hb dX6_shuffle_36 ?_
      obtain ⟨g_5, hf⟩ := x_gu hf
      refine va_sld hx hb hX_4 (Nat.lt_of_lt_of_le hb_4 hbz) (fun h9 => absurd (hAb _ h9) (Nat.not_le.mpr hb_4)) hS (x_gdin g_5) dX6_shuffle_37 ?_
      obtain ⟨b_6, hZ_6, hX_6, hb_6⟩ := hT _ (List.mem_of_getElem? (i := 6) rfl)
      refine va_gets hx hb (hZ_6.narrow hAb) hS hown k_3 (fun _ h9 => h9) dX6_shuffle_38 ?_
      refine lv_iload_n hx hb dX6_shuffle_41 rfl (lv_at hl 1 rfl) ?_
      refine lv_bipush (v := 89) hx hb dX6_shuffle_42 (by decide) ?_
      refine lv_isub hx hb dX6_shuffle_44 ?_
      obtain ⟨g_7, hf⟩ := x_gu hf
      refine va_sld hx hb hX_6 (Nat.lt_of_lt_of_le hb_6 hbz) (fun h9 => absurd (hAb _ h9) (Nat.not_le.mpr hb_6)) hS (x_gdin g_7) dX6_shuffle_45 ?_
      obtain ⟨r_8, h_8, hf⟩ := x_bi hf
      have hPc := hP.sub (ws' := [(o5, .inr (5, [.ref o7, .ref a5_1, .int v5_2, .int v5_3, .int v5_4, .int v5_5, .int v5_6, .int v5_7, .int v5_8, .int v5_9])), (a5_1, .inl (cyI, 400, .inl g5_1))]) [0, 1] rfl
      have hDc := hD.sub (ws' := [(o5, .inr (5, [.ref o7, .ref a5_1, .int v5_2, .int v5_3, .int v5_4, .int v5_5, .int v5_6, .int v5_7, .int v5_8, .int v5_9])), (a5_1, .inl (cyI, 400, .inl g5_1))]) [0, 1] (by decide) rfl
      have hFc := va_free (wc := [(o5, .inr (5, [.ref o7, .ref a5_1, .int v5_2, .int v5_3, .int v5_4, .int v5_5, .int v5_6, .int v5_7, .int v5_8, .int v5_9])), (a5_1, .inl (cyI, 400, .inl g5_1))]) hD hS hA [0, 1] rfl
      refine va_callv (va_runV (As := [.int (x_st5 (Int32.toNatClampNeg (p1 - (89 : Int32)))), .int (x_st6 (Int32.toNatClampNeg (p1 - (89 : Int32))))]) (rest := []) ⟨hx, hb, hml, hown, hts⟩ (c_X5_copyUnder l dC dI cyI cyZ cyJ H.size o5 o7 a5_1 v5_2 v5_3 v5_4 v5_5 v5_6 v5_7 v5_8 v5_9 g5_1 (x_st5 (Int32.toNatClampNeg (p1 - (89 : Int32)))) (x_st6 (Int32.toNatClampNeg (p1 - (89 : Int32)))) r_8 h_8) (cwV 2 hts gX6_shuffle_X5_copyUnder rfl rfl rfl (by decide +kernel) ⟨Nat.le_of_ble_eq_true rfl, Nat.le_of_ble_eq_true rfl⟩) (x_pVD hN hK hPc hDc (ci := 5) (q0 := 0) rfl rfl) rfl rfl hl.1 rfl (lv_room (Nat.le_of_ble_eq_true rfl)) dX6_shuffle_46 ⟨Nat.le_of_ble_eq_true rfl, Nat.le_of_ble_eq_true rfl⟩) hS (fun q _ h => hFc q h) hFc (fun u t H1 locs ht hvm hw hB hz1 hk1 hS => ?_)
      obtain ⟨hP1, hK1, hD1⟩ := hB
      rw [ht] at hP1
      obtain ⟨hP, hD⟩ := va_join (wr := [(o6, .inr (6, [.ref o7, .ref o4, .ref o0, .ref o5]))]) (w1 := [(o5, .inr (5, [.ref o7, .ref a5_1, .int v5_2, .int (r_8.1), .int v5_4, .int v5_5, .int (r_8.2.1), .int v5_7, .int v5_8, .int v5_9])), (a5_1, .inl (cyI, 400, .inl r_8.2.2))]) hP hD [0, 1] [2] rfl rfl (by decide) (by decide) hk1 hFc hP1 hD1
      clear hz1 hk1 hPc hDc hFc hP1 hK1 hD1 ht hvm t u
      generalize H1 = H at hP hS ⊢
      have hP : va_P (dC, dI) vwCl [(o6, .inr (6, [.ref o7, .ref o4, .ref o0, .ref o5])), (o5, .inr (5, [.ref o7, .ref a5_1, .int v5_2, .int (r_8.1), .int v5_4, .int v5_5, .int (r_8.2.1), .int v5_7, .int v5_8, .int v5_9])), (a5_1, .inl (cyI, 400, .inl r_8.2.2))] H := hP
      have hD : va_D A [(o6, .inr (6, [.ref o7, .ref o4, .ref o0, .ref o5])), (o5, .inr (5, [.ref o7, .ref a5_1, .int v5_2, .int (r_8.1), .int v5_4, .int v5_5, .int (r_8.2.1), .int v5_7, .int v5_8, .int v5_9])), (a5_1, .inl (cyI, 400, .inl r_8.2.2))] := hD
      refine lv_goto (tgt := 59) hx hb dX6_shuffle_49 (by decide) ?_
      obtain rfl := Option.some.inj hf
      have hP9 := hP.sub (ws' := [(o5, .inr (5, [.ref o7, .ref a5_1, .int v5_2, .int (r_8.1), .int v5_4, .int v5_5, .int (r_8.2.1), .int v5_7, .int v5_8, .int v5_9])), (a5_1, .inl (cyI, 400, .inl r_8.2.2)), (o6, .inr (6, [.ref o7, .ref o4, .ref o0, .ref o5]))]) [1, 2, 0] rfl
      have hD9 := hD.sub (ws' := [(o5, .inr (5, [.ref o7, .ref a5_1, .int v5_2, .int (r_8.1), .int v5_4, .int v5_5, .int (r_8.2.1), .int v5_7, .int v5_8, .int v5_9])), (a5_1, .inl (cyI, 400, .inl r_8.2.2)), (o6, .inr (6, [.ref o7, .ref o4, .ref o0, .ref o5]))]) [1, 2, 0] (by decide) rfl
      exact W.vret hx hb hr (fun t ht hW => ⟨⟨(), rfl, trivial, by rw [ht]; exact hP9, va_K.moved hW.alike hK, hD9⟩, hS.F ht⟩) hS.2.2 dX6_shuffle_59
  · replace hf := x_in c_1 hf
    refine lv_aload_n hx hb dX6_shuffle_6 rfl (lv_at hl 0 rfl) ?_
    refine va_get (D := (dC, dI)) (ci := 6) (v := .ref o5) (C := RX6) (T := TX6) (N := 4) hx hb hts i_X6_shuffle_X6 hown hK hP 2 rfl rfl 3 (by decide) k_1 (fun _ h9 => h9) rfl dX6_shuffle_7 ?_
    refine lv_iload_n hx hb dX6_shuffle_10 rfl (lv_at hl 1 rfl) ?_
    refine lv_bipush (v := 86) hx hb dX6_shuffle_11 (by decide) ?_
    refine lv_isub hx hb dX6_shuffle_13 ?_
    obtain ⟨r_9, h_9, hf⟩ := x_bi hf
    have hPc := hP.sub (ws' := [(o5, .inr (5, [.ref o7, .ref a5_1, .int v5_2, .int v5_3, .int v5_4, .int v5_5, .int v5_6, .int v5_7, .int v5_8, .int v5_9])), (a5_1, .inl (cyI, 400, .inl g5_1))]) [0, 1] rfl
    have hDc := hD.sub (ws' := [(o5, .inr (5, [.ref o7, .ref a5_1, .int v5_2, .int v5_3, .int v5_4, .int v5_5, .int v5_6, .int v5_7, .int v5_8, .int v5_9])), (a5_1, .inl (cyI, 400, .inl g5_1))]) [0, 1] (by decide) rfl
    have hFc := va_free (wc := [(o5, .inr (5, [.ref o7, .ref a5_1, .int v5_2, .int v5_3, .int v5_4, .int v5_5, .int v5_6, .int v5_7, .int v5_8, .int v5_9])), (a5_1, .inl (cyI, 400, .inl g5_1))]) hD hS hA [0, 1] rfl
    refine va_callv (va_runV (As := [.int (p1 - (86 : Int32))]) (rest := []) ⟨hx, hb, hml, hown, hts⟩ (c_X5_drop l dC dI cyI cyZ cyJ H.size o5 o7 a5_1 v5_2 v5_3 v5_4 v5_5 v5_6 v5_7 v5_8 v5_9 g5_1 (p1 - (86 : Int32)) r_9 h_9) (cwV 1 hts gX6_shuffle_X5_drop rfl rfl rfl (by decide +kernel) ⟨Nat.le_of_ble_eq_true rfl, Nat.le_of_ble_eq_true rfl⟩) (x_pVD hN hK hPc hDc (ci := 5) (q0 := 0) rfl rfl) rfl rfl hl.1 rfl (lv_room (Nat.le_of_ble_eq_true rfl)) dX6_shuffle_14 ⟨Nat.le_of_ble_eq_true rfl, Nat.le_of_ble_eq_true rfl⟩) hS (fun q _ h => hFc q h) hFc (fun u t H1 locs ht hvm hw hB hz1 hk1 hS => ?_)
    obtain ⟨hP1, hK1, hD1⟩ := hB
    rw [ht] at hP1
    obtain ⟨hP, hD⟩ := va_join (wr := [(o6, .inr (6, [.ref o7, .ref o4, .ref o0, .ref o5]))]) (w1 := [(o5, .inr (5, [.ref o7, .ref a5_1, .int v5_2, .int (r_9.1), .int v5_4, .int v5_5, .int (r_9.2), .int v5_7, .int v5_8, .int v5_9])), (a5_1, .inl (cyI, 400, .inl g5_1))]) hP hD [0, 1] [2] rfl rfl (by decide) (by decide) hk1 hFc hP1 hD1
    clear hz1 hk1 hPc hDc hFc hP1 hK1 hD1 ht hvm t u
    generalize H1 = H at hP hS ⊢
    have hP : va_P (dC, dI) vwCl [(o6, .inr (6, [.ref o7, .ref o4, .ref o0, .ref o5])), (o5, .inr (5, [.ref o7, .ref a5_1, .int v5_2, .int (r_9.1), .int v5_4, .int v5_5, .int (r_9.2), .int v5_7, .int v5_8, .int v5_9])), (a5_1, .inl (cyI, 400, .inl g5_1))] H := hP
    have hD : va_D A [(o6, .inr (6, [.ref o7, .ref o4, .ref o0, .ref o5])), (o5, .inr (5, [.ref o7, .ref a5_1, .int v5_2, .int (r_9.1), .int v5_4, .int v5_5, .int (r_9.2), .int v5_7, .int v5_8, .int v5_9])), (a5_1, .inl (cyI, 400, .inl g5_1))] := hD
    refine lv_goto (tgt := 59) hx hb dX6_shuffle_17 (by decide) ?_
    obtain rfl := Option.some.inj hf
    have hP9 := hP.sub (ws' := [(o5, .inr (5, [.ref o7, .ref a5_1, .int v5_2, .int (r_9.1), .int v5_4, .int v5_5, .int (r_9.2), .int v5_7, .int v5_8, .int v5_9])), (a5_1, .inl (cyI, 400, .inl g5_1)), (o6, .inr (6, [.ref o7, .ref o4, .ref o0, .ref o5]))]) [1, 2, 0] rfl
    have hD9 := hD.sub (ws' := [(o5, .inr (5, [.ref o7, .ref a5_1, .int v5_2, .int (r_9.1), .int v5_4, .int v5_5, .int (r_9.2), .int v5_7, .int v5_8, .int v5_9])), (a5_1, .inl (cyI, 400, .inl g5_1)), (o6, .inr (6, [.ref o7, .ref o4, .ref o0, .ref o5]))]) [1, 2, 0] (by decide) rfl
    exact W.vret hx hb hr (fun t ht hW => ⟨⟨(), rfl, trivial, by rw [ht]; exact hP9, va_K.moved hW.alike hK, hD9⟩, hS.F ht⟩) hS.2.2 dX6_shuffle_59

def f_X6_reckon_L (v5_2 : Int32) (v5_4 : Int32) (l1 : Int32) (g5_1 : Nat → Int32) (z : Nat × Int32 × Int32 × Int32 × Int32) : Option (Int32 × Int32 × (Nat → Int32)) := match z with
  | (q, l2, l3, v5_3, v5_6) => if q = 0 then if (2 : Int32) ≤ l3 then (f_X5_push v5_3 v5_4 v5_6 g5_1 (l1 - l1 / (10 : Int32) * (10 : Int32))) >>= (fun r_2 => some (r_2.1, r_2.2.1, r_2.2.2)) else if l2 ≤ (0 : Int32) then (f_X5_push v5_3 v5_4 v5_6 g5_1 (l1 - l1 / (10 : Int32) * (10 : Int32))) >>= (fun r_4 => some (r_4.1, r_4.2.1, r_4.2.2)) else (f_X5_pullKind v5_2 v5_3 v5_6 g5_1 (l2 - l2 / (10 : Int32) * (10 : Int32))) >>= (fun r_5 => (f_X6_reckon_L v5_2 v5_4 l1 g5_1 (0, l2 / (10 : Int32), l3 + 1, r_5.1, r_5.2))) else none
partial_fixpoint
def f_X6_reckon (v5_2 : Int32) (v5_3 : Int32) (v5_4 : Int32) (v5_6 : Int32) (g5_1 : Nat → Int32) (p1 : Int32) : Option (Int32 × Int32 × (Nat → Int32)) := (f_X6_reckon_L v5_2 v5_4 p1 g5_1 (0, p1 / (10 : Int32), 0, v5_3, v5_6))
theorem i_X6_reckon_X6 : ∀ w ∈ wsX60, w ∈ wsX6_reckon := fun _ h => List.mem_cons_of_mem _ (List.mem_append_left _ (List.mem_append_right _ h))
set_option maxHeartbeats 4000000 in
set_option maxRecDepth 100000 in
theorem c_X6_reckon (l : Launch) (dC : Nat → ClassId) (dI : Nat → Nat → Nat) (cyI cyZ cyJ : ClassId) (sz : Nat) (o5 : Nat) (o7 : Nat) (a5_1 : Nat) (v5_2 : Int32) (v5_3 : Int32) (v5_4 : Int32) (v5_5 : Int32) (v5_6 : Int32) (v5_7 : Int32) (v5_8 : Int32) (v5_9 : Int32) (g5_1 : Nat → Int32) (o6 : Nat) (o4 : Nat) (o0 : Nat) (p1 : Int32) (R : Int32 × Int32 × (Nat → Int32)) (hf : f_X6_reckon v5_2 v5_3 v5_4 v5_6 g5_1 p1 = some R) : Met l yX6_reckon wsX6_reckon ({ frames := 2, cells := 0, slots := 0, locals := 42 }) (va_Pc [.ref o6, .int p1] (x_PreD (dC, dI) (x_T cyI cyZ cyJ) [(o5, .inr (5, [.ref o7, .ref a5_1, .int v5_2, .int v5_3, .int v5_4, .int v5_5, .int v5_6, .int v5_7, .int v5_8, .int v5_9])), (a5_1, .inl (cyI, 400, .inl g5_1)), (o6, .inr (6, [.ref o7, .ref o4, .ref o0, .ref o5]))] sz)) (va_Qv (fun _ : Unit => True) (fun (_ : Unit) (t : State) => va_P (dC, dI) vwCl [(o5, .inr (5, [.ref o7, .ref a5_1, .int v5_2, .int (R.1), .int v5_4, .int v5_5, .int (R.2.1), .int v5_7, .int v5_8, .int v5_9])), (a5_1, .inl (cyI, 400, .inl R.2.2)), (o6, .inr (6, [.ref o7, .ref o4, .ref o0, .ref o5]))] t.heap ∧ va_K (dC, dI) vwCl (x_T cyI cyZ cyJ) t ∧ va_D (va_A [(o5, .inr (5, [.ref o7, .ref a5_1, .int v5_2, .int v5_3, .int v5_4, .int v5_5, .int v5_6, .int v5_7, .int v5_8, .int v5_9])), (a5_1, .inl (cyI, 400, .inl g5_1)), (o6, .inr (6, [.ref o7, .ref o4, .ref o0, .ref o5]))] sz) [(o5, .inr (5, [.ref o7, .ref a5_1, .int v5_2, .int (R.1), .int v5_4, .int v5_5, .int (R.2.1), .int v5_7, .int v5_8, .int v5_9])), (a5_1, .inl (cyI, 400, .inl R.2.2)), (o6, .inr (6, [.ref o7, .ref o4, .ref o0, .ref o5]))]) (va_A [(o5, .inr (5, [.ref o7, .ref a5_1, .int v5_2, .int v5_3, .int v5_4, .int v5_5, .int v5_6, .int v5_7, .int v5_8, .int v5_9])), (a5_1, .inl (cyI, 400, .inl g5_1)), (o6, .inr (6, [.ref o7, .ref o4, .ref o0, .ref o5]))] sz)) 0 0 (va_A [(o5, .inr (5, [.ref o7, .ref a5_1, .int v5_2, .int v5_3, .int v5_4, .int v5_5, .int v5_6, .int v5_7, .int v5_8, .int v5_9])), (a5_1, .inl (cyI, 400, .inl g5_1)), (o6, .inr (6, [.ref o7, .ref o4, .ref o0, .ref o5]))] sz) := by
  refine Met.ofW (cc := cX6_reckon) (maxL := 4) (ret := none) (by decide) rfl ?_
  intro p e s m args below meth c s₁ B hml hv
  obtain ⟨rfl, ⟨hsz, hP, hK, hN⟩, hD0⟩ := hv
  have hx := B.exec
  have hb := B.bytes
  have hr := B.returns
  have hts := atoms_spec (ws := wsX6_reckon) B.pre
  have hown : s.vm.findClass RX6 = some m.cls := findClass_of_methodNamed B.named
  have k_1 := hts (.fieldLink RX6 23 "FlowJudge$Steps" "places" "LFlowJudge$Places;") (by decide +kernel)
  subst hsz
  have hD := hD0.self (sz := s.heap.size)
  generalize hAe : va_A [(o5, .inr (5, [.ref o7, .ref a5_1, .int v5_2, .int v5_3, .int v5_4, .int v5_5, .int v5_6, .int v5_7, .int v5_8, .int v5_9])), (a5_1, .inl (cyI, 400, .inl g5_1)), (o6, .inr (6, [.ref o7, .ref o4, .ref o0, .ref o5]))] s.heap.size = A at hD ⊢
  have hA : ∀ q : Nat, s.heap.size ≤ q → A q := fun q h => by rw [← hAe]; exact Or.inr h
  have hP : va_P (dC, dI) vwCl [(o5, .inr (5, [.ref o7, .ref a5_1, .int v5_2, .int v5_3, .int v5_4, .int v5_5, .int v5_6, .int v5_7, .int v5_8, .int v5_9])), (a5_1, .inl (cyI, 400, .inl g5_1)), (o6, .inr (6, [.ref o7, .ref o4, .ref o0, .ref o5]))] s.heap := hP
  have hl := lv_entry ([.ref o6, .int p1]) (n := 4) (Nat.le_of_ble_eq_true rfl)
  rw [lg_entry_eq]
  generalize (lg_sl ([.ref o6, .int p1]) ++ List.replicate (4 - (lg_sl ([.ref o6, .int p1])).length) Slot.unset).toArray = ls at hl ⊢
  have hl : lv_has ls 4 [(0, .ref o6), (1, .int p1)] := hl
  obtain ⟨H, hH⟩ : ∃ z, z = s.heap := ⟨_, rfl⟩
  refine x_here hH ?_
  have hP : va_P (dC, dI) vwCl [(o5, .inr (5, [.ref o7, .ref a5_1, .int v5_2, .int v5_3, .int v5_4, .int v5_5, .int v5_6, .int v5_7, .int v5_8, .int v5_9])), (a5_1, .inl (cyI, 400, .inl g5_1)), (o6, .inr (6, [.ref o7, .ref o4, .ref o0, .ref o5]))] H := by rw [hH]; exact hP
  have hS : va_S A s.heap H [] := by rw [hH]; exact va_S.rf
  clear hH
  obtain ⟨locs, hlo⟩ : ∃ z : List Loc, z = [] := ⟨_, rfl⟩
  refine x_herl hlo ?_
  have hS : va_S A s.heap H locs := by rw [hlo]; exact hS
  clear hlo
  unfold f_X6_reckon at hf
  refine x_wn (fun WW hWW => ?_)
  have J := fun (l1 : Int32) (g5_1 : Nat → Int32) => f_X6_reckon_L.partial_correctness v5_2 v5_4 l1 g5_1 (fun (z : Nat × Int32 × Int32 × Int32 × Int32) (r : Int32 × Int32 × (Nat → Int32)) => r = R → ∀ (q : Nat) (l2 : Int32) (l3 : Int32) (v5_3 : Int32) (v5_6 : Int32), z = (q, l2, l3, v5_3, v5_6) → ((q = 0 → ∀ (H : Heap) (locs : List Loc) (ls : Array Slot), va_P (dC, dI) vwCl [(o5, .inr (5, [.ref o7, .ref a5_1, .int v5_2, .int v5_3, .int v5_4, .int v5_5, .int v5_6, .int v5_7, .int v5_8, .int v5_9])), (a5_1, .inl (cyI, 400, .inl g5_1)), (o6, .inr (6, [.ref o7, .ref o4, .ref o0, .ref o5]))] H → va_D A [(o5, .inr (5, [.ref o7, .ref a5_1, .int v5_2, .int v5_3, .int v5_4, .int v5_5, .int v5_6, .int v5_7, .int v5_8, .int v5_9])), (a5_1, .inl (cyI, 400, .inl g5_1)), (o6, .inr (6, [.ref o7, .ref o4, .ref o0, .ref o5]))] → va_S A s.heap H locs → lv_has ls 4 [(0, .ref o6), (1, .int l1), (2, .int l2), (3, .int l3)] → WW H locs 0 0 (F0 m 7 ls [])))) (by
    intro F ih z r hf hr q l2 l3 v5_3 v5_6 hz
    subst hz
    obtain rfl := hr
    · intro hq H locs ls hP hD hS hl
      subst hq
      refine (hWW _ _ _ _ _).mp ?_
      replace hf := x_ip rfl hf
      refine lv_iload_n hx hb dX6_reckon_7 rfl (lv_at hl 3 rfl) ?_
      refine lv_iconst (v := 2) hx hb dX6_reckon_8 (by decide) ?_
      refine lv_icmp_ge (tgt := 38) hx hb dX6_reckon_9 (by decide) (fun c_1 => ?_) (fun c_1 => ?_)
      · replace hf := x_ip c_1 hf
        refine lv_aload_n hx hb dX6_reckon_38 rfl (lv_at hl 0 rfl) ?_
        refine va_get (D := (dC, dI)) (ci := 6) (v := .ref o5) (C := RX6) (T := TX6) (N := 4) hx hb hts i_X6_reckon_X6 hown hK hP 2 rfl rfl 3 (by decide) k_1 (fun _ h9 => h9) rfl dX6_reckon_39 ?_
        refine lv_iload_n hx hb dX6_reckon_42 rfl (lv_at hl 1 rfl) ?_
        refine lv_bipush (v := 10) hx hb dX6_reckon_43 (by decide) ?_
        refine lv_irem hx hb dX6_reckon_45 (by decide) ?_
        obtain ⟨r_2, h_2, hf⟩ := x_bi hf
        have hPc := hP.sub (ws' := [(o5, .inr (5, [.ref o7, .ref a5_1, .int v5_2, .int v5_3, .int v5_4, .int v5_5, .int v5_6, .int v5_7, .int v5_8, .int v5_9])), (a5_1, .inl (cyI, 400, .inl g5_1))]) [0, 1] rfl
        have hDc := hD.sub (ws' := [(o5, .inr (5, [.ref o7, .ref a5_1, .int v5_2, .int v5_3, .int v5_4, .int v5_5, .int v5_6, .int v5_7, .int v5_8, .int v5_9])), (a5_1, .inl (cyI, 400, .inl g5_1))]) [0, 1] (by decide) rfl
        have hFc := va_free (wc := [(o5, .inr (5, [.ref o7, .ref a5_1, .int v5_2, .int v5_3, .int v5_4, .int v5_5, .int v5_6, .int v5_7, .int v5_8, .int v5_9])), (a5_1, .inl (cyI, 400, .inl g5_1))]) hD hS hA [0, 1] rfl
        refine va_callv (va_runV (As := [.int (l1 - l1 / (10 : Int32) * (10 : Int32))]) (rest := []) ⟨hx, hb, hml, hown, hts⟩ (c_X5_push l dC dI cyI cyZ cyJ H.size o5 o7 a5_1 v5_2 v5_3 v5_4 v5_5 v5_6 v5_7 v5_8 v5_9 g5_1 (l1 - l1 / (10 : Int32) * (10 : Int32)) r_2 h_2) (cwV 1 hts gX6_reckon_X5_push rfl rfl rfl (by decide +kernel) ⟨Nat.le_of_ble_eq_true rfl, Nat.le_of_ble_eq_true rfl⟩) (x_pVD hN hK hPc hDc (ci := 5) (q0 := 0) rfl rfl) rfl rfl hl.1 rfl (lv_room (Nat.le_of_ble_eq_true rfl)) dX6_reckon_46 ⟨Nat.le_of_ble_eq_true rfl, Nat.le_of_ble_eq_true rfl⟩) hS (fun q _ h => hFc q h) hFc (fun u t H1 locs ht hvm hw hB hz1 hk1 hS => ?_)
        obtain ⟨hP1, hK1, hD1⟩ := hB
        rw [ht] at hP1
        obtain ⟨hP, hD⟩ := va_join (wr := [(o6, .inr (6, [.ref o7, .ref o4, .ref o0, .ref o5]))]) (w1 := [(o5, .inr (5, [.ref o7, .ref a5_1, .int v5_2, .int (r_2.1), .int v5_4, .int v5_5, .int (r_2.2.1), .int v5_7, .int v5_8, .int v5_9])), (a5_1, .inl (cyI, 400, .inl r_2.2.2))]) hP hD [0, 1] [2] rfl rfl (by decide) (by decide) hk1 hFc hP1 hD1
        clear hz1 hk1 hPc hDc hFc hP1 hK1 hD1 ht hvm t u
        generalize H1 = H at hP hS ⊢
        have hP : va_P (dC, dI) vwCl [(o6, .inr (6, [.ref o7, .ref o4, .ref o0, .ref o5])), (o5, .inr (5, [.ref o7, .ref a5_1, .int v5_2, .int (r_2.1), .int v5_4, .int v5_5, .int (r_2.2.1), .int v5_7, .int v5_8, .int v5_9])), (a5_1, .inl (cyI, 400, .inl r_2.2.2))] H := hP
        have hD : va_D A [(o6, .inr (6, [.ref o7, .ref o4, .ref o0, .ref o5])), (o5, .inr (5, [.ref o7, .ref a5_1, .int v5_2, .int (r_2.1), .int v5_4, .int v5_5, .int (r_2.2.1), .int v5_7, .int v5_8, .int v5_9])), (a5_1, .inl (cyI, 400, .inl r_2.2.2))] := hD
        obtain rfl := Option.some.inj hf
        have hP9 := hP.sub (ws' := [(o5, .inr (5, [.ref o7, .ref a5_1, .int v5_2, .int (r_2.1), .int v5_4, .int v5_5, .int (r_2.2.1), .int v5_7, .int v5_8, .int v5_9])), (a5_1, .inl (cyI, 400, .inl r_2.2.2)), (o6, .inr (6, [.ref o7, .ref o4, .ref o0, .ref o5]))]) [1, 2, 0] rfl
        have hD9 := hD.sub (ws' := [(o5, .inr (5, [.ref o7, .ref a5_1, .int v5_2, .int (r_2.1), .int v5_4, .int v5_5, .int (r_2.2.1), .int v5_7, .int v5_8, .int v5_9])), (a5_1, .inl (cyI, 400, .inl r_2.2.2)), (o6, .inr (6, [.ref o7, .ref o4, .ref o0, .ref o5]))]) [1, 2, 0] (by decide) rfl
        exact W.vret hx hb hr (fun t ht hW => ⟨⟨(), rfl, trivial, by rw [ht]; exact hP9, va_K.moved hW.alike hK, hD9⟩, hS.F ht⟩) hS.2.2 dX6_reckon_49
      · replace hf := x_in c_1 hf
        refine lv_iload_n hx hb dX6_reckon_12 rfl (lv_at hl 2 rfl) ?_
        refine lv_if_le (tgt := 38) hx hb dX6_reckon_13 (by decide) (fun c_3 => ?_) (fun c_3 => ?_)
        · replace hf := x_ip c_3 hf
          refine lv_aload_n hx hb dX6_reckon_38 rfl (lv_at hl 0 rfl) ?_
          refine va_get (D := (dC, dI)) (ci := 6) (v := .ref o5) (C := RX6) (T := TX6) (N := 4) hx hb hts i_X6_reckon_X6 hown hK hP 2 rfl rfl 3 (by decide) k_1 (fun _ h9 => h9) rfl dX6_reckon_39 ?_
          refine lv_iload_n hx hb dX6_reckon_42 rfl (lv_at hl 1 rfl) ?_
          refine lv_bipush (v := 10) hx hb dX6_reckon_43 (by decide) ?_
          refine lv_irem hx hb dX6_reckon_45 (by decide) ?_
          obtain ⟨r_4, h_4, hf⟩ := x_bi hf
          have hPc := hP.sub (ws' := [(o5, .inr (5, [.ref o7, .ref a5_1, .int v5_2, .int v5_3, .int v5_4, .int v5_5, .int v5_6, .int v5_7, .int v5_8, .int v5_9])), (a5_1, .inl (cyI, 400, .inl g5_1))]) [0, 1] rfl
          have hDc := hD.sub (ws' := [(o5, .inr (5, [.ref o7, .ref a5_1, .int v5_2, .int v5_3, .int v5_4, .int v5_5, .int v5_6, .int v5_7, .int v5_8, .int v5_9])), (a5_1, .inl (cyI, 400, .inl g5_1))]) [0, 1] (by decide) rfl
          have hFc := va_free (wc := [(o5, .inr (5, [.ref o7, .ref a5_1, .int v5_2, .int v5_3, .int v5_4, .int v5_5, .int v5_6, .int v5_7, .int v5_8, .int v5_9])), (a5_1, .inl (cyI, 400, .inl g5_1))]) hD hS hA [0, 1] rfl
          refine va_callv (va_runV (As := [.int (l1 - l1 / (10 : Int32) * (10 : Int32))]) (rest := []) ⟨hx, hb, hml, hown, hts⟩ (c_X5_push l dC dI cyI cyZ cyJ H.size o5 o7 a5_1 v5_2 v5_3 v5_4 v5_5 v5_6 v5_7 v5_8 v5_9 g5_1 (l1 - l1 / (10 : Int32) * (10 : Int32)) r_4 h_4) (cwV 1 hts gX6_reckon_X5_push rfl rfl rfl (by decide +kernel) ⟨Nat.le_of_ble_eq_true rfl, Nat.le_of_ble_eq_true rfl⟩) (x_pVD hN hK hPc hDc (ci := 5) (q0 := 0) rfl rfl) rfl rfl hl.1 rfl (lv_room (Nat.le_of_ble_eq_true rfl)) dX6_reckon_46 ⟨Nat.le_of_ble_eq_true rfl, Nat.le_of_ble_eq_true rfl⟩) hS (fun q _ h => hFc q h) hFc (fun u t H1 locs ht hvm hw hB hz1 hk1 hS => ?_)
          obtain ⟨hP1, hK1, hD1⟩ := hB
          rw [ht] at hP1
          obtain ⟨hP, hD⟩ := va_join (wr := [(o6, .inr (6, [.ref o7, .ref o4, .ref o0, .ref o5]))]) (w1 := [(o5, .inr (5, [.ref o7, .ref a5_1, .int v5_2, .int (r_4.1), .int v5_4, .int v5_5, .int (r_4.2.1), .int v5_7, .int v5_8, .int v5_9])), (a5_1, .inl (cyI, 400, .inl r_4.2.2))]) hP hD [0, 1] [2] rfl rfl (by decide) (by decide) hk1 hFc hP1 hD1
          clear hz1 hk1 hPc hDc hFc hP1 hK1 hD1 ht hvm t u
          generalize H1 = H at hP hS ⊢
          have hP : va_P (dC, dI) vwCl [(o6, .inr (6, [.ref o7, .ref o4, .ref o0, .ref o5])), (o5, .inr (5, [.ref o7, .ref a5_1, .int v5_2, .int (r_4.1), .int v5_4, .int v5_5, .int (r_4.2.1), .int v5_7, .int v5_8, .int v5_9])), (a5_1, .inl (cyI, 400, .inl r_4.2.2))] H := hP
          have hD : va_D A [(o6, .inr (6, [.ref o7, .ref o4, .ref o0, .ref o5])), (o5, .inr (5, [.ref o7, .ref a5_1, .int v5_2, .int (r_4.1), .int v5_4, .int v5_5, .int (r_4.2.1), .int v5_7, .int v5_8, .int v5_9])), (a5_1, .inl (cyI, 400, .inl r_4.2.2))] := hD
          obtain rfl := Option.some.inj hf
          have hP9 := hP.sub (ws' := [(o5, .inr (5, [.ref o7, .ref a5_1, .int v5_2, .int (r_4.1), .int v5_4, .int v5_5, .int (r_4.2.1), .int v5_7, .int v5_8, .int v5_9])), (a5_1, .inl (cyI, 400, .inl r_4.2.2)), (o6, .inr (6, [.ref o7, .ref o4, .ref o0, .ref o5]))]) [1, 2, 0] rfl
          have hD9 := hD.sub (ws' := [(o5, .inr (5, [.ref o7, .ref a5_1, .int v5_2, .int (r_4.1), .int v5_4, .int v5_5, .int (r_4.2.1), .int v5_7, .int v5_8, .int v5_9])), (a5_1, .inl (cyI, 400, .inl r_4.2.2)), (o6, .inr (6, [.ref o7, .ref o4, .ref o0, .ref o5]))]) [1, 2, 0] (by decide) rfl
          exact W.vret hx hb hr (fun t ht hW => ⟨⟨(), rfl, trivial, by rw [ht]; exact hP9, va_K.moved hW.alike hK, hD9⟩, hS.F ht⟩) hS.2.2 dX6_reckon_49
        · replace hf := x_in c_3 hf
          refine lv_aload_n hx hb dX6_reckon_16 rfl (lv_at hl 0 rfl) ?_
          refine va_get (D := (dC, dI)) (ci := 6) (v := .ref o5) (C := RX6) (T := TX6) (N := 4) hx hb hts i_X6_reckon_X6 hown hK hP 2 rfl rfl 3 (by decide) k_1 (fun _ h9 => h9) rfl dX6_reckon_17 ?_
          refine lv_iload_n hx hb dX6_reckon_20 rfl (lv_at hl 2 rfl) ?_
          refine lv_bipush (v := 10) hx hb dX6_reckon_21 (by decide) ?_
          refine lv_irem hx hb dX6_reckon_23 (by decide) ?_
          obtain ⟨r_5, h_5, hf⟩ := x_bi hf
          have hPc := hP.sub (ws' := [(o5, .inr (5, [.ref o7, .ref a5_1, .int v5_2, .int v5_3, .int v5_4, .int v5_5, .int v5_6, .int v5_7, .int v5_8, .int v5_9])), (a5_1, .inl (cyI, 400, .inl g5_1))]) [0, 1] rfl
          have hDc := hD.sub (ws' := [(o5, .inr (5, [.ref o7, .ref a5_1, .int v5_2, .int v5_3, .int v5_4, .int v5_5, .int v5_6, .int v5_7, .int v5_8, .int v5_9])), (a5_1, .inl (cyI, 400, .inl g5_1))]) [0, 1] (by decide) rfl
          have hFc := va_free (wc := [(o5, .inr (5, [.ref o7, .ref a5_1, .int v5_2, .int v5_3, .int v5_4, .int v5_5, .int v5_6, .int v5_7, .int v5_8, .int v5_9])), (a5_1, .inl (cyI, 400, .inl g5_1))]) hD hS hA [0, 1] rfl
          refine va_callv (va_runV (As := [.int (l2 - l2 / (10 : Int32) * (10 : Int32))]) (rest := []) ⟨hx, hb, hml, hown, hts⟩ (c_X5_pullKind l dC dI cyI cyZ cyJ H.size o5 o7 a5_1 v5_2 v5_3 v5_4 v5_5 v5_6 v5_7 v5_8 v5_9 g5_1 (l2 - l2 / (10 : Int32) * (10 : Int32)) r_5 h_5) (cwV 1 hts gX6_reckon_X5_pullKind rfl rfl rfl (by decide +kernel) ⟨Nat.le_of_ble_eq_true rfl, Nat.le_of_ble_eq_true rfl⟩) (x_pVD hN hK hPc hDc (ci := 5) (q0 := 0) rfl rfl) rfl rfl hl.1 rfl (lv_room (Nat.le_of_ble_eq_true rfl)) dX6_reckon_24 ⟨Nat.le_of_ble_eq_true rfl, Nat.le_of_ble_eq_true rfl⟩) hS (fun q _ h => hFc q h) hFc (fun u t H1 locs ht hvm hw hB hz1 hk1 hS => ?_)
          obtain ⟨hP1, hK1, hD1⟩ := hB
          rw [ht] at hP1
          obtain ⟨hP, hD⟩ := va_join (wr := [(o6, .inr (6, [.ref o7, .ref o4, .ref o0, .ref o5]))]) (w1 := [(o5, .inr (5, [.ref o7, .ref a5_1, .int v5_2, .int (r_5.1), .int v5_4, .int v5_5, .int (r_5.2), .int v5_7, .int v5_8, .int v5_9])), (a5_1, .inl (cyI, 400, .inl g5_1))]) hP hD [0, 1] [2] rfl rfl (by decide) (by decide) hk1 hFc hP1 hD1
          clear hz1 hk1 hPc hDc hFc hP1 hK1 hD1 ht hvm t u
          generalize H1 = H at hP hS ⊢
          have hP : va_P (dC, dI) vwCl [(o6, .inr (6, [.ref o7, .ref o4, .ref o0, .ref o5])), (o5, .inr (5, [.ref o7, .ref a5_1, .int v5_2, .int (r_5.1), .int v5_4, .int v5_5, .int (r_5.2), .int v5_7, .int v5_8, .int v5_9])), (a5_1, .inl (cyI, 400, .inl g5_1))] H := hP
          have hD : va_D A [(o6, .inr (6, [.ref o7, .ref o4, .ref o0, .ref o5])), (o5, .inr (5, [.ref o7, .ref a5_1, .int v5_2, .int (r_5.1), .int v5_4, .int v5_5, .int (r_5.2), .int v5_7, .int v5_8, .int v5_9])), (a5_1, .inl (cyI, 400, .inl g5_1))] := hD
          refine lv_iload_n hx hb dX6_reckon_27 rfl (lv_at hl 2 rfl) ?_
          refine lv_bipush (v := 10) hx hb dX6_reckon_28 (by decide) ?_
          refine lv_idiv hx hb dX6_reckon_30 (by decide) ?_
          refine lv_istore_n (lv' := [(2, .int (l2 / (10 : Int32))), (0, .ref o6), (1, .int l1), (3, .int l3)]) hx hb dX6_reckon_31 rfl hl (by decide) rfl (fun ls hl => ?_)
          refine lv_iinc (v := (l3 + 1)) (lv' := [(3, .int (l3 + 1)), (2, .int (l2 / (10 : Int32))), (0, .ref o6), (1, .int l1)]) hx hb dX6_reckon_32 hl (k := 3) rfl rfl (by decide) rfl (fun ls hl => ?_)
          refine lv_goto (tgt := 7) hx hb dX6_reckon_35 (by decide) ?_
          exact (hWW _ _ _ _ _).mpr ((ih (0, l2 / (10 : Int32), l3 + 1, r_5.1, r_5.2) _ hf rfl _ _ _ _ _ rfl) rfl H locs ls (hP.sub (ws' := [(o5, .inr (5, [.ref o7, .ref a5_1, .int v5_2, .int (r_5.1), .int v5_4, .int v5_5, .int (r_5.2), .int v5_7, .int v5_8, .int v5_9])), (a5_1, .inl (cyI, 400, .inl g5_1)), (o6, .inr (6, [.ref o7, .ref o4, .ref o0, .ref o5]))]) [1, 2, 0] rfl) (hD.sub (ws' := [(o5, .inr (5, [.ref o7, .ref a5_1, .int v5_2, .int (r_5.1), .int v5_4, .int v5_5, .int (r_5.2), .int v5_7, .int v5_8, .int v5_9])), (a5_1, .inl (cyI, 400, .inl g5_1)), (o6, .inr (6, [.ref o7, .ref o4, .ref o0, .ref o5]))]) [1, 2, 0] (by decide) rfl) hS (lv_sub hl [2, 3, 1, 0] rfl)))
  refine lv_iload_n hx hb dX6_reckon_0 rfl (lv_at hl 1 rfl) ?_
  refine lv_bipush (v := 10) hx hb dX6_reckon_1 (by decide) ?_
  refine lv_idiv hx hb dX6_reckon_3 (by decide) ?_
  refine lv_istore_n (lv' := [(2, .int (p1 / (10 : Int32))), (0, .ref o6), (1, .int p1)]) hx hb dX6_reckon_4 rfl hl (by decide) rfl (fun ls hl => ?_)
  refine lv_iconst (v := 0) hx hb dX6_reckon_5 (by decide) ?_
  refine lv_istore_n (lv' := [(3, .int 0), (2, .int (p1 / (10 : Int32))), (0, .ref o6), (1, .int p1)]) hx hb dX6_reckon_6 rfl hl (by decide) rfl (fun ls hl => ?_)
  exact (hWW _ _ _ _ _).mpr ((J p1 g5_1 (0, p1 / (10 : Int32), 0, v5_3, v5_6) _ hf rfl _ _ _ _ _ rfl) rfl H locs ls hP hD hS (lv_sub hl [2, 3, 1, 0] rfl))

def f_X6_branch (g0_7 : Nat → Int32) (v5_2 : Int32) (v5_3 : Int32) (v5_4 : Int32) (v5_6 : Int32) (g5_1 : Nat → Int32) (p1 : Int32) : Option (Int32 × Int32 × (Nat → Int32)) := if x_gd p1 1000 = true then if (g0_7 (Int32.toNatClampNeg p1)) = (168 : Int32) then (f_X5_push v5_3 v5_4 v5_6 g5_1 (((16 : Int32) * (p1 + (1 : Int32))) + (10 : Int32))) >>= (fun r_20 => some (r_20.1, r_20.2.1, r_20.2.2)) else if (g0_7 (Int32.toNatClampNeg p1)) = (165 : Int32) then (f_X5_pullReference v5_2 v5_3 v5_6 g5_1) >>= (fun r_4 => (f_X5_pullReference v5_2 r_4.2.1 r_4.2.2 g5_1) >>= (fun r_5 => some (r_5.2.1, r_5.2.2, g5_1))) else if (g0_7 (Int32.toNatClampNeg p1)) = (166 : Int32) then (f_X5_pullReference v5_2 v5_3 v5_6 g5_1) >>= (fun r_18 => (f_X5_pullReference v5_2 r_18.2.1 r_18.2.2 g5_1) >>= (fun r_19 => some (r_19.2.1, r_19.2.2, g5_1))) else if (g0_7 (Int32.toNatClampNeg p1)) ≤ (164 : Int32) then (f_X5_pullKind v5_2 v5_3 v5_6 g5_1 1) >>= (fun r_8 => if (g0_7 (Int32.toNatClampNeg p1)) < (159 : Int32) then some (r_8.1, r_8.2, g5_1) else if (164 : Int32) < (g0_7 (Int32.toNatClampNeg p1)) then some (r_8.1, r_8.2, g5_1) else (f_X5_pullKind v5_2 r_8.1 r_8.2 g5_1 1) >>= (fun r_11 => some (r_11.1, r_11.2, g5_1))) else (f_X0_isSwitch (g0_7 (Int32.toNatClampNeg p1))) >>= (fun r_12 => if r_12 = (0 : Int32) then some (v5_3, v5_6, g5_1) else (f_X5_pullKind v5_2 v5_3 v5_6 g5_1 1) >>= (fun r_14 => if (g0_7 (Int32.toNatClampNeg p1)) < (159 : Int32) then some (r_14.1, r_14.2, g5_1) else if (164 : Int32) < (g0_7 (Int32.toNatClampNeg p1)) then some (r_14.1, r_14.2, g5_1) else (f_X5_pullKind v5_2 r_14.1 r_14.2 g5_1 1) >>= (fun r_17 => some (r_17.1, r_17.2, g5_1)))) else none
theorem i_X6_branch_X0 : ∀ w ∈ wsX00, w ∈ wsX6_branch := fun _ h => List.mem_cons_of_mem _ (List.mem_append_left _ (List.mem_append_right _ h))
theorem i_X6_branch_X6 : ∀ w ∈ wsX60, w ∈ wsX6_branch := fun _ h => List.mem_cons_of_mem _ (List.mem_append_left _ (List.mem_append_left _ (List.mem_append_right _ h)))
set_option maxHeartbeats 4000000 in
set_option maxRecDepth 100000 in
theorem c_X6_branch (l : Launch) (dC : Nat → ClassId) (dI : Nat → Nat → Nat) (cyI cyZ cyJ : ClassId) (sz : Nat) (o0 : Nat) (v0_0 : Int32) (v0_1 : Int32) (v0_2 : Int32) (v0_3 : Int32) (v0_4 : Int32) (a0_5 : Nat) (v0_6 : Int32) (a0_7 : Nat) (a0_8 : Nat) (a0_9 : Nat) (v0_10 : Int32) (a0_11 : Nat) (a0_12 : Nat) (a0_13 : Nat) (a0_14 : Nat) (v0_15 : Int32) (a0_16 : Nat) (g0_7 : Nat → Int32) (o5 : Nat) (o7 : Nat) (a5_1 : Nat) (v5_2 : Int32) (v5_3 : Int32) (v5_4 : Int32) (v5_5 : Int32) (v5_6 : Int32) (v5_7 : Int32) (v5_8 : Int32) (v5_9 : Int32) (g5_1 : Nat → Int32) (o6 : Nat) (o4 : Nat) (p1 : Int32) (R : Int32 × Int32 × (Nat → Int32)) (hf : f_X6_branch g0_7 v5_2 v5_3 v5_4 v5_6 g5_1 p1 = some R) : Met l yX6_branch wsX6_branch ({ frames := 2, cells := 0, slots := 0, locals := 42 }) (va_Pc [.ref o6, .int p1] (x_PreD (dC, dI) (x_T cyI cyZ cyJ) [(o0, .inr (0, [.int v0_0, .int v0_1, .int v0_2, .int v0_3, .int v0_4, .ref a0_5, .int v0_6, .ref a0_7, .ref a0_8, .ref a0_9, .int v0_10, .ref a0_11, .ref a0_12, .ref a0_13, .ref a0_14, .int v0_15, .ref a0_16])), (a0_7, .inl (cyI, 1000, .inl g0_7)), (o5, .inr (5, [.ref o7, .ref a5_1, .int v5_2, .int v5_3, .int v5_4, .int v5_5, .int v5_6, .int v5_7, .int v5_8, .int v5_9])), (a5_1, .inl (cyI, 400, .inl g5_1)), (o6, .inr (6, [.ref o7, .ref o4, .ref o0, .ref o5]))] sz)) (va_Qv (fun _ : Unit => True) (fun (_ : Unit) (t : State) => va_P (dC, dI) vwCl [(o0, .inr (0, [.int v0_0, .int v0_1, .int v0_2, .int v0_3, .int v0_4, .ref a0_5, .int v0_6, .ref a0_7, .ref a0_8, .ref a0_9, .int v0_10, .ref a0_11, .ref a0_12, .ref a0_13, .ref a0_14, .int v0_15, .ref a0_16])), (a0_7, .inl (cyI, 1000, .inl g0_7)), (o5, .inr (5, [.ref o7, .ref a5_1, .int v5_2, .int (R.1), .int v5_4, .int v5_5, .int (R.2.1), .int v5_7, .int v5_8, .int v5_9])), (a5_1, .inl (cyI, 400, .inl R.2.2)), (o6, .inr (6, [.ref o7, .ref o4, .ref o0, .ref o5]))] t.heap ∧ va_K (dC, dI) vwCl (x_T cyI cyZ cyJ) t ∧ va_D (va_A [(o0, .inr (0, [.int v0_0, .int v0_1, .int v0_2, .int v0_3, .int v0_4, .ref a0_5, .int v0_6, .ref a0_7, .ref a0_8, .ref a0_9, .int v0_10, .ref a0_11, .ref a0_12, .ref a0_13, .ref a0_14, .int v0_15, .ref a0_16])), (a0_7, .inl (cyI, 1000, .inl g0_7)), (o5, .inr (5, [.ref o7, .ref a5_1, .int v5_2, .int v5_3, .int v5_4, .int v5_5, .int v5_6, .int v5_7, .int v5_8, .int v5_9])), (a5_1, .inl (cyI, 400, .inl g5_1)), (o6, .inr (6, [.ref o7, .ref o4, .ref o0, .ref o5]))] sz) [(o0, .inr (0, [.int v0_0, .int v0_1, .int v0_2, .int v0_3, .int v0_4, .ref a0_5, .int v0_6, .ref a0_7, .ref a0_8, .ref a0_9, .int v0_10, .ref a0_11, .ref a0_12, .ref a0_13, .ref a0_14, .int v0_15, .ref a0_16])), (a0_7, .inl (cyI, 1000, .inl g0_7)), (o5, .inr (5, [.ref o7, .ref a5_1, .int v5_2, .int (R.1), .int v5_4, .int v5_5, .int (R.2.1), .int v5_7, .int v5_8, .int v5_9])), (a5_1, .inl (cyI, 400, .inl R.2.2)), (o6, .inr (6, [.ref o7, .ref o4, .ref o0, .ref o5]))]) (va_A [(o0, .inr (0, [.int v0_0, .int v0_1, .int v0_2, .int v0_3, .int v0_4, .ref a0_5, .int v0_6, .ref a0_7, .ref a0_8, .ref a0_9, .int v0_10, .ref a0_11, .ref a0_12, .ref a0_13, .ref a0_14, .int v0_15, .ref a0_16])), (a0_7, .inl (cyI, 1000, .inl g0_7)), (o5, .inr (5, [.ref o7, .ref a5_1, .int v5_2, .int v5_3, .int v5_4, .int v5_5, .int v5_6, .int v5_7, .int v5_8, .int v5_9])), (a5_1, .inl (cyI, 400, .inl g5_1)), (o6, .inr (6, [.ref o7, .ref o4, .ref o0, .ref o5]))] sz)) 0 0 (va_A [(o0, .inr (0, [.int v0_0, .int v0_1, .int v0_2, .int v0_3, .int v0_4, .ref a0_5, .int v0_6, .ref a0_7, .ref a0_8, .ref a0_9, .int v0_10, .ref a0_11, .ref a0_12, .ref a0_13, .ref a0_14, .int v0_15, .ref a0_16])), (a0_7, .inl (cyI, 1000, .inl g0_7)), (o5, .inr (5, [.ref o7, .ref a5_1, .int v5_2, .int v5_3, .int v5_4, .int v5_5, .int v5_6, .int v5_7, .int v5_8, .int v5_9])), (a5_1, .inl (cyI, 400, .inl g5_1)), (o6, .inr (6, [.ref o7, .ref o4, .ref o0, .ref o5]))] sz) := by
  refine Met.ofW (cc := cX6_branch) (maxL := 3) (ret := none) (by decide) rfl ?_
  intro p e s m args below meth c s₁ B hml hv
  obtain ⟨rfl, ⟨hsz, hP, hK, hN⟩, hD0⟩ := hv
  have hx := B.exec
  have hb := B.bytes
  have hr := B.returns
  have hts := atoms_spec (ws := wsX6_branch) B.pre
  have hown : s.vm.findClass RX6 = some m.cls := findClass_of_methodNamed B.named
  have k_1 := hts (.fieldLink RX6 19 "FlowJudge$Steps" "code" "LFlowJudge$Code;") (by decide +kernel)
  have k_2 := hts (.fieldLink RX6 23 "FlowJudge$Steps" "places" "LFlowJudge$Places;") (by decide +kernel)
  subst hsz
  have hD := hD0.self (sz := s.heap.size)
  generalize hAe : va_A [(o0, .inr (0, [.int v0_0, .int v0_1, .int v0_2, .int v0_3, .int v0_4, .ref a0_5, .int v0_6, .ref a0_7, .ref a0_8, .ref a0_9, .int v0_10, .ref a0_11, .ref a0_12, .ref a0_13, .ref a0_14, .int v0_15, .ref a0_16])), (a0_7, .inl (cyI, 1000, .inl g0_7)), (o5, .inr (5, [.ref o7, .ref a5_1, .int v5_2, .int v5_3, .int v5_4, .int v5_5, .int v5_6, .int v5_7, .int v5_8, .int v5_9])), (a5_1, .inl (cyI, 400, .inl g5_1)), (o6, .inr (6, [.ref o7, .ref o4, .ref o0, .ref o5]))] s.heap.size = A at hD ⊢
  have hA : ∀ q : Nat, s.heap.size ≤ q → A q := fun q h => by rw [← hAe]; exact Or.inr h
  have hP : va_P (dC, dI) vwCl [(o0, .inr (0, [.int v0_0, .int v0_1, .int v0_2, .int v0_3, .int v0_4, .ref a0_5, .int v0_6, .ref a0_7, .ref a0_8, .ref a0_9, .int v0_10, .ref a0_11, .ref a0_12, .ref a0_13, .ref a0_14, .int v0_15, .ref a0_16])), (a0_7, .inl (cyI, 1000, .inl g0_7)), (o5, .inr (5, [.ref o7, .ref a5_1, .int v5_2, .int v5_3, .int v5_4, .int v5_5, .int v5_6, .int v5_7, .int v5_8, .int v5_9])), (a5_1, .inl (cyI, 400, .inl g5_1)), (o6, .inr (6, [.ref o7, .ref o4, .ref o0, .ref o5]))] s.heap := hP
  have hl := lv_entry ([.ref o6, .int p1]) (n := 3) (Nat.le_of_ble_eq_true rfl)
  rw [lg_entry_eq]
  generalize (lg_sl ([.ref o6, .int p1]) ++ List.replicate (3 - (lg_sl ([.ref o6, .int p1])).length) Slot.unset).toArray = ls at hl ⊢
  have hl : lv_has ls 3 [(0, .ref o6), (1, .int p1)] := hl
  obtain ⟨H, hH⟩ : ∃ z, z = s.heap := ⟨_, rfl⟩
  refine x_here hH ?_
  have hP : va_P (dC, dI) vwCl [(o0, .inr (0, [.int v0_0, .int v0_1, .int v0_2, .int v0_3, .int v0_4, .ref a0_5, .int v0_6, .ref a0_7, .ref a0_8, .ref a0_9, .int v0_10, .ref a0_11, .ref a0_12, .ref a0_13, .ref a0_14, .int v0_15, .ref a0_16])), (a0_7, .inl (cyI, 1000, .inl g0_7)), (o5, .inr (5, [.ref o7, .ref a5_1, .int v5_2, .int v5_3, .int v5_4, .int v5_5, .int v5_6, .int v5_7, .int v5_8, .int v5_9])), (a5_1, .inl (cyI, 400, .inl g5_1)), (o6, .inr (6, [.ref o7, .ref o4, .ref o0, .ref o5]))] H := by rw [hH]; exact hP
  have hS : va_S A s.heap H [] := by rw [hH]; exact va_S.rf
  clear hH
  obtain ⟨locs, hlo⟩ : ∃ z : List Loc, z = [] := ⟨_, rfl⟩
  refine x_herl hlo ?_
  have hS : va_S A s.heap H locs := by rw [hlo]; exact hS
  clear hlo
  unfold f_X6_branch at hf
  refine lv_aload_n hx hb dX6_branch_0 rfl (lv_at hl 0 rfl) ?_
  refine va_get (D := (dC, dI)) (ci := 6) (v := .ref o0) (C := RX6) (T := TX6) (N := 4) hx hb hts i_X6_branch_X6 hown hK hP 4 rfl rfl 2 (by decide) k_1 (fun _ h9 => h9) rfl dX6_branch_1 ?_
  refine va_getN (D := (dC, dI)) (ci := 0) (v := .ref a0_7) (C := RX0) (T := TX0) (N := 17) hx hb hts i_X6_branch_X0 hown hK hP 0 rfl rfl 7 (by decide) ((hN.1 ("FlowJudge$Steps", 27, "FlowJudge$Code", "ops", "[I") (List.mem_of_getElem? (i := 45) rfl)).use rfl) (fun _ h9 => h9) rfl dX6_branch_4 ?_
  refine lv_iload_n hx hb dX6_branch_7 rfl (lv_at hl 1 rfl) ?_
  obtain ⟨g_1, hf⟩ := x_gu hf
  refine va_iald hx hb hK hP 1 0 rfl rfl (x_gdin g_1) dX6_branch_8 ?_
  refine lv_istore_n (lv' := [(2, .int (g0_7 (Int32.toNatClampNeg p1))), (0, .ref o6), (1, .int p1)]) hx hb dX6_branch_9 rfl hl (by decide) rfl (fun ls hl => ?_)
  refine lv_iload_n hx hb dX6_branch_10 rfl (lv_at hl 0 rfl) ?_
  refine lv_sipush (v := 168) hx hb dX6_branch_11 (by decide) ?_
  refine lv_icmp_ne (tgt := 36) hx hb dX6_branch_14 (by decide) (fun c_2 => ?_) (fun c_2 => ?_)
  · replace hf := x_in c_2 hf
    refine lv_iload_n hx hb dX6_branch_36 rfl (lv_at hl 0 rfl) ?_
    refine lv_sipush (v := 165) hx hb dX6_branch_37 (by decide) ?_
    refine lv_icmp_eq (tgt := 50) hx hb dX6_branch_40 (by decide) (fun c_3 => ?_) (fun c_3 => ?_)
    · replace hf := x_ip c_3 hf
      refine lv_aload_n hx hb dX6_branch_50 rfl (lv_at hl 1 rfl) ?_
      refine va_get (D := (dC, dI)) (ci := 6) (v := .ref o5) (C := RX6) (T := TX6) (N := 4) hx hb hts i_X6_branch_X6 hown hK hP 4 rfl rfl 3 (by decide) k_2 (fun _ h9 => h9) rfl dX6_branch_51 ?_
      obtain ⟨r_4, h_4, hf⟩ := x_bi hf
      have hPc := hP.sub (ws' := [(o5, .inr (5, [.ref o7, .ref a5_1, .int v5_2, .int v5_3, .int v5_4, .int v5_5, .int v5_6, .int v5_7, .int v5_8, .int v5_9])), (a5_1, .inl (cyI, 400, .inl g5_1))]) [2, 3] rfl
      have hDc := hD.sub (ws' := [(o5, .inr (5, [.ref o7, .ref a5_1, .int v5_2, .int v5_3, .int v5_4, .int v5_5, .int v5_6, .int v5_7, .int v5_8, .int v5_9])), (a5_1, .inl (cyI, 400, .inl g5_1))]) [2, 3] (by decide) rfl
      have hFc := va_free (wc := [(o5, .inr (5, [.ref o7, .ref a5_1, .int v5_2, .int v5_3, .int v5_4, .int v5_5, .int v5_6, .int v5_7, .int v5_8, .int v5_9])), (a5_1, .inl (cyI, 400, .inl g5_1))]) hD hS hA [2, 3] rfl
      refine va_calli (va_runV (As := []) (rest := []) ⟨hx, hb, hml, hown, hts⟩ (c_X5_pullReference l dC dI cyI cyZ cyJ H.size o5 o7 a5_1 v5_2 v5_3 v5_4 v5_5 v5_6 v5_7 v5_8 v5_9 g5_1 r_4 h_4) (cwV 0 hts gX6_branch_X5_pullReference rfl rfl rfl (by decide +kernel) ⟨Nat.le_of_ble_eq_true rfl, Nat.le_of_ble_eq_true rfl⟩) (x_pVD hN hK hPc hDc (ci := 5) (q0 := 0) rfl rfl) rfl rfl hl.1 rfl (lv_room (Nat.le_of_ble_eq_true rfl)) dX6_branch_54 ⟨Nat.le_of_ble_eq_true rfl, Nat.le_of_ble_eq_true rfl⟩) hS (fun q _ h => hFc q h) hFc (fun q_4 u t H1 locs ht hvm hw hB hz1 hk1 hS => ?_)
      obtain ⟨hP1, hK1, hD1⟩ := hB
      rw [ht] at hP1
      obtain ⟨hP, hD⟩ := va_join (wr := [(o0, .inr (0, [.int v0_0, .int v0_1, .int v0_2, .int v0_3, .int v0_4, .ref a0_5, .int v0_6, .ref a0_7, .ref a0_8, .ref a0_9, .int v0_10, .ref a0_11, .ref a0_12, .ref a0_13, .ref a0_14, .int v0_15, .ref a0_16])), (a0_7, .inl (cyI, 1000, .inl g0_7)), (o6, .inr (6, [.ref o7, .ref o4, .ref o0, .ref o5]))]) (w1 := [(o5, .inr (5, [.ref o7, .ref a5_1, .int v5_2, .int (r_4.2.1), .int v5_4, .int v5_5, .int (r_4.2.2), .int v5_7, .int v5_8, .int v5_9])), (a5_1, .inl (cyI, 400, .inl g5_1))]) hP hD [2, 3] [0, 1, 4] rfl rfl (by decide) (by decide) hk1 hFc hP1 hD1
      clear hz1 hk1 hPc hDc hFc hP1 hK1 hD1 ht hvm t u
      generalize H1 = H at hP hS ⊢
      have hP : va_P (dC, dI) vwCl [(o0, .inr (0, [.int v0_0, .int v0_1, .int v0_2, .int v0_3, .int v0_4, .ref a0_5, .int v0_6, .ref a0_7, .ref a0_8, .ref a0_9, .int v0_10, .ref a0_11, .ref a0_12, .ref a0_13, .ref a0_14, .int v0_15, .ref a0_16])), (a0_7, .inl (cyI, 1000, .inl g0_7)), (o6, .inr (6, [.ref o7, .ref o4, .ref o0, .ref o5])), (o5, .inr (5, [.ref o7, .ref a5_1, .int v5_2, .int (r_4.2.1), .int v5_4, .int v5_5, .int (r_4.2.2), .int v5_7, .int v5_8, .int v5_9])), (a5_1, .inl (cyI, 400, .inl g5_1))] H := hP
      have hD : va_D A [(o0, .inr (0, [.int v0_0, .int v0_1, .int v0_2, .int v0_3, .int v0_4, .ref a0_5, .int v0_6, .ref a0_7, .ref a0_8, .ref a0_9, .int v0_10, .ref a0_11, .ref a0_12, .ref a0_13, .ref a0_14, .int v0_15, .ref a0_16])), (a0_7, .inl (cyI, 1000, .inl g0_7)), (o6, .inr (6, [.ref o7, .ref o4, .ref o0, .ref o5])), (o5, .inr (5, [.ref o7, .ref a5_1, .int v5_2, .int (r_4.2.1), .int v5_4, .int v5_5, .int (r_4.2.2), .int v5_7, .int v5_8, .int v5_9])), (a5_1, .inl (cyI, 400, .inl g5_1))] := hD
      obtain rfl := hw.symm
      refine lv_pop hx hb dX6_branch_57 rfl ?_
      refine lv_aload_n hx hb dX6_branch_58 rfl (lv_at hl 1 rfl) ?_
      refine va_get (D := (dC, dI)) (ci := 6) (v := .ref o5) (C := RX6) (T := TX6) (N := 4) hx hb hts i_X6_branch_X6 hown hK hP 2 rfl rfl 3 (by decide) k_2 (fun _ h9 => h9) rfl dX6_branch_59 ?_
      obtain ⟨r_5, h_5, hf⟩ := x_bi hf
      have hPc := hP.sub (ws' := [(o5, .inr (5, [.ref o7, .ref a5_1, .int v5_2, .int (r_4.2.1), .int v5_4, .int v5_5, .int (r_4.2.2), .int v5_7, .int v5_8, .int v5_9])), (a5_1, .inl (cyI, 400, .inl g5_1))]) [3, 4] rfl
      have hDc := hD.sub (ws' := [(o5, .inr (5, [.ref o7, .ref a5_1, .int v5_2, .int (r_4.2.1), .int v5_4, .int v5_5, .int (r_4.2.2), .int v5_7, .int v5_8, .int v5_9])), (a5_1, .inl (cyI, 400, .inl g5_1))]) [3, 4] (by decide) rfl
      have hFc := va_free (wc := [(o5, .inr (5, [.ref o7, .ref a5_1, .int v5_2, .int (r_4.2.1), .int v5_4, .int v5_5, .int (r_4.2.2), .int v5_7, .int v5_8, .int v5_9])), (a5_1, .inl (cyI, 400, .inl g5_1))]) hD hS hA [3, 4] rfl
      refine va_calli (va_runV (As := []) (rest := []) ⟨hx, hb, hml, hown, hts⟩ (c_X5_pullReference l dC dI cyI cyZ cyJ H.size o5 o7 a5_1 v5_2 r_4.2.1 v5_4 v5_5 r_4.2.2 v5_7 v5_8 v5_9 g5_1 r_5 h_5) (cwV 0 hts gX6_branch_X5_pullReference rfl rfl rfl (by decide +kernel) ⟨Nat.le_of_ble_eq_true rfl, Nat.le_of_ble_eq_true rfl⟩) (x_pVD hN hK hPc hDc (ci := 5) (q0 := 0) rfl rfl) rfl rfl hl.1 rfl (lv_room (Nat.le_of_ble_eq_true rfl)) dX6_branch_62 ⟨Nat.le_of_ble_eq_true rfl, Nat.le_of_ble_eq_true rfl⟩) hS (fun q _ h => hFc q h) hFc (fun q_5 u t H1 locs ht hvm hw hB hz1 hk1 hS => ?_)
      obtain ⟨hP1, hK1, hD1⟩ := hB
      rw [ht] at hP1
      obtain ⟨hP, hD⟩ := va_join (wr := [(o0, .inr (0, [.int v0_0, .int v0_1, .int v0_2, .int v0_3, .int v0_4, .ref a0_5, .int v0_6, .ref a0_7, .ref a0_8, .ref a0_9, .int v0_10, .ref a0_11, .ref a0_12, .ref a0_13, .ref a0_14, .int v0_15, .ref a0_16])), (a0_7, .inl (cyI, 1000, .inl g0_7)), (o6, .inr (6, [.ref o7, .ref o4, .ref o0, .ref o5]))]) (w1 := [(o5, .inr (5, [.ref o7, .ref a5_1, .int v5_2, .int (r_5.2.1), .int v5_4, .int v5_5, .int (r_5.2.2), .int v5_7, .int v5_8, .int v5_9])), (a5_1, .inl (cyI, 400, .inl g5_1))]) hP hD [3, 4] [0, 1, 2] rfl rfl (by decide) (by decide) hk1 hFc hP1 hD1
      clear hz1 hk1 hPc hDc hFc hP1 hK1 hD1 ht hvm t u
      generalize H1 = H at hP hS ⊢
      have hP : va_P (dC, dI) vwCl [(o0, .inr (0, [.int v0_0, .int v0_1, .int v0_2, .int v0_3, .int v0_4, .ref a0_5, .int v0_6, .ref a0_7, .ref a0_8, .ref a0_9, .int v0_10, .ref a0_11, .ref a0_12, .ref a0_13, .ref a0_14, .int v0_15, .ref a0_16])), (a0_7, .inl (cyI, 1000, .inl g0_7)), (o6, .inr (6, [.ref o7, .ref o4, .ref o0, .ref o5])), (o5, .inr (5, [.ref o7, .ref a5_1, .int v5_2, .int (r_5.2.1), .int v5_4, .int v5_5, .int (r_5.2.2), .int v5_7, .int v5_8, .int v5_9])), (a5_1, .inl (cyI, 400, .inl g5_1))] H := hP
      have hD : va_D A [(o0, .inr (0, [.int v0_0, .int v0_1, .int v0_2, .int v0_3, .int v0_4, .ref a0_5, .int v0_6, .ref a0_7, .ref a0_8, .ref a0_9, .int v0_10, .ref a0_11, .ref a0_12, .ref a0_13, .ref a0_14, .int v0_15, .ref a0_16])), (a0_7, .inl (cyI, 1000, .inl g0_7)), (o6, .inr (6, [.ref o7, .ref o4, .ref o0, .ref o5])), (o5, .inr (5, [.ref o7, .ref a5_1, .int v5_2, .int (r_5.2.1), .int v5_4, .int v5_5, .int (r_5.2.2), .int v5_7, .int v5_8, .int v5_9])), (a5_1, .inl (cyI, 400, .inl g5_1))] := hD
      obtain rfl := hw.symm
      refine lv_pop hx hb dX6_branch_65 rfl ?_
      refine lv_goto (tgt := 113) hx hb dX6_branch_66 (by decide) ?_
      obtain rfl := Option.some.inj hf
      have hP9 := hP.sub (ws' := [(o0, .inr (0, [.int v0_0, .int v0_1, .int v0_2, .int v0_3, .int v0_4, .ref a0_5, .int v0_6, .ref a0_7, .ref a0_8, .ref a0_9, .int v0_10, .ref a0_11, .ref a0_12, .ref a0_13, .ref a0_14, .int v0_15, .ref a0_16])), (a0_7, .inl (cyI, 1000, .inl g0_7)), (o5, .inr (5, [.ref o7, .ref a5_1, .int v5_2, .int (r_5.2.1), .int v5_4, .int v5_5, .int (r_5.2.2), .int v5_7, .int v5_8, .int v5_9])), (a5_1, .inl (cyI, 400, .inl g5_1)), (o6, .inr (6, [.ref o7, .ref o4, .ref o0, .ref o5]))]) [0, 1, 3, 4, 2] rfl
      have hD9 := hD.sub (ws' := [(o0, .inr (0, [.int v0_0, .int v0_1, .int v0_2, .int v0_3, .int v0_4, .ref a0_5, .int v0_6, .ref a0_7, .ref a0_8, .ref a0_9, .int v0_10, .ref a0_11, .ref a0_12, .ref a0_13, .ref a0_14, .int v0_15, .ref a0_16])), (a0_7, .inl (cyI, 1000, .inl g0_7)), (o5, .inr (5, [.ref o7, .ref a5_1, .int v5_2, .int (r_5.2.1), .int v5_4, .int v5_5, .int (r_5.2.2), .int v5_7, .int v5_8, .int v5_9])), (a5_1, .inl (cyI, 400, .inl g5_1)), (o6, .inr (6, [.ref o7, .ref o4, .ref o0, .ref o5]))]) [0, 1, 3, 4, 2] (by decide) rfl
      exact W.vret hx hb hr (fun t ht hW => ⟨⟨(), rfl, trivial, by rw [ht]; exact hP9, va_K.moved hW.alike hK, hD9⟩, hS.F ht⟩) hS.2.2 dX6_branch_113
    · replace hf := x_in c_3 hf
      refine lv_iload_n hx hb dX6_branch_43 rfl (lv_at hl 0 rfl) ?_
      refine lv_sipush (v := 166) hx hb dX6_branch_44 (by decide) ?_
      refine lv_icmp_ne (tgt := 69) hx hb dX6_branch_47 (by decide) (fun c_6 => ?_) (fun c_6 => ?_)
      · replace hf := x_in c_6 hf
        refine lv_iload_n hx hb dX6_branch_69 rfl (lv_at hl 0 rfl) ?_
        refine lv_sipush (v := 164) hx hb dX6_branch_70 (by decide) ?_
        refine lv_icmp_le (tgt := 83) hx hb dX6_branch_73 (by decide) (fun c_7 => ?_) (fun c_7 => ?_)
        · replace hf := x_ip c_7 hf
          refine lv_aload_n hx hb dX6_branch_83 rfl (lv_at hl 1 rfl) ?_
          refine va_get (D := (dC, dI)) (ci := 6) (v := .ref o5) (C := RX6) (T := TX6) (N := 4) hx hb hts i_X6_branch_X6 hown hK hP 4 rfl rfl 3 (by decide) k_2 (fun _ h9 => h9) rfl dX6_branch_84 ?_
          refine lv_iconst (v := 1) hx hb dX6_branch_87 (by decide) ?_
          obtain ⟨r_8, h_8, hf⟩ := x_bi hf
          have hPc := hP.sub (ws' := [(o5, .inr (5, [.ref o7, .ref a5_1, .int v5_2, .int v5_3, .int v5_4, .int v5_5, .int v5_6, .int v5_7, .int v5_8, .int v5_9])), (a5_1, .inl (cyI, 400, .inl g5_1))]) [2, 3] rfl
          have hDc := hD.sub (ws' := [(o5, .inr (5, [.ref o7, .ref a5_1, .int v5_2, .int v5_3, .int v5_4, .int v5_5, .int v5_6, .int v5_7, .int v5_8, .int v5_9])), (a5_1, .inl (cyI, 400, .inl g5_1))]) [2, 3] (by decide) rfl
          have hFc := va_free (wc := [(o5, .inr (5, [.ref o7, .ref a5_1, .int v5_2, .int v5_3, .int v5_4, .int v5_5, .int v5_6, .int v5_7, .int v5_8, .int v5_9])), (a5_1, .inl (cyI, 400, .inl g5_1))]) hD hS hA [2, 3] rfl
          refine va_callv (va_runV (As := [.int 1]) (rest := []) ⟨hx, hb, hml, hown, hts⟩ (c_X5_pullKind l dC dI cyI cyZ cyJ H.size o5 o7 a5_1 v5_2 v5_3 v5_4 v5_5 v5_6 v5_7 v5_8 v5_9 g5_1 1 r_8 h_8) (cwV 1 hts gX6_branch_X5_pullKind rfl rfl rfl (by decide +kernel) ⟨Nat.le_of_ble_eq_true rfl, Nat.le_of_ble_eq_true rfl⟩) (x_pVD hN hK hPc hDc (ci := 5) (q0 := 0) rfl rfl) rfl rfl hl.1 rfl (lv_room (Nat.le_of_ble_eq_true rfl)) dX6_branch_88 ⟨Nat.le_of_ble_eq_true rfl, Nat.le_of_ble_eq_true rfl⟩) hS (fun q _ h => hFc q h) hFc (fun u t H1 locs ht hvm hw hB hz1 hk1 hS => ?_)
          obtain ⟨hP1, hK1, hD1⟩ := hB
          rw [ht] at hP1
          obtain ⟨hP, hD⟩ := va_join (wr := [(o0, .inr (0, [.int v0_0, .int v0_1, .int v0_2, .int v0_3, .int v0_4, .ref a0_5, .int v0_6, .ref a0_7, .ref a0_8, .ref a0_9, .int v0_10, .ref a0_11, .ref a0_12, .ref a0_13, .ref a0_14, .int v0_15, .ref a0_16])), (a0_7, .inl (cyI, 1000, .inl g0_7)), (o6, .inr (6, [.ref o7, .ref o4, .ref o0, .ref o5]))]) (w1 := [(o5, .inr (5, [.ref o7, .ref a5_1, .int v5_2, .int (r_8.1), .int v5_4, .int v5_5, .int (r_8.2), .int v5_7, .int v5_8, .int v5_9])), (a5_1, .inl (cyI, 400, .inl g5_1))]) hP hD [2, 3] [0, 1, 4] rfl rfl (by decide) (by decide) hk1 hFc hP1 hD1
          clear hz1 hk1 hPc hDc hFc hP1 hK1 hD1 ht hvm t u
          generalize H1 = H at hP hS ⊢
          have hP : va_P (dC, dI) vwCl [(o0, .inr (0, [.int v0_0, .int v0_1, .int v0_2, .int v0_3, .int v0_4, .ref a0_5, .int v0_6, .ref a0_7, .ref a0_8, .ref a0_9, .int v0_10, .ref a0_11, .ref a0_12, .ref a0_13, .ref a0_14, .int v0_15, .ref a0_16])), (a0_7, .inl (cyI, 1000, .inl g0_7)), (o6, .inr (6, [.ref o7, .ref o4, .ref o0, .ref o5])), (o5, .inr (5, [.ref o7, .ref a5_1, .int v5_2, .int (r_8.1), .int v5_4, .int v5_5, .int (r_8.2), .int v5_7, .int v5_8, .int v5_9])), (a5_1, .inl (cyI, 400, .inl g5_1))] H := hP
          have hD : va_D A [(o0, .inr (0, [.int v0_0, .int v0_1, .int v0_2, .int v0_3, .int v0_4, .ref a0_5, .int v0_6, .ref a0_7, .ref a0_8, .ref a0_9, .int v0_10, .ref a0_11, .ref a0_12, .ref a0_13, .ref a0_14, .int v0_15, .ref a0_16])), (a0_7, .inl (cyI, 1000, .inl g0_7)), (o6, .inr (6, [.ref o7, .ref o4, .ref o0, .ref o5])), (o5, .inr (5, [.ref o7, .ref a5_1, .int v5_2, .int (r_8.1), .int v5_4, .int v5_5, .int (r_8.2), .int v5_7, .int v5_8, .int v5_9])), (a5_1, .inl (cyI, 400, .inl g5_1))] := hD
          refine lv_iload_n hx hb dX6_branch_91 rfl (lv_at hl 0 rfl) ?_
          refine lv_sipush (v := 159) hx hb dX6_branch_92 (by decide) ?_
          refine lv_icmp_lt (tgt := 113) hx hb dX6_branch_95 (by decide) (fun c_9 => ?_) (fun c_9 => ?_)
          · replace hf := x_ip c_9 hf
            obtain rfl := Option.some.inj hf
            have hP9 := hP.sub (ws' := [(o0, .inr (0, [.int v0_0, .int v0_1, .int v0_2, .int v0_3, .int v0_4, .ref a0_5, .int v0_6, .ref a0_7, .ref a0_8, .ref a0_9, .int v0_10, .ref a0_11, .ref a0_12, .ref a0_13, .ref a0_14, .int v0_15, .ref a0_16])), (a0_7, .inl (cyI, 1000, .inl g0_7)), (o5, .inr (5, [.ref o7, .ref a5_1, .int v5_2, .int (r_8.1), .int v5_4, .int v5_5, .int (r_8.2), .int v5_7, .int v5_8, .int v5_9])), (a5_1, .inl (cyI, 400, .inl g5_1)), (o6, .inr (6, [.ref o7, .ref o4, .ref o0, .ref o5]))]) [0, 1, 3, 4, 2] rfl
            have hD9 := hD.sub (ws' := [(o0, .inr (0, [.int v0_0, .int v0_1, .int v0_2, .int v0_3, .int v0_4, .ref a0_5, .int v0_6, .ref a0_7, .ref a0_8, .ref a0_9, .int v0_10, .ref a0_11, .ref a0_12, .ref a0_13, .ref a0_14, .int v0_15, .ref a0_16])), (a0_7, .inl (cyI, 1000, .inl g0_7)), (o5, .inr (5, [.ref o7, .ref a5_1, .int v5_2, .int (r_8.1), .int v5_4, .int v5_5, .int (r_8.2), .int v5_7, .int v5_8, .int v5_9])), (a5_1, .inl (cyI, 400, .inl g5_1)), (o6, .inr (6, [.ref o7, .ref o4, .ref o0, .ref o5]))]) [0, 1, 3, 4, 2] (by decide) rfl
            exact W.vret hx hb hr (fun t ht hW => ⟨⟨(), rfl, trivial, by rw [ht]; exact hP9, va_K.moved hW.alike hK, hD9⟩, hS.F ht⟩) hS.2.2 dX6_branch_113
          · replace hf := x_in c_9 hf
            refine lv_iload_n hx hb dX6_branch_98 rfl (lv_at hl 0 rfl) ?_
            refine lv_sipush (v := 164) hx hb dX6_branch_99 (by decide) ?_
            refine lv_icmp_gt (tgt := 113) hx hb dX6_branch_102 (by decide) (fun c_10 => ?_) (fun c_10 => ?_)
            · replace hf := x_ip c_10 hf
              obtain rfl := Option.some.inj hf
              have hP9 := hP.sub (ws' := [(o0, .inr (0, [.int v0_0, .int v0_1, .int v0_2, .int v0_3, .int v0_4, .ref a0_5, .int v0_6, .ref a0_7, .ref a0_8, .ref a0_9, .int v0_10, .ref a0_11, .ref a0_12, .ref a0_13, .ref a0_14, .int v0_15, .ref a0_16])), (a0_7, .inl (cyI, 1000, .inl g0_7)), (o5, .inr (5, [.ref o7, .ref a5_1, .int v5_2, .int (r_8.1), .int v5_4, .int v5_5, .int (r_8.2), .int v5_7, .int v5_8, .int v5_9])), (a5_1, .inl (cyI, 400, .inl g5_1)), (o6, .inr (6, [.ref o7, .ref o4, .ref o0, .ref o5]))]) [0, 1, 3, 4, 2] rfl
              have hD9 := hD.sub (ws' := [(o0, .inr (0, [.int v0_0, .int v0_1, .int v0_2, .int v0_3, .int v0_4, .ref a0_5, .int v0_6, .ref a0_7, .ref a0_8, .ref a0_9, .int v0_10, .ref a0_11, .ref a0_12, .ref a0_13, .ref a0_14, .int v0_15, .ref a0_16])), (a0_7, .inl (cyI, 1000, .inl g0_7)), (o5, .inr (5, [.ref o7, .ref a5_1, .int v5_2, .int (r_8.1), .int v5_4, .int v5_5, .int (r_8.2), .int v5_7, .int v5_8, .int v5_9])), (a5_1, .inl (cyI, 400, .inl g5_1)), (o6, .inr (6, [.ref o7, .ref o4, .ref o0, .ref o5]))]) [0, 1, 3, 4, 2] (by decide) rfl
              exact W.vret hx hb hr (fun t ht hW => ⟨⟨(), rfl, trivial, by rw [ht]; exact hP9, va_K.moved hW.alike hK, hD9⟩, hS.F ht⟩) hS.2.2 dX6_branch_113
            · replace hf := x_in c_10 hf
              refine lv_aload_n hx hb dX6_branch_105 rfl (lv_at hl 1 rfl) ?_
              refine va_get (D := (dC, dI)) (ci := 6) (v := .ref o5) (C := RX6) (T := TX6) (N := 4) hx hb hts i_X6_branch_X6 hown hK hP 2 rfl rfl 3 (by decide) k_2 (fun _ h9 => h9) rfl dX6_branch_106 ?_
              refine lv_iconst (v := 1) hx hb dX6_branch_109 (by decide) ?_
              obtain ⟨r_11, h_11, hf⟩ := x_bi hf
              have hPc := hP.sub (ws' := [(o5, .inr (5, [.ref o7, .ref a5_1, .int v5_2, .int (r_8.1), .int v5_4, .int v5_5, .int (r_8.2), .int v5_7, .int v5_8, .int v5_9])), (a5_1, .inl (cyI, 400, .inl g5_1))]) [3, 4] rfl
              have hDc := hD.sub (ws' := [(o5, .inr (5, [.ref o7, .ref a5_1, .int v5_2, .int (r_8.1), .int v5_4, .int v5_5, .int (r_8.2), .int v5_7, .int v5_8, .int v5_9])), (a5_1, .inl (cyI, 400, .inl g5_1))]) [3, 4] (by decide) rfl
              have hFc := va_free (wc := [(o5, .inr (5, [.ref o7, .ref a5_1, .int v5_2, .int (r_8.1), .int v5_4, .int v5_5, .int (r_8.2), .int v5_7, .int v5_8, .int v5_9])), (a5_1, .inl (cyI, 400, .inl g5_1))]) hD hS hA [3, 4] rfl
              refine va_callv (va_runV (As := [.int 1]) (rest := []) ⟨hx, hb, hml, hown, hts⟩ (c_X5_pullKind l dC dI cyI cyZ cyJ H.size o5 o7 a5_1 v5_2 r_8.1 v5_4 v5_5 r_8.2 v5_7 v5_8 v5_9 g5_1 1 r_11 h_11) (cwV 1 hts gX6_branch_X5_pullKind rfl rfl rfl (by decide +kernel) ⟨Nat.le_of_ble_eq_true rfl, Nat.le_of_ble_eq_true rfl⟩) (x_pVD hN hK hPc hDc (ci := 5) (q0 := 0) rfl rfl) rfl rfl hl.1 rfl (lv_room (Nat.le_of_ble_eq_true rfl)) dX6_branch_110 ⟨Nat.le_of_ble_eq_true rfl, Nat.le_of_ble_eq_true rfl⟩) hS (fun q _ h => hFc q h) hFc (fun u t H1 locs ht hvm hw hB hz1 hk1 hS => ?_)
              obtain ⟨hP1, hK1, hD1⟩ := hB
              rw [ht] at hP1
              obtain ⟨hP, hD⟩ := va_join (wr := [(o0, .inr (0, [.int v0_0, .int v0_1, .int v0_2, .int v0_3, .int v0_4, .ref a0_5, .int v0_6, .ref a0_7, .ref a0_8, .ref a0_9, .int v0_10, .ref a0_11, .ref a0_12, .ref a0_13, .ref a0_14, .int v0_15, .ref a0_16])), (a0_7, .inl (cyI, 1000, .inl g0_7)), (o6, .inr (6, [.ref o7, .ref o4, .ref o0, .ref o5]))]) (w1 := [(o5, .inr (5, [.ref o7, .ref a5_1, .int v5_2, .int (r_11.1), .int v5_4, .int v5_5, .int (r_11.2), .int v5_7, .int v5_8, .int v5_9])), (a5_1, .inl (cyI, 400, .inl g5_1))]) hP hD [3, 4] [0, 1, 2] rfl rfl (by decide) (by decide) hk1 hFc hP1 hD1
              clear hz1 hk1 hPc hDc hFc hP1 hK1 hD1 ht hvm t u
              generalize H1 = H at hP hS ⊢
              have hP : va_P (dC, dI) vwCl [(o0, .inr (0, [.int v0_0, .int v0_1, .int v0_2, .int v0_3, .int v0_4, .ref a0_5, .int v0_6, .ref a0_7, .ref a0_8, .ref a0_9, .int v0_10, .ref a0_11, .ref a0_12, .ref a0_13, .ref a0_14, .int v0_15, .ref a0_16])), (a0_7, .inl (cyI, 1000, .inl g0_7)), (o6, .inr (6, [.ref o7, .ref o4, .ref o0, .ref o5])), (o5, .inr (5, [.ref o7, .ref a5_1, .int v5_2, .int (r_11.1), .int v5_4, .int v5_5, .int (r_11.2), .int v5_7, .int v5_8, .int v5_9])), (a5_1, .inl (cyI, 400, .inl g5_1))] H := hP
              have hD : va_D A [(o0, .inr (0, [.int v0_0, .int v0_1, .int v0_2, .int v0_3, .int v0_4, .ref a0_5, .int v0_6, .ref a0_7, .ref a0_8, .ref a0_9, .int v0_10, .ref a0_11, .ref a0_12, .ref a0_13, .ref a0_14, .int v0_15, .ref a0_16])), (a0_7, .inl (cyI, 1000, .inl g0_7)), (o6, .inr (6, [.ref o7, .ref o4, .ref o0, .ref o5])), (o5, .inr (5, [.ref o7, .ref a5_1, .int v5_2, .int (r_11.1), .int v5_4, .int v5_5, .int (r_11.2), .int v5_7, .int v5_8, .int v5_9])), (a5_1, .inl (cyI, 400, .inl g5_1))] := hD
              obtain rfl := Option.some.inj hf
              have hP9 := hP.sub (ws' := [(o0, .inr (0, [.int v0_0, .int v0_1, .int v0_2, .int v0_3, .int v0_4, .ref a0_5, .int v0_6, .ref a0_7, .ref a0_8, .ref a0_9, .int v0_10, .ref a0_11, .ref a0_12, .ref a0_13, .ref a0_14, .int v0_15, .ref a0_16])), (a0_7, .inl (cyI, 1000, .inl g0_7)), (o5, .inr (5, [.ref o7, .ref a5_1, .int v5_2, .int (r_11.1), .int v5_4, .int v5_5, .int (r_11.2), .int v5_7, .int v5_8, .int v5_9])), (a5_1, .inl (cyI, 400, .inl g5_1)), (o6, .inr (6, [.ref o7, .ref o4, .ref o0, .ref o5]))]) [0, 1, 3, 4, 2] rfl
              have hD9 := hD.sub (ws' := [(o0, .inr (0, [.int v0_0, .int v0_1, .int v0_2, .int v0_3, .int v0_4, .ref a0_5, .int v0_6, .ref a0_7, .ref a0_8, .ref a0_9, .int v0_10, .ref a0_11, .ref a0_12, .ref a0_13, .ref a0_14, .int v0_15, .ref a0_16])), (a0_7, .inl (cyI, 1000, .inl g0_7)), (o5, .inr (5, [.ref o7, .ref a5_1, .int v5_2, .int (r_11.1), .int v5_4, .int v5_5, .int (r_11.2), .int v5_7, .int v5_8, .int v5_9])), (a5_1, .inl (cyI, 400, .inl g5_1)), (o6, .inr (6, [.ref o7, .ref o4, .ref o0, .ref o5]))]) [0, 1, 3, 4, 2] (by decide) rfl
              exact W.vret hx hb hr (fun t ht hW => ⟨⟨(), rfl, trivial, by rw [ht]; exact hP9, va_K.moved hW.alike hK, hD9⟩, hS.F ht⟩) hS.2.2 dX6_branch_113
        · replace hf := x_in c_7 hf
          refine lv_iload_n hx hb dX6_branch_76 rfl (lv_at hl 0 rfl) ?_
          obtain ⟨r_12, h_12, hf⟩ := x_bi hf
          have hPc := hP.sub (ws' := []) [] rfl
          refine va_calli (va_runS (As := [.int (g0_7 (Int32.toNatClampNeg p1))]) (rest := []) ⟨hx, hb, hml, hown, hts⟩ (c_X0_isSwitch l dC dI cyI cyZ cyJ H.size (g0_7 (Int32.toNatClampNeg p1)) r_12 h_12) (va_cwS 1 hts gX6_branch_X0_isSwitch rfl rfl rfl (by decide +kernel) ⟨Nat.le_of_ble_eq_true rfl, Nat.le_of_ble_eq_true rfl⟩) (x_pS hN hK hPc) rfl rfl hl.1 rfl (lv_room (Nat.le_of_ble_eq_true rfl)) dX6_branch_77 ⟨Nat.le_of_ble_eq_true rfl, Nat.le_of_ble_eq_true rfl⟩) hS x_nA (x_nf hA hS) (fun q_12 u t H1 locs ht hvm hw hB hz1 hk1 hS => ?_)
          have hP := x_kp hP hk1
          clear ht hvm hB hz1 hk1 t u hPc
          generalize H1 = H at hP hS ⊢
          obtain ⟨hw, b_12⟩ := hw
          obtain rfl := hw.symm
          refine lv_if_eq (tgt := 113) hx hb dX6_branch_80 (by decide) (fun c_13 => ?_) (fun c_13 => ?_)
          · replace hf := x_ip c_13 hf
            obtain rfl := Option.some.inj hf
            have hP9 := hP.sub (ws' := [(o0, .inr (0, [.int v0_0, .int v0_1, .int v0_2, .int v0_3, .int v0_4, .ref a0_5, .int v0_6, .ref a0_7, .ref a0_8, .ref a0_9, .int v0_10, .ref a0_11, .ref a0_12, .ref a0_13, .ref a0_14, .int v0_15, .ref a0_16])), (a0_7, .inl (cyI, 1000, .inl g0_7)), (o5, .inr (5, [.ref o7, .ref a5_1, .int v5_2, .int v5_3, .int v5_4, .int v5_5, .int v5_6, .int v5_7, .int v5_8, .int v5_9])), (a5_1, .inl (cyI, 400, .inl g5_1)), (o6, .inr (6, [.ref o7, .ref o4, .ref o0, .ref o5]))]) [0, 1, 2, 3, 4] rfl
            have hD9 := hD.sub (ws' := [(o0, .inr (0, [.int v0_0, .int v0_1, .int v0_2, .int v0_3, .int v0_4, .ref a0_5, .int v0_6, .ref a0_7, .ref a0_8, .ref a0_9, .int v0_10, .ref a0_11, .ref a0_12, .ref a0_13, .ref a0_14, .int v0_15, .ref a0_16])), (a0_7, .inl (cyI, 1000, .inl g0_7)), (o5, .inr (5, [.ref o7, .ref a5_1, .int v5_2, .int v5_3, .int v5_4, .int v5_5, .int v5_6, .int v5_7, .int v5_8, .int v5_9])), (a5_1, .inl (cyI, 400, .inl g5_1)), (o6, .inr (6, [.ref o7, .ref o4, .ref o0, .ref o5]))]) [0, 1, 2, 3, 4] (by decide) rfl
            exact W.vret hx hb hr (fun t ht hW => ⟨⟨(), rfl, trivial, by rw [ht]; exact hP9, va_K.moved hW.alike hK, hD9⟩, hS.F ht⟩) hS.2.2 dX6_branch_113
          · replace hf := x_in c_13 hf
            refine lv_aload_n hx hb dX6_branch_83 rfl (lv_at hl 1 rfl) ?_
            refine va_get (D := (dC, dI)) (ci := 6) (v := .ref o5) (C := RX6) (T := TX6) (N := 4) hx hb hts i_X6_branch_X6 hown hK hP 4 rfl rfl 3 (by decide) k_2 (fun _ h9 => h9) rfl dX6_branch_84 ?_
            refine lv_iconst (v := 1) hx hb dX6_branch_87 (by decide) ?_
            obtain ⟨r_14, h_14, hf⟩ := x_bi hf
            have hPc := hP.sub (ws' := [(o5, .inr (5, [.ref o7, .ref a5_1, .int v5_2, .int v5_3, .int v5_4, .int v5_5, .int v5_6, .int v5_7, .int v5_8, .int v5_9])), (a5_1, .inl (cyI, 400, .inl g5_1))]) [2, 3] rfl
            have hDc := hD.sub (ws' := [(o5, .inr (5, [.ref o7, .ref a5_1, .int v5_2, .int v5_3, .int v5_4, .int v5_5, .int v5_6, .int v5_7, .int v5_8, .int v5_9])), (a5_1, .inl (cyI, 400, .inl g5_1))]) [2, 3] (by decide) rfl
            have hFc := va_free (wc := [(o5, .inr (5, [.ref o7, .ref a5_1, .int v5_2, .int v5_3, .int v5_4, .int v5_5, .int v5_6, .int v5_7, .int v5_8, .int v5_9])), (a5_1, .inl (cyI, 400, .inl g5_1))]) hD hS hA [2, 3] rfl
            refine va_callv (va_runV (As := [.int 1]) (rest := []) ⟨hx, hb, hml, hown, hts⟩ (c_X5_pullKind l dC dI cyI cyZ cyJ H.size o5 o7 a5_1 v5_2 v5_3 v5_4 v5_5 v5_6 v5_7 v5_8 v5_9 g5_1 1 r_14 h_14) (cwV 1 hts gX6_branch_X5_pullKind rfl rfl rfl (by decide +kernel) ⟨Nat.le_of_ble_eq_true rfl, Nat.le_of_ble_eq_true rfl⟩) (x_pVD hN hK hPc hDc (ci := 5) (q0 := 0) rfl rfl) rfl rfl hl.1 rfl (lv_room (Nat.le_of_ble_eq_true rfl)) dX6_branch_88 ⟨Nat.le_of_ble_eq_true rfl, Nat.le_of_ble_eq_true rfl⟩) hS (fun q _ h => hFc q h) hFc (fun u t H1 locs ht hvm hw hB hz1 hk1 hS => ?_)
            obtain ⟨hP1, hK1, hD1⟩ := hB
            rw [ht] at hP1
            obtain ⟨hP, hD⟩ := va_join (wr := [(o0, .inr (0, [.int v0_0, .int v0_1, .int v0_2, .int v0_3, .int v0_4, .ref a0_5, .int v0_6, .ref a0_7, .ref a0_8, .ref a0_9, .int v0_10, .ref a0_11, .ref a0_12, .ref a0_13, .ref a0_14, .int v0_15, .ref a0_16])), (a0_7, .inl (cyI, 1000, .inl g0_7)), (o6, .inr (6, [.ref o7, .ref o4, .ref o0, .ref o5]))]) (w1 := [(o5, .inr (5, [.ref o7, .ref a5_1, .int v5_2, .int (r_14.1), .int v5_4, .int v5_5, .int (r_14.2), .int v5_7, .int v5_8, .int v5_9])), (a5_1, .inl (cyI, 400, .inl g5_1))]) hP hD [2, 3] [0, 1, 4] rfl rfl (by decide) (by decide) hk1 hFc hP1 hD1
            clear hz1 hk1 hPc hDc hFc hP1 hK1 hD1 ht hvm t u
            generalize H1 = H at hP hS ⊢
            have hP : va_P (dC, dI) vwCl [(o0, .inr (0, [.int v0_0, .int v0_1, .int v0_2, .int v0_3, .int v0_4, .ref a0_5, .int v0_6, .ref a0_7, .ref a0_8, .ref a0_9, .int v0_10, .ref a0_11, .ref a0_12, .ref a0_13, .ref a0_14, .int v0_15, .ref a0_16])), (a0_7, .inl (cyI, 1000, .inl g0_7)), (o6, .inr (6, [.ref o7, .ref o4, .ref o0, .ref o5])), (o5, .inr (5, [.ref o7, .ref a5_1, .int v5_2, .int (r_14.1), .int v5_4, .int v5_5, .int (r_14.2), .int v5_7, .int v5_8, .int v5_9])), (a5_1, .inl (cyI, 400, .inl g5_1))] H := hP
            have hD : va_D A [(o0, .inr (0, [.int v0_0, .int v0_1, .int v0_2, .int v0_3, .int v0_4, .ref a0_5, .int v0_6, .ref a0_7, .ref a0_8, .ref a0_9, .int v0_10, .ref a0_11, .ref a0_12, .ref a0_13, .ref a0_14, .int v0_15, .ref a0_16])), (a0_7, .inl (cyI, 1000, .inl g0_7)), (o6, .inr (6, [.ref o7, .ref o4, .ref o0, .ref o5])), (o5, .inr (5, [.ref o7, .ref a5_1, .int v5_2, .int (r_14.1), .int v5_4, .int v5_5, .int (r_14.2), .int v5_7, .int v5_8, .int v5_9])), (a5_1, .inl (cyI, 400, .inl g5_1))] := hD
            refine lv_iload_n hx hb dX6_branch_91 rfl (lv_at hl 0 rfl) ?_
            refine lv_sipush (v := 159) hx hb dX6_branch_92 (by decide) ?_
            refine lv_icmp_lt (tgt := 113) hx hb dX6_branch_95 (by decide) (fun c_15 => ?_) (fun c_15 => ?_)
            · replace hf := x_ip c_15 hf
              obtain rfl := Option.some.inj hf
              have hP9 := hP.sub (ws' := [(o0, .inr (0, [.int v0_0, .int v0_1, .int v0_2, .int v0_3, .int v0_4, .ref a0_5, .int v0_6, .ref a0_7, .ref a0_8, .ref a0_9, .int v0_10, .ref a0_11, .ref a0_12, .ref a0_13, .ref a0_14, .int v0_15, .ref a0_16])), (a0_7, .inl (cyI, 1000, .inl g0_7)), (o5, .inr (5, [.ref o7, .ref a5_1, .int v5_2, .int (r_14.1), .int v5_4, .int v5_5, .int (r_14.2), .int v5_7, .int v5_8, .int v5_9])), (a5_1, .inl (cyI, 400, .inl g5_1)), (o6, .inr (6, [.ref o7, .ref o4, .ref o0, .ref o5]))]) [0, 1, 3, 4, 2] rfl
              have hD9 := hD.sub (ws' := [(o0, .inr (0, [.int v0_0, .int v0_1, .int v0_2, .int v0_3, .int v0_4, .ref a0_5, .int v0_6, .ref a0_7, .ref a0_8, .ref a0_9, .int v0_10, .ref a0_11, .ref a0_12, .ref a0_13, .ref a0_14, .int v0_15, .ref a0_16])), (a0_7, .inl (cyI, 1000, .inl g0_7)), (o5, .inr (5, [.ref o7, .ref a5_1, .int v5_2, .int (r_14.1), .int v5_4, .int v5_5, .int (r_14.2), .int v5_7, .int v5_8, .int v5_9])), (a5_1, .inl (cyI, 400, .inl g5_1)), (o6, .inr (6, [.ref o7, .ref o4, .ref o0, .ref o5]))]) [0, 1, 3, 4, 2] (by decide) rfl
              exact W.vret hx hb hr (fun t ht hW => ⟨⟨(), rfl, trivial, by rw [ht]; exact hP9, va_K.moved hW.alike hK, hD9⟩, hS.F ht⟩) hS.2.2 dX6_branch_113
            · replace hf := x_in c_15 hf
              refine lv_iload_n hx hb dX6_branch_98 rfl (lv_at hl 0 rfl) ?_
              refine lv_sipush (v := 164) hx hb dX6_branch_99 (by decide) ?_
              refine lv_icmp_gt (tgt := 113) hx hb dX6_branch_102 (by decide) (fun c_16 => ?_) (fun c_16 => ?_)
              · replace hf := x_ip c_16 hf
                obtain rfl := Option.some.inj hf
                have hP9 := hP.sub (ws' := [(o0, .inr (0, [.int v0_0, .int v0_1, .int v0_2, .int v0_3, .int v0_4, .ref a0_5, .int v0_6, .ref a0_7, .ref a0_8, .ref a0_9, .int v0_10, .ref a0_11, .ref a0_12, .ref a0_13, .ref a0_14, .int v0_15, .ref a0_16])), (a0_7, .inl (cyI, 1000, .inl g0_7)), (o5, .inr (5, [.ref o7, .ref a5_1, .int v5_2, .int (r_14.1), .int v5_4, .int v5_5, .int (r_14.2), .int v5_7, .int v5_8, .int v5_9])), (a5_1, .inl (cyI, 400, .inl g5_1)), (o6, .inr (6, [.ref o7, .ref o4, .ref o0, .ref o5]))]) [0, 1, 3, 4, 2] rfl
                have hD9 := hD.sub (ws' := [(o0, .inr (0, [.int v0_0, .int v0_1, .int v0_2, .int v0_3, .int v0_4, .ref a0_5, .int v0_6, .ref a0_7, .ref a0_8, .ref a0_9, .int v0_10, .ref a0_11, .ref a0_12, .ref a0_13, .ref a0_14, .int v0_15, .ref a0_16])), (a0_7, .inl (cyI, 1000, .inl g0_7)), (o5, .inr (5, [.ref o7, .ref a5_1, .int v5_2, .int (r_14.1), .int v5_4, .int v5_5, .int (r_14.2), .int v5_7, .int v5_8, .int v5_9])), (a5_1, .inl (cyI, 400, .inl g5_1)), (o6, .inr (6, [.ref o7, .ref o4, .ref o0, .ref o5]))]) [0, 1, 3, 4, 2] (by decide) rfl
                exact W.vret hx hb hr (fun t ht hW => ⟨⟨(), rfl, trivial, by rw [ht]; exact hP9, va_K.moved hW.alike hK, hD9⟩, hS.F ht⟩) hS.2.2 dX6_branch_113
              · replace hf := x_in c_16 hf
                refine lv_aload_n hx hb dX6_branch_105 rfl (lv_at hl 1 rfl) ?_
                refine va_get (D := (dC, dI)) (ci := 6) (v := .ref o5) (C := RX6) (T := TX6) (N := 4) hx hb hts i_X6_branch_X6 hown hK hP 2 rfl rfl 3 (by decide) k_2 (fun _ h9 => h9) rfl dX6_branch_106 ?_
                refine lv_iconst (v := 1) hx hb dX6_branch_109 (by decide) ?_
                obtain ⟨r_17, h_17, hf⟩ := x_bi hf
                have hPc := hP.sub (ws' := [(o5, .inr (5, [.ref o7, .ref a5_1, .int v5_2, .int (r_14.1), .int v5_4, .int v5_5, .int (r_14.2), .int v5_7, .int v5_8, .int v5_9])), (a5_1, .inl (cyI, 400, .inl g5_1))]) [3, 4] rfl
                have hDc := hD.sub (ws' := [(o5, .inr (5, [.ref o7, .ref a5_1, .int v5_2, .int (r_14.1), .int v5_4, .int v5_5, .int (r_14.2), .int v5_7, .int v5_8, .int v5_9])), (a5_1, .inl (cyI, 400, .inl g5_1))]) [3, 4] (by decide) rfl
                have hFc := va_free (wc := [(o5, .inr (5, [.ref o7, .ref a5_1, .int v5_2, .int (r_14.1), .int v5_4, .int v5_5, .int (r_14.2), .int v5_7, .int v5_8, .int v5_9])), (a5_1, .inl (cyI, 400, .inl g5_1))]) hD hS hA [3, 4] rfl
                refine va_callv (va_runV (As := [.int 1]) (rest := []) ⟨hx, hb, hml, hown, hts⟩ (c_X5_pullKind l dC dI cyI cyZ cyJ H.size o5 o7 a5_1 v5_2 r_14.1 v5_4 v5_5 r_14.2 v5_7 v5_8 v5_9 g5_1 1 r_17 h_17) (cwV 1 hts gX6_branch_X5_pullKind rfl rfl rfl (by decide +kernel) ⟨Nat.le_of_ble_eq_true rfl, Nat.le_of_ble_eq_true rfl⟩) (x_pVD hN hK hPc hDc (ci := 5) (q0 := 0) rfl rfl) rfl rfl hl.1 rfl (lv_room (Nat.le_of_ble_eq_true rfl)) dX6_branch_110 ⟨Nat.le_of_ble_eq_true rfl, Nat.le_of_ble_eq_true rfl⟩) hS (fun q _ h => hFc q h) hFc (fun u t H1 locs ht hvm hw hB hz1 hk1 hS => ?_)
                obtain ⟨hP1, hK1, hD1⟩ := hB
                rw [ht] at hP1
                obtain ⟨hP, hD⟩ := va_join (wr := [(o0, .inr (0, [.int v0_0, .int v0_1, .int v0_2, .int v0_3, .int v0_4, .ref a0_5, .int v0_6, .ref a0_7, .ref a0_8, .ref a0_9, .int v0_10, .ref a0_11, .ref a0_12, .ref a0_13, .ref a0_14, .int v0_15, .ref a0_16])), (a0_7, .inl (cyI, 1000, .inl g0_7)), (o6, .inr (6, [.ref o7, .ref o4, .ref o0, .ref o5]))]) (w1 := [(o5, .inr (5, [.ref o7, .ref a5_1, .int v5_2, .int (r_17.1), .int v5_4, .int v5_5, .int (r_17.2), .int v5_7, .int v5_8, .int v5_9])), (a5_1, .inl (cyI, 400, .inl g5_1))]) hP hD [3, 4] [0, 1, 2] rfl rfl (by decide) (by decide) hk1 hFc hP1 hD1
                clear hz1 hk1 hPc hDc hFc hP1 hK1 hD1 ht hvm t u
                generalize H1 = H at hP hS ⊢
                have hP : va_P (dC, dI) vwCl [(o0, .inr (0, [.int v0_0, .int v0_1, .int v0_2, .int v0_3, .int v0_4, .ref a0_5, .int v0_6, .ref a0_7, .ref a0_8, .ref a0_9, .int v0_10, .ref a0_11, .ref a0_12, .ref a0_13, .ref a0_14, .int v0_15, .ref a0_16])), (a0_7, .inl (cyI, 1000, .inl g0_7)), (o6, .inr (6, [.ref o7, .ref o4, .ref o0, .ref o5])), (o5, .inr (5, [.ref o7, .ref a5_1, .int v5_2, .int (r_17.1), .int v5_4, .int v5_5, .int (r_17.2), .int v5_7, .int v5_8, .int v5_9])), (a5_1, .inl (cyI, 400, .inl g5_1))] H := hP
                have hD : va_D A [(o0, .inr (0, [.int v0_0, .int v0_1, .int v0_2, .int v0_3, .int v0_4, .ref a0_5, .int v0_6, .ref a0_7, .ref a0_8, .ref a0_9, .int v0_10, .ref a0_11, .ref a0_12, .ref a0_13, .ref a0_14, .int v0_15, .ref a0_16])), (a0_7, .inl (cyI, 1000, .inl g0_7)), (o6, .inr (6, [.ref o7, .ref o4, .ref o0, .ref o5])), (o5, .inr (5, [.ref o7, .ref a5_1, .int v5_2, .int (r_17.1), .int v5_4, .int v5_5, .int (r_17.2), .int v5_7, .int v5_8, .int v5_9])), (a5_1, .inl (cyI, 400, .inl g5_1))] := hD
                obtain rfl := Option.some.inj hf
                have hP9 := hP.sub (ws' := [(o0, .inr (0, [.int v0_0, .int v0_1, .int v0_2, .int v0_3, .int v0_4, .ref a0_5, .int v0_6, .ref a0_7, .ref a0_8, .ref a0_9, .int v0_10, .ref a0_11, .ref a0_12, .ref a0_13, .ref a0_14, .int v0_15, .ref a0_16])), (a0_7, .inl (cyI, 1000, .inl g0_7)), (o5, .inr (5, [.ref o7, .ref a5_1, .int v5_2, .int (r_17.1), .int v5_4, .int v5_5, .int (r_17.2), .int v5_7, .int v5_8, .int v5_9])), (a5_1, .inl (cyI, 400, .inl g5_1)), (o6, .inr (6, [.ref o7, .ref o4, .ref o0, .ref o5]))]) [0, 1, 3, 4, 2] rfl
                have hD9 := hD.sub (ws' := [(o0, .inr (0, [.int v0_0, .int v0_1, .int v0_2, .int v0_3, .int v0_4, .ref a0_5, .int v0_6, .ref a0_7, .ref a0_8, .ref a0_9, .int v0_10, .ref a0_11, .ref a0_12, .ref a0_13, .ref a0_14, .int v0_15, .ref a0_16])), (a0_7, .inl (cyI, 1000, .inl g0_7)), (o5, .inr (5, [.ref o7, .ref a5_1, .int v5_2, .int (r_17.1), .int v5_4, .int v5_5, .int (r_17.2), .int v5_7, .int v5_8, .int v5_9])), (a5_1, .inl (cyI, 400, .inl g5_1)), (o6, .inr (6, [.ref o7, .ref o4, .ref o0, .ref o5]))]) [0, 1, 3, 4, 2] (by decide) rfl
                exact W.vret hx hb hr (fun t ht hW => ⟨⟨(), rfl, trivial, by rw [ht]; exact hP9, va_K.moved hW.alike hK, hD9⟩, hS.F ht⟩) hS.2.2 dX6_branch_113
      · replace hf := x_ip c_6 hf
        refine lv_aload_n hx hb dX6_branch_50 rfl (lv_at hl 1 rfl) ?_
        refine va_get (D := (dC, dI)) (ci := 6) (v := .ref o5) (C := RX6) (T := TX6) (N := 4) hx hb hts i_X6_branch_X6 hown hK hP 4 rfl rfl 3 (by decide) k_2 (fun _ h9 => h9) rfl dX6_branch_51 ?_
        obtain ⟨r_18, h_18, hf⟩ := x_bi hf
        have hPc := hP.sub (ws' := [(o5, .inr (5, [.ref o7, .ref a5_1, .int v5_2, .int v5_3, .int v5_4, .int v5_5, .int v5_6, .int v5_7, .int v5_8, .int v5_9])), (a5_1, .inl (cyI, 400, .inl g5_1))]) [2, 3] rfl
        have hDc := hD.sub (ws' := [(o5, .inr (5, [.ref o7, .ref a5_1, .int v5_2, .int v5_3, .int v5_4, .int v5_5, .int v5_6, .int v5_7, .int v5_8, .int v5_9])), (a5_1, .inl (cyI, 400, .inl g5_1))]) [2, 3] (by decide) rfl
        have hFc := va_free (wc := [(o5, .inr (5, [.ref o7, .ref a5_1, .int v5_2, .int v5_3, .int v5_4, .int v5_5, .int v5_6, .int v5_7, .int v5_8, .int v5_9])), (a5_1, .inl (cyI, 400, .inl g5_1))]) hD hS hA [2, 3] rfl
        refine va_calli (va_runV (As := []) (rest := []) ⟨hx, hb, hml, hown, hts⟩ (c_X5_pullReference l dC dI cyI cyZ cyJ H.size o5 o7 a5_1 v5_2 v5_3 v5_4 v5_5 v5_6 v5_7 v5_8 v5_9 g5_1 r_18 h_18) (cwV 0 hts gX6_branch_X5_pullReference rfl rfl rfl (by decide +kernel) ⟨Nat.le_of_ble_eq_true rfl, Nat.le_of_ble_eq_true rfl⟩) (x_pVD hN hK hPc hDc (ci := 5) (q0 := 0) rfl rfl) rfl rfl hl.1 rfl (lv_room (Nat.le_of_ble_eq_true rfl)) dX6_branch_54 ⟨Nat.le_of_ble_eq_true rfl, Nat.le_of_ble_eq_true rfl⟩) hS (fun q _ h => hFc q h) hFc (fun q_18 u t H1 locs ht hvm hw hB hz1 hk1 hS => ?_)
        obtain ⟨hP1, hK1, hD1⟩ := hB
        rw [ht] at hP1
        obtain ⟨hP, hD⟩ := va_join (wr := [(o0, .inr (0, [.int v0_0, .int v0_1, .int v0_2, .int v0_3, .int v0_4, .ref a0_5, .int v0_6, .ref a0_7, .ref a0_8, .ref a0_9, .int v0_10, .ref a0_11, .ref a0_12, .ref a0_13, .ref a0_14, .int v0_15, .ref a0_16])), (a0_7, .inl (cyI, 1000, .inl g0_7)), (o6, .inr (6, [.ref o7, .ref o4, .ref o0, .ref o5]))]) (w1 := [(o5, .inr (5, [.ref o7, .ref a5_1, .int v5_2, .int (r_18.2.1), .int v5_4, .int v5_5, .int (r_18.2.2), .int v5_7, .int v5_8, .int v5_9])), (a5_1, .inl (cyI, 400, .inl g5_1))]) hP hD [2, 3] [0, 1, 4] rfl rfl (by decide) (by decide) hk1 hFc hP1 hD1
        clear hz1 hk1 hPc hDc hFc hP1 hK1 hD1 ht hvm t u
        generalize H1 = H at hP hS ⊢
        have hP : va_P (dC, dI) vwCl [(o0, .inr (0, [.int v0_0, .int v0_1, .int v0_2, .int v0_3, .int v0_4, .ref a0_5, .int v0_6, .ref a0_7, .ref a0_8, .ref a0_9, .int v0_10, .ref a0_11, .ref a0_12, .ref a0_13, .ref a0_14, .int v0_15, .ref a0_16])), (a0_7, .inl (cyI, 1000, .inl g0_7)), (o6, .inr (6, [.ref o7, .ref o4, .ref o0, .ref o5])), (o5, .inr (5, [.ref o7, .ref a5_1, .int v5_2, .int (r_18.2.1), .int v5_4, .int v5_5, .int (r_18.2.2), .int v5_7, .int v5_8, .int v5_9])), (a5_1, .inl (cyI, 400, .inl g5_1))] H := hP
        have hD : va_D A [(o0, .inr (0, [.int v0_0, .int v0_1, .int v0_2, .int v0_3, .int v0_4, .ref a0_5, .int v0_6, .ref a0_7, .ref a0_8, .ref a0_9, .int v0_10, .ref a0_11, .ref a0_12, .ref a0_13, .ref a0_14, .int v0_15, .ref a0_16])), (a0_7, .inl (cyI, 1000, .inl g0_7)), (o6, .inr (6, [.ref o7, .ref o4, .ref o0, .ref o5])), (o5, .inr (5, [.ref o7, .ref a5_1, .int v5_2, .int (r_18.2.1), .int v5_4, .int v5_5, .int (r_18.2.2), .int v5_7, .int v5_8, .int v5_9])), (a5_1, .inl (cyI, 400, .inl g5_1))] := hD
        obtain rfl := hw.symm
        refine lv_pop hx hb dX6_branch_57 rfl ?_
        refine lv_aload_n hx hb dX6_branch_58 rfl (lv_at hl 1 rfl) ?_
        refine va_get (D := (dC, dI)) (ci := 6) (v := .ref o5) (C := RX6) (T := TX6) (N := 4) hx hb hts i_X6_branch_X6 hown hK hP 2 rfl rfl 3 (by decide) k_2 (fun _ h9 => h9) rfl dX6_branch_59 ?_
        obtain ⟨r_19, h_19, hf⟩ := x_bi hf
        have hPc := hP.sub (ws' := [(o5, .inr (5, [.ref o7, .ref a5_1, .int v5_2, .int (r_18.2.1), .int v5_4, .int v5_5, .int (r_18.2.2), .int v5_7, .int v5_8, .int v5_9])), (a5_1, .inl (cyI, 400, .inl g5_1))]) [3, 4] rfl
        have hDc := hD.sub (ws' := [(o5, .inr (5, [.ref o7, .ref a5_1, .int v5_2, .int (r_18.2.1), .int v5_4, .int v5_5, .int (r_18.2.2), .int v5_7, .int v5_8, .int v5_9])), (a5_1, .inl (cyI, 400, .inl g5_1))]) [3, 4] (by decide) rfl
        have hFc := va_free (wc := [(o5, .inr (5, [.ref o7, .ref a5_1, .int v5_2, .int (r_18.2.1), .int v5_4, .int v5_5, .int (r_18.2.2), .int v5_7, .int v5_8, .int v5_9])), (a5_1, .inl (cyI, 400, .inl g5_1))]) hD hS hA [3, 4] rfl
        refine va_calli (va_runV (As := []) (rest := []) ⟨hx, hb, hml, hown, hts⟩ (c_X5_pullReference l dC dI cyI cyZ cyJ H.size o5 o7 a5_1 v5_2 r_18.2.1 v5_4 v5_5 r_18.2.2 v5_7 v5_8 v5_9 g5_1 r_19 h_19) (cwV 0 hts gX6_branch_X5_pullReference rfl rfl rfl (by decide +kernel) ⟨Nat.le_of_ble_eq_true rfl, Nat.le_of_ble_eq_true rfl⟩) (x_pVD hN hK hPc hDc (ci := 5) (q0 := 0) rfl rfl) rfl rfl hl.1 rfl (lv_room (Nat.le_of_ble_eq_true rfl)) dX6_branch_62 ⟨Nat.le_of_ble_eq_true rfl, Nat.le_of_ble_eq_true rfl⟩) hS (fun q _ h => hFc q h) hFc (fun q_19 u t H1 locs ht hvm hw hB hz1 hk1 hS => ?_)
        obtain ⟨hP1, hK1, hD1⟩ := hB
        rw [ht] at hP1
        obtain ⟨hP, hD⟩ := va_join (wr := [(o0, .inr (0, [.int v0_0, .int v0_1, .int v0_2, .int v0_3, .int v0_4, .ref a0_5, .int v0_6, .ref a0_7, .ref a0_8, .ref a0_9, .int v0_10, .ref a0_11, .ref a0_12, .ref a0_13, .ref a0_14, .int v0_15, .ref a0_16])), (a0_7, .inl (cyI, 1000, .inl g0_7)), (o6, .inr (6, [.ref o7, .ref o4, .ref o0, .ref o5]))]) (w1 := [(o5, .inr (5, [.ref o7, .ref a5_1, .int v5_2, .int (r_19.2.1), .int v5_4, .int v5_5, .int (r_19.2.2), .int v5_7, .int v5_8, .int v5_9])), (a5_1, .inl (cyI, 400, .inl g5_1))]) hP hD [3, 4] [0, 1, 2] rfl rfl (by decide) (by decide) hk1 hFc hP1 hD1
        clear hz1 hk1 hPc hDc hFc hP1 hK1 hD1 ht hvm t u
        generalize H1 = H at hP hS ⊢
        have hP : va_P (dC, dI) vwCl [(o0, .inr (0, [.int v0_0, .int v0_1, .int v0_2, .int v0_3, .int v0_4, .ref a0_5, .int v0_6, .ref a0_7, .ref a0_8, .ref a0_9, .int v0_10, .ref a0_11, .ref a0_12, .ref a0_13, .ref a0_14, .int v0_15, .ref a0_16])), (a0_7, .inl (cyI, 1000, .inl g0_7)), (o6, .inr (6, [.ref o7, .ref o4, .ref o0, .ref o5])), (o5, .inr (5, [.ref o7, .ref a5_1, .int v5_2, .int (r_19.2.1), .int v5_4, .int v5_5, .int (r_19.2.2), .int v5_7, .int v5_8, .int v5_9])), (a5_1, .inl (cyI, 400, .inl g5_1))] H := hP
        have hD : va_D A [(o0, .inr (0, [.int v0_0, .int v0_1, .int v0_2, .int v0_3, .int v0_4, .ref a0_5, .int v0_6, .ref a0_7, .ref a0_8, .ref a0_9, .int v0_10, .ref a0_11, .ref a0_12, .ref a0_13, .ref a0_14, .int v0_15, .ref a0_16])), (a0_7, .inl (cyI, 1000, .inl g0_7)), (o6, .inr (6, [.ref o7, .ref o4, .ref o0, .ref o5])), (o5, .inr (5, [.ref o7, .ref a5_1, .int v5_2, .int (r_19.2.1), .int v5_4, .int v5_5, .int (r_19.2.2), .int v5_7, .int v5_8, .int v5_9])), (a5_1, .inl (cyI, 400, .inl g5_1))] := hD
        obtain rfl := hw.symm
        refine lv_pop hx hb dX6_branch_65 rfl ?_
        refine lv_goto (tgt := 113) hx hb dX6_branch_66 (by decide) ?_
        obtain rfl := Option.some.inj hf
        have hP9 := hP.sub (ws' := [(o0, .inr (0, [.int v0_0, .int v0_1, .int v0_2, .int v0_3, .int v0_4, .ref a0_5, .int v0_6, .ref a0_7, .ref a0_8, .ref a0_9, .int v0_10, .ref a0_11, .ref a0_12, .ref a0_13, .ref a0_14, .int v0_15, .ref a0_16])), (a0_7, .inl (cyI, 1000, .inl g0_7)), (o5, .inr (5, [.ref o7, .ref a5_1, .int v5_2, .int (r_19.2.1), .int v5_4, .int v5_5, .int (r_19.2.2), .int v5_7, .int v5_8, .int v5_9])), (a5_1, .inl (cyI, 400, .inl g5_1)), (o6, .inr (6, [.ref o7, .ref o4, .ref o0, .ref o5]))]) [0, 1, 3, 4, 2] rfl
        have hD9 := hD.sub (ws' := [(o0, .inr (0, [.int v0_0, .int v0_1, .int v0_2, .int v0_3, .int v0_4, .ref a0_5, .int v0_6, .ref a0_7, .ref a0_8, .ref a0_9, .int v0_10, .ref a0_11, .ref a0_12, .ref a0_13, .ref a0_14, .int v0_15, .ref a0_16])), (a0_7, .inl (cyI, 1000, .inl g0_7)), (o5, .inr (5, [.ref o7, .ref a5_1, .int v5_2, .int (r_19.2.1), .int v5_4, .int v5_5, .int (r_19.2.2), .int v5_7, .int v5_8, .int v5_9])), (a5_1, .inl (cyI, 400, .inl g5_1)), (o6, .inr (6, [.ref o7, .ref o4, .ref o0, .ref o5]))]) [0, 1, 3, 4, 2] (by decide) rfl
        exact W.vret hx hb hr (fun t ht hW => ⟨⟨(), rfl, trivial, by rw [ht]; exact hP9, va_K.moved hW.alike hK, hD9⟩, hS.F ht⟩) hS.2.2 dX6_branch_113
  · replace hf := x_ip c_2 hf
    refine lv_aload_n hx hb dX6_branch_17 rfl (lv_at hl 1 rfl) ?_
    refine va_get (D := (dC, dI)) (ci := 6) (v := .ref o5) (C := RX6) (T := TX6) (N := 4) hx hb hts i_X6_branch_X6 hown hK hP 4 rfl rfl 3 (by decide) k_2 (fun _ h9 => h9) rfl dX6_branch_18 ?_
    refine lv_bipush (v := 16) hx hb dX6_branch_21 (by decide) ?_
    refine lv_iload_n hx hb dX6_branch_23 rfl (lv_at hl 2 rfl) ?_
    refine lv_iconst (v := 1) hx hb dX6_branch_24 (by decide) ?_
    refine lv_iadd hx hb dX6_branch_25 ?_
    refine lv_imul hx hb dX6_branch_26 ?_
    refine lv_bipush (v := 10) hx hb dX6_branch_27 (by decide) ?_
    refine lv_iadd hx hb dX6_branch_29 ?_
    obtain ⟨r_20, h_20, hf⟩ := x_bi hf
    have hPc := hP.sub (ws' := [(o5, .inr (5, [.ref o7, .ref a5_1, .int v5_2, .int v5_3, .int v5_4, .int v5_5, .int v5_6, .int v5_7, .int v5_8, .int v5_9])), (a5_1, .inl (cyI, 400, .inl g5_1))]) [2, 3] rfl
    have hDc := hD.sub (ws' := [(o5, .inr (5, [.ref o7, .ref a5_1, .int v5_2, .int v5_3, .int v5_4, .int v5_5, .int v5_6, .int v5_7, .int v5_8, .int v5_9])), (a5_1, .inl (cyI, 400, .inl g5_1))]) [2, 3] (by decide) rfl
    have hFc := va_free (wc := [(o5, .inr (5, [.ref o7, .ref a5_1, .int v5_2, .int v5_3, .int v5_4, .int v5_5, .int v5_6, .int v5_7, .int v5_8, .int v5_9])), (a5_1, .inl (cyI, 400, .inl g5_1))]) hD hS hA [2, 3] rfl
    refine va_callv (va_runV (As := [.int (((16 : Int32) * (p1 + (1 : Int32))) + (10 : Int32))]) (rest := []) ⟨hx, hb, hml, hown, hts⟩ (c_X5_push l dC dI cyI cyZ cyJ H.size o5 o7 a5_1 v5_2 v5_3 v5_4 v5_5 v5_6 v5_7 v5_8 v5_9 g5_1 (((16 : Int32) * (p1 + (1 : Int32))) + (10 : Int32)) r_20 h_20) (cwV 1 hts gX6_branch_X5_push rfl rfl rfl (by decide +kernel) ⟨Nat.le_of_ble_eq_true rfl, Nat.le_of_ble_eq_true rfl⟩) (x_pVD hN hK hPc hDc (ci := 5) (q0 := 0) rfl rfl) rfl rfl hl.1 rfl (lv_room (Nat.le_of_ble_eq_true rfl)) dX6_branch_30 ⟨Nat.le_of_ble_eq_true rfl, Nat.le_of_ble_eq_true rfl⟩) hS (fun q _ h => hFc q h) hFc (fun u t H1 locs ht hvm hw hB hz1 hk1 hS => ?_)
    obtain ⟨hP1, hK1, hD1⟩ := hB
    rw [ht] at hP1
    obtain ⟨hP, hD⟩ := va_join (wr := [(o0, .inr (0, [.int v0_0, .int v0_1, .int v0_2, .int v0_3, .int v0_4, .ref a0_5, .int v0_6, .ref a0_7, .ref a0_8, .ref a0_9, .int v0_10, .ref a0_11, .ref a0_12, .ref a0_13, .ref a0_14, .int v0_15, .ref a0_16])), (a0_7, .inl (cyI, 1000, .inl g0_7)), (o6, .inr (6, [.ref o7, .ref o4, .ref o0, .ref o5]))]) (w1 := [(o5, .inr (5, [.ref o7, .ref a5_1, .int v5_2, .int (r_20.1), .int v5_4, .int v5_5, .int (r_20.2.1), .int v5_7, .int v5_8, .int v5_9])), (a5_1, .inl (cyI, 400, .inl r_20.2.2))]) hP hD [2, 3] [0, 1, 4] rfl rfl (by decide) (by decide) hk1 hFc hP1 hD1
    clear hz1 hk1 hPc hDc hFc hP1 hK1 hD1 ht hvm t u
    generalize H1 = H at hP hS ⊢
    have hP : va_P (dC, dI) vwCl [(o0, .inr (0, [.int v0_0, .int v0_1, .int v0_2, .int v0_3, .int v0_4, .ref a0_5, .int v0_6, .ref a0_7, .ref a0_8, .ref a0_9, .int v0_10, .ref a0_11, .ref a0_12, .ref a0_13, .ref a0_14, .int v0_15, .ref a0_16])), (a0_7, .inl (cyI, 1000, .inl g0_7)), (o6, .inr (6, [.ref o7, .ref o4, .ref o0, .ref o5])), (o5, .inr (5, [.ref o7, .ref a5_1, .int v5_2, .int (r_20.1), .int v5_4, .int v5_5, .int (r_20.2.1), .int v5_7, .int v5_8, .int v5_9])), (a5_1, .inl (cyI, 400, .inl r_20.2.2))] H := hP
    have hD : va_D A [(o0, .inr (0, [.int v0_0, .int v0_1, .int v0_2, .int v0_3, .int v0_4, .ref a0_5, .int v0_6, .ref a0_7, .ref a0_8, .ref a0_9, .int v0_10, .ref a0_11, .ref a0_12, .ref a0_13, .ref a0_14, .int v0_15, .ref a0_16])), (a0_7, .inl (cyI, 1000, .inl g0_7)), (o6, .inr (6, [.ref o7, .ref o4, .ref o0, .ref o5])), (o5, .inr (5, [.ref o7, .ref a5_1, .int v5_2, .int (r_20.1), .int v5_4, .int v5_5, .int (r_20.2.1), .int v5_7, .int v5_8, .int v5_9])), (a5_1, .inl (cyI, 400, .inl r_20.2.2))] := hD
    refine lv_goto (tgt := 113) hx hb dX6_branch_33 (by decide) ?_
    obtain rfl := Option.some.inj hf
    have hP9 := hP.sub (ws' := [(o0, .inr (0, [.int v0_0, .int v0_1, .int v0_2, .int v0_3, .int v0_4, .ref a0_5, .int v0_6, .ref a0_7, .ref a0_8, .ref a0_9, .int v0_10, .ref a0_11, .ref a0_12, .ref a0_13, .ref a0_14, .int v0_15, .ref a0_16])), (a0_7, .inl (cyI, 1000, .inl g0_7)), (o5, .inr (5, [.ref o7, .ref a5_1, .int v5_2, .int (r_20.1), .int v5_4, .int v5_5, .int (r_20.2.1), .int v5_7, .int v5_8, .int v5_9])), (a5_1, .inl (cyI, 400, .inl r_20.2.2)), (o6, .inr (6, [.ref o7, .ref o4, .ref o0, .ref o5]))]) [0, 1, 3, 4, 2] rfl
    have hD9 := hD.sub (ws' := [(o0, .inr (0, [.int v0_0, .int v0_1, .int v0_2, .int v0_3, .int v0_4, .ref a0_5, .int v0_6, .ref a0_7, .ref a0_8, .ref a0_9, .int v0_10, .ref a0_11, .ref a0_12, .ref a0_13, .ref a0_14, .int v0_15, .ref a0_16])), (a0_7, .inl (cyI, 1000, .inl g0_7)), (o5, .inr (5, [.ref o7, .ref a5_1, .int v5_2, .int (r_20.1), .int v5_4, .int v5_5, .int (r_20.2.1), .int v5_7, .int v5_8, .int v5_9])), (a5_1, .inl (cyI, 400, .inl r_20.2.2)), (o6, .inr (6, [.ref o7, .ref o4, .ref o0, .ref o5]))]) [0, 1, 3, 4, 2] (by decide) rfl
    exact W.vret hx hb hr (fun t ht hW => ⟨⟨(), rfl, trivial, by rw [ht]; exact hP9, va_K.moved hW.alike hK, hD9⟩, hS.F ht⟩) hS.2.2 dX6_branch_113

def f_X6_leave (v7_2 : Int32) (g7_0 : Nat → Int32) (g7_1 : Nat → Int32) (v0_1 : Int32) (v0_2 : Int32) (v5_2 : Int32) (v5_3 : Int32) (v5_5 : Int32) (v5_6 : Int32) (v5_8 : Int32) (v5_9 : Int32) (g5_1 : Nat → Int32) (p1 : Int32) : Option (Int32 × Int32 × Int32) := if p1 = (5 : Int32) then if v0_2 = (-1 : Int32) then if v0_1 = (2 : Int32) then if v5_5 = (1 : Int32) then if (5 : Int32) ≤ p1 then some (v5_3, v5_6, v5_8) else (f_X5_pullType v7_2 g7_0 g7_1 v5_2 v5_3 v5_6 v5_8 v5_9 g5_1 v0_2) >>= (fun r_29 => some (r_29.1, r_29.2.1, r_29.2.2)) else some (v5_3, 1, v5_8) else if (5 : Int32) ≤ p1 then some (v5_3, v5_6, v5_8) else (f_X5_pullType v7_2 g7_0 g7_1 v5_2 v5_3 v5_6 v5_8 v5_9 g5_1 v0_2) >>= (fun r_24 => some (r_24.1, r_24.2.1, r_24.2.2)) else some (v5_3, 1, v5_8) else if v0_2 = (-1 : Int32) then some (v5_3, 1, v5_8) else if p1 = (4 : Int32) then (f_X7_isPrimitive v0_2) >>= (fun r_13 => if r_13 = (0 : Int32) then if (5 : Int32) ≤ p1 then some (v5_3, v5_6, v5_8) else (f_X5_pullType v7_2 g7_0 g7_1 v5_2 v5_3 v5_6 v5_8 v5_9 g5_1 v0_2) >>= (fun r_18 => some (r_18.1, r_18.2.1, r_18.2.2)) else some (v5_3, 1, v5_8)) else (f_X7_placeOf v0_2) >>= (fun r_5 => if x_gd p1 4 = true then if r_5 = (x_st3 (Int32.toNatClampNeg p1)) then if (5 : Int32) ≤ p1 then some (v5_3, v5_6, v5_8) else (f_X5_pullType v7_2 g7_0 g7_1 v5_2 v5_3 v5_6 v5_8 v5_9 g5_1 v0_2) >>= (fun r_12 => some (r_12.1, r_12.2.1, r_12.2.2)) else some (v5_3, 1, v5_8) else none)
theorem i_X6_leave_X0 : ∀ w ∈ wsX00, w ∈ wsX6_leave := fun _ h => List.mem_cons_of_mem _ (List.mem_append_left _ (List.mem_append_left _ (List.mem_append_right _ h)))
theorem i_X6_leave_X5 : ∀ w ∈ wsX50, w ∈ wsX6_leave := fun _ h => List.mem_cons_of_mem _ (List.mem_append_left _ (List.mem_append_right _ h))
theorem i_X6_leave_X6 : ∀ w ∈ wsX60, w ∈ wsX6_leave := fun _ h => List.mem_cons_of_mem _ (List.mem_append_left _ (List.mem_append_left _ (List.mem_append_left _ (List.mem_append_right _ h))))
set_option maxHeartbeats 4000000 in
set_option maxRecDepth 100000 in
theorem c_X6_leave (l : Launch) (dC : Nat → ClassId) (dI : Nat → Nat → Nat) (cyI cyZ cyJ : ClassId) (sz : Nat) (base : Nat) (o7 : Nat) (a7_0 : Nat) (a7_1 : Nat) (v7_2 : Int32) (g7_0 : Nat → Int32) (g7_1 : Nat → Int32) (o0 : Nat) (v0_0 : Int32) (v0_1 : Int32) (v0_2 : Int32) (v0_3 : Int32) (v0_4 : Int32) (a0_5 : Nat) (v0_6 : Int32) (a0_7 : Nat) (a0_8 : Nat) (a0_9 : Nat) (v0_10 : Int32) (a0_11 : Nat) (a0_12 : Nat) (a0_13 : Nat) (a0_14 : Nat) (v0_15 : Int32) (a0_16 : Nat) (o5 : Nat) (a5_1 : Nat) (v5_2 : Int32) (v5_3 : Int32) (v5_4 : Int32) (v5_5 : Int32) (v5_6 : Int32) (v5_7 : Int32) (v5_8 : Int32) (v5_9 : Int32) (g5_1 : Nat → Int32) (o6 : Nat) (o4 : Nat) (p1 : Int32) (R : Int32 × Int32 × Int32) (hf : f_X6_leave v7_2 g7_0 g7_1 v0_1 v0_2 v5_2 v5_3 v5_5 v5_6 v5_8 v5_9 g5_1 p1 = some R) : Met l yX6_leave wsX6_leave ({ frames := 3, cells := 0, slots := 0, locals := 72 }) (va_Pc [.ref o6, .int p1] (x_PreT (dC, dI) (x_T cyI cyZ cyJ) [(o7, .inr (7, [.ref a7_0, .ref a7_1, .int v7_2])), (a7_0, .inl (cyI, 200, .inl g7_0)), (a7_1, .inl (cyZ, 200, .inl g7_1)), (o0, .inr (0, [.int v0_0, .int v0_1, .int v0_2, .int v0_3, .int v0_4, .ref a0_5, .int v0_6, .ref a0_7, .ref a0_8, .ref a0_9, .int v0_10, .ref a0_11, .ref a0_12, .ref a0_13, .ref a0_14, .int v0_15, .ref a0_16])), (o5, .inr (5, [.ref o7, .ref a5_1, .int v5_2, .int v5_3, .int v5_4, .int v5_5, .int v5_6, .int v5_7, .int v5_8, .int v5_9])), (a5_1, .inl (cyI, 400, .inl g5_1)), (o6, .inr (6, [.ref o7, .ref o4, .ref o0, .ref o5]))] base sz)) (va_Qv (fun _ : Unit => True) (fun (_ : Unit) (t : State) => va_P (dC, dI) vwCl [(o7, .inr (7, [.ref a7_0, .ref a7_1, .int v7_2])), (a7_0, .inl (cyI, 200, .inl g7_0)), (a7_1, .inl (cyZ, 200, .inl g7_1)), (o0, .inr (0, [.int v0_0, .int v0_1, .int v0_2, .int v0_3, .int v0_4, .ref a0_5, .int v0_6, .ref a0_7, .ref a0_8, .ref a0_9, .int v0_10, .ref a0_11, .ref a0_12, .ref a0_13, .ref a0_14, .int v0_15, .ref a0_16])), (o5, .inr (5, [.ref o7, .ref a5_1, .int v5_2, .int (R.1), .int v5_4, .int v5_5, .int (R.2.1), .int v5_7, .int (R.2.2), .int v5_9])), (a5_1, .inl (cyI, 400, .inl g5_1)), (o6, .inr (6, [.ref o7, .ref o4, .ref o0, .ref o5]))] t.heap ∧ va_K (dC, dI) vwCl (x_T cyI cyZ cyJ) t ∧ va_D (va_A [(o7, .inr (7, [.ref a7_0, .ref a7_1, .int v7_2])), (a7_0, .inl (cyI, 200, .inl g7_0)), (a7_1, .inl (cyZ, 200, .inl g7_1)), (o0, .inr (0, [.int v0_0, .int v0_1, .int v0_2, .int v0_3, .int v0_4, .ref a0_5, .int v0_6, .ref a0_7, .ref a0_8, .ref a0_9, .int v0_10, .ref a0_11, .ref a0_12, .ref a0_13, .ref a0_14, .int v0_15, .ref a0_16])), (o5, .inr (5, [.ref o7, .ref a5_1, .int v5_2, .int v5_3, .int v5_4, .int v5_5, .int v5_6, .int v5_7, .int v5_8, .int v5_9])), (a5_1, .inl (cyI, 400, .inl g5_1)), (o6, .inr (6, [.ref o7, .ref o4, .ref o0, .ref o5]))] sz) [(o7, .inr (7, [.ref a7_0, .ref a7_1, .int v7_2])), (a7_0, .inl (cyI, 200, .inl g7_0)), (a7_1, .inl (cyZ, 200, .inl g7_1)), (o0, .inr (0, [.int v0_0, .int v0_1, .int v0_2, .int v0_3, .int v0_4, .ref a0_5, .int v0_6, .ref a0_7, .ref a0_8, .ref a0_9, .int v0_10, .ref a0_11, .ref a0_12, .ref a0_13, .ref a0_14, .int v0_15, .ref a0_16])), (o5, .inr (5, [.ref o7, .ref a5_1, .int v5_2, .int (R.1), .int v5_4, .int v5_5, .int (R.2.1), .int v5_7, .int (R.2.2), .int v5_9])), (a5_1, .inl (cyI, 400, .inl g5_1)), (o6, .inr (6, [.ref o7, .ref o4, .ref o0, .ref o5]))]) (va_A [(o7, .inr (7, [.ref a7_0, .ref a7_1, .int v7_2])), (a7_0, .inl (cyI, 200, .inl g7_0)), (a7_1, .inl (cyZ, 200, .inl g7_1)), (o0, .inr (0, [.int v0_0, .int v0_1, .int v0_2, .int v0_3, .int v0_4, .ref a0_5, .int v0_6, .ref a0_7, .ref a0_8, .ref a0_9, .int v0_10, .ref a0_11, .ref a0_12, .ref a0_13, .ref a0_14, .int v0_15, .ref a0_16])), (o5, .inr (5, [.ref o7, .ref a5_1, .int v5_2, .int v5_3, .int v5_4, .int v5_5, .int v5_6, .int v5_7, .int v5_8, .int v5_9])), (a5_1, .inl (cyI, 400, .inl g5_1)), (o6, .inr (6, [.ref o7, .ref o4, .ref o0, .ref o5]))] sz)) 0 0 (va_A [(o7, .inr (7, [.ref a7_0, .ref a7_1, .int v7_2])), (a7_0, .inl (cyI, 200, .inl g7_0)), (a7_1, .inl (cyZ, 200, .inl g7_1)), (o0, .inr (0, [.int v0_0, .int v0_1, .int v0_2, .int v0_3, .int v0_4, .ref a0_5, .int v0_6, .ref a0_7, .ref a0_8, .ref a0_9, .int v0_10, .ref a0_11, .ref a0_12, .ref a0_13, .ref a0_14, .int v0_15, .ref a0_16])), (o5, .inr (5, [.ref o7, .ref a5_1, .int v5_2, .int v5_3, .int v5_4, .int v5_5, .int v5_6, .int v5_7, .int v5_8, .int v5_9])), (a5_1, .inl (cyI, 400, .inl g5_1)), (o6, .inr (6, [.ref o7, .ref o4, .ref o0, .ref o5]))] sz) := by
  refine Met.ofW (cc := cX6_leave) (maxL := 4) (ret := none) (by decide) rfl ?_
  intro p e s m args below meth c s₁ B hml hv
  obtain ⟨rfl, ⟨⟨hsz, hP, hK, hN⟩, hD0⟩, hDb, hbz, hT⟩ := hv
  have hx := B.exec
  have hb := B.bytes
  have hr := B.returns
  have hts := atoms_spec (ws := wsX6_leave) B.pre
  have hown : s.vm.findClass RX6 = some m.cls := findClass_of_methodNamed B.named
  have k_1 := hts (.fieldLink RX6 19 "FlowJudge$Steps" "code" "LFlowJudge$Code;") (by decide +kernel)
  have k_2 := hts (.fieldLink RX6 23 "FlowJudge$Steps" "places" "LFlowJudge$Places;") (by decide +kernel)
  have k_3 := hts (.fieldLink RX6 98 "FlowJudge$Steps" "KINDS" "[I") (by decide +kernel)
  subst hsz
  have hAb : ∀ q, va_A [(o7, .inr (7, [.ref a7_0, .ref a7_1, .int v7_2])), (a7_0, .inl (cyI, 200, .inl g7_0)), (a7_1, .inl (cyZ, 200, .inl g7_1)), (o0, .inr (0, [.int v0_0, .int v0_1, .int v0_2, .int v0_3, .int v0_4, .ref a0_5, .int v0_6, .ref a0_7, .ref a0_8, .ref a0_9, .int v0_10, .ref a0_11, .ref a0_12, .ref a0_13, .ref a0_14, .int v0_15, .ref a0_16])), (o5, .inr (5, [.ref o7, .ref a5_1, .int v5_2, .int v5_3, .int v5_4, .int v5_5, .int v5_6, .int v5_7, .int v5_8, .int v5_9])), (a5_1, .inl (cyI, 400, .inl g5_1)), (o6, .inr (6, [.ref o7, .ref o4, .ref o0, .ref o5]))] s.heap.size q → x_new base q := x_Ab hDb hbz
  have hD := hD0.self (sz := s.heap.size)
  generalize hAe : va_A [(o7, .inr (7, [.ref a7_0, .ref a7_1, .int v7_2])), (a7_0, .inl (cyI, 200, .inl g7_0)), (a7_1, .inl (cyZ, 200, .inl g7_1)), (o0, .inr (0, [.int v0_0, .int v0_1, .int v0_2, .int v0_3, .int v0_4, .ref a0_5, .int v0_6, .ref a0_7, .ref a0_8, .ref a0_9, .int v0_10, .ref a0_11, .ref a0_12, .ref a0_13, .ref a0_14, .int v0_15, .ref a0_16])), (o5, .inr (5, [.ref o7, .ref a5_1, .int v5_2, .int v5_3, .int v5_4, .int v5_5, .int v5_6, .int v5_7, .int v5_8, .int v5_9])), (a5_1, .inl (cyI, 400, .inl g5_1)), (o6, .inr (6, [.ref o7, .ref o4, .ref o0, .ref o5]))] s.heap.size = A at hD hAb ⊢
  have hA : ∀ q : Nat, s.heap.size ≤ q → A q := fun q h => by rw [← hAe]; exact Or.inr h
  have hP : va_P (dC, dI) vwCl [(o7, .inr (7, [.ref a7_0, .ref a7_1, .int v7_2])), (a7_0, .inl (cyI, 200, .inl g7_0)), (a7_1, .inl (cyZ, 200, .inl g7_1)), (o0, .inr (0, [.int v0_0, .int v0_1, .int v0_2, .int v0_3, .int v0_4, .ref a0_5, .int v0_6, .ref a0_7, .ref a0_8, .ref a0_9, .int v0_10, .ref a0_11, .ref a0_12, .ref a0_13, .ref a0_14, .int v0_15, .ref a0_16])), (o5, .inr (5, [.ref o7, .ref a5_1, .int v5_2, .int v5_3, .int v5_4, .int v5_5, .int v5_6, .int v5_7, .int v5_8, .int v5_9])), (a5_1, .inl (cyI, 400, .inl g5_1)), (o6, .inr (6, [.ref o7, .ref o4, .ref o0, .ref o5]))] s.heap := hP
  have hl := lv_entry ([.ref o6, .int p1]) (n := 4) (Nat.le_of_ble_eq_true rfl)
  rw [lg_entry_eq]
  generalize (lg_sl ([.ref o6, .int p1]) ++ List.replicate (4 - (lg_sl ([.ref o6, .int p1])).length) Slot.unset).toArray = ls at hl ⊢
  have hl : lv_has ls 4 [(0, .ref o6), (1, .int p1)] := hl
  obtain ⟨H, hH⟩ : ∃ z, z = s.heap := ⟨_, rfl⟩
  refine x_here hH ?_
  have hP : va_P (dC, dI) vwCl [(o7, .inr (7, [.ref a7_0, .ref a7_1, .int v7_2])), (a7_0, .inl (cyI, 200, .inl g7_0)), (a7_1, .inl (cyZ, 200, .inl g7_1)), (o0, .inr (0, [.int v0_0, .int v0_1, .int v0_2, .int v0_3, .int v0_4, .ref a0_5, .int v0_6, .ref a0_7, .ref a0_8, .ref a0_9, .int v0_10, .ref a0_11, .ref a0_12, .ref a0_13, .ref a0_14, .int v0_15, .ref a0_16])), (o5, .inr (5, [.ref o7, .ref a5_1, .int v5_2, .int v5_3, .int v5_4, .int v5_5, .int v5_6, .int v5_7, .int v5_8, .int v5_9])), (a5_1, .inl (cyI, 400, .inl g5_1)), (o6, .inr (6, [.ref o7, .ref o4, .ref o0, .ref o5]))] H := by rw [hH]; exact hP
  have hS : va_S A s.heap H [] := by rw [hH]; exact va_S.rf
  clear hH
  obtain ⟨locs, hlo⟩ : ∃ z : List Loc, z = [] := ⟨_, rfl⟩
  refine x_herl hlo ?_
  have hS : va_S A s.heap H locs := by rw [hlo]; exact hS
  clear hlo
  unfold f_X6_leave at hf
  refine lv_aload_n hx hb dX6_leave_0 rfl (lv_at hl 0 rfl) ?_
  refine va_get (D := (dC, dI)) (ci := 6) (v := .ref o0) (C := RX6) (T := TX6) (N := 4) hx hb hts i_X6_leave_X6 hown hK hP 6 rfl rfl 2 (by decide) k_1 (fun _ h9 => h9) rfl dX6_leave_1 ?_
  refine va_getN (D := (dC, dI)) (ci := 0) (v := .int v0_2) (C := RX0) (T := TX0) (N := 17) hx hb hts i_X6_leave_X0 hown hK hP 3 rfl rfl 2 (by decide) ((hN.1 ("FlowJudge$Steps", 160, "FlowJudge$Code", "result", "I") (List.mem_of_getElem? (i := 48) rfl)).use rfl) (fun _ h9 => h9) rfl dX6_leave_4 ?_
  refine lv_istore_n (lv' := [(2, .int v0_2), (0, .ref o6), (1, .int p1)]) hx hb dX6_leave_7 rfl hl (by decide) rfl (fun ls hl => ?_)
  refine lv_iload_n hx hb dX6_leave_8 rfl (lv_at hl 2 rfl) ?_
  refine lv_iconst (v := 5) hx hb dX6_leave_9 (by decide) ?_
  refine lv_icmp_ne (tgt := 49) hx hb dX6_leave_10 (by decide) (fun c_1 => ?_) (fun c_1 => ?_)
  · replace hf := x_in c_1 hf
    refine lv_iload_n hx hb dX6_leave_49 rfl (lv_at hl 0 rfl) ?_
    refine lv_iconst (v := (-1)) hx hb dX6_leave_50 (by decide) ?_
    refine lv_icmp_eq (tgt := 85) hx hb dX6_leave_51 (by decide) (fun c_2 => ?_) (fun c_2 => ?_)
    · replace hf := x_ip c_2 hf
      refine lv_iconst (v := 0) hx hb dX6_leave_85 (by decide) ?_
      refine lv_istore_n (lv' := [(3, .int 0), (2, .int v0_2), (0, .ref o6), (1, .int p1)]) hx hb dX6_leave_86 rfl hl (by decide) rfl (fun ls hl => ?_)
      refine lv_iload_n hx hb dX6_leave_87 rfl (lv_at hl 0 rfl) ?_
      refine lv_if_ne (tgt := 102) hx hb dX6_leave_88 (by decide) (fun c_3 => absurd (by decide) c_3) (fun _ => ?_)
      refine lv_aload_n hx hb dX6_leave_91 rfl (lv_at hl 2 rfl) ?_
      refine va_get (D := (dC, dI)) (ci := 6) (v := .ref o5) (C := RX6) (T := TX6) (N := 4) hx hb hts i_X6_leave_X6 hown hK hP 6 rfl rfl 3 (by decide) k_2 (fun _ h9 => h9) rfl dX6_leave_92 ?_
      refine lv_iconst (v := 1) hx hb dX6_leave_95 (by decide) ?_
      refine va_putN (D := (dC, dI)) (ci := 5) (v := .int 1) (ty := .boolean) (C := RX5) (T := TX5) (N := 10) hx hb hts i_X6_leave_X5 tyX5 tyX5_ok nmX5 hown hK hP hD hS 4 rfl rfl 6 (by decide) ((hN.1 ("FlowJudge$Steps", 105, "FlowJudge$Places", "refused", "Z") (List.mem_of_getElem? (i := 47) rfl)).use rfl) (fun _ h9 => h9) rfl (by decide +kernel) rfl rfl (Nat.le_of_ble_eq_true rfl) dX6_leave_96 (fun H locs hP hD hS => ?_)
      have hP : va_P (dC, dI) vwCl [(o7, .inr (7, [.ref a7_0, .ref a7_1, .int v7_2])), (a7_0, .inl (cyI, 200, .inl g7_0)), (a7_1, .inl (cyZ, 200, .inl g7_1)), (o0, .inr (0, [.int v0_0, .int v0_1, .int v0_2, .int v0_3, .int v0_4, .ref a0_5, .int v0_6, .ref a0_7, .ref a0_8, .ref a0_9, .int v0_10, .ref a0_11, .ref a0_12, .ref a0_13, .ref a0_14, .int v0_15, .ref a0_16])), (o5, .inr (5, [.ref o7, .ref a5_1, .int v5_2, .int v5_3, .int v5_4, .int v5_5, .int 1, .int v5_7, .int v5_8, .int v5_9])), (a5_1, .inl (cyI, 400, .inl g5_1)), (o6, .inr (6, [.ref o7, .ref o4, .ref o0, .ref o5]))] H := hP
      have hD : va_D A [(o7, .inr (7, [.ref a7_0, .ref a7_1, .int v7_2])), (a7_0, .inl (cyI, 200, .inl g7_0)), (a7_1, .inl (cyZ, 200, .inl g7_1)), (o0, .inr (0, [.int v0_0, .int v0_1, .int v0_2, .int v0_3, .int v0_4, .ref a0_5, .int v0_6, .ref a0_7, .ref a0_8, .ref a0_9, .int v0_10, .ref a0_11, .ref a0_12, .ref a0_13, .ref a0_14, .int v0_15, .ref a0_16])), (o5, .inr (5, [.ref o7, .ref a5_1, .int v5_2, .int v5_3, .int v5_4, .int v5_5, .int 1, .int v5_7, .int v5_8, .int v5_9])), (a5_1, .inl (cyI, 400, .inl g5_1)), (o6, .inr (6, [.ref o7, .ref o4, .ref o0, .ref o5]))] := hD
      refine lv_goto (tgt := 115) hx hb dX6_leave_99 (by decide) ?_
      obtain rfl := Option.some.inj hf
      have hP9 := hP.sub (ws' := [(o7, .inr (7, [.ref a7_0, .ref a7_1, .int v7_2])), (a7_0, .inl (cyI, 200, .inl g7_0)), (a7_1, .inl (cyZ, 200, .inl g7_1)), (o0, .inr (0, [.int v0_0, .int v0_1, .int v0_2, .int v0_3, .int v0_4, .ref a0_5, .int v0_6, .ref a0_7, .ref a0_8, .ref a0_9, .int v0_10, .ref a0_11, .ref a0_12, .ref a0_13, .ref a0_14, .int v0_15, .ref a0_16])), (o5, .inr (5, [.ref o7, .ref a5_1, .int v5_2, .int v5_3, .int v5_4, .int v5_5, .int 1, .int v5_7, .int v5_8, .int v5_9])), (a5_1, .inl (cyI, 400, .inl g5_1)), (o6, .inr (6, [.ref o7, .ref o4, .ref o0, .ref o5]))]) [0, 1, 2, 3, 4, 5, 6] rfl
      have hD9 := hD.sub (ws' := [(o7, .inr (7, [.ref a7_0, .ref a7_1, .int v7_2])), (a7_0, .inl (cyI, 200, .inl g7_0)), (a7_1, .inl (cyZ, 200, .inl g7_1)), (o0, .inr (0, [.int v0_0, .int v0_1, .int v0_2, .int v0_3, .int v0_4, .ref a0_5, .int v0_6, .ref a0_7, .ref a0_8, .ref a0_9, .int v0_10, .ref a0_11, .ref a0_12, .ref a0_13, .ref a0_14, .int v0_15, .ref a0_16])), (o5, .inr (5, [.ref o7, .ref a5_1, .int v5_2, .int v5_3, .int v5_4, .int v5_5, .int 1, .int v5_7, .int v5_8, .int v5_9])), (a5_1, .inl (cyI, 400, .inl g5_1)), (o6, .inr (6, [.ref o7, .ref o4, .ref o0, .ref o5]))]) [0, 1, 2, 3, 4, 5, 6] (by decide) rfl
      exact W.vret hx hb hr (fun t ht hW => ⟨⟨(), rfl, trivial, by rw [ht]; exact hP9, va_K.moved hW.alike hK, hD9⟩, hS.F ht⟩) hS.2.2 dX6_leave_115
    · replace hf := x_in c_2 hf
      refine lv_iload_n hx hb dX6_leave_54 rfl (lv_at hl 2 rfl) ?_
      refine lv_iconst (v := 4) hx hb dX6_leave_55 (by decide) ?_
      refine lv_icmp_ne (tgt := 69) hx hb dX6_leave_56 (by decide) (fun c_4 => ?_) (fun c_4 => ?_)
      · replace hf := x_in c_4 hf
        refine lv_iload_n hx hb dX6_leave_69 rfl (lv_at hl 0 rfl) ?_
        obtain ⟨r_5, h_5, hf⟩ := x_bi hf
        have hPc := hP.sub (ws' := []) [] rfl
        refine va_calli (va_runS (As := [.int v0_2]) (rest := []) ⟨hx, hb, hml, hown, hts⟩ (c_X7_placeOf l dC dI cyI cyZ cyJ H.size v0_2 r_5 h_5) (va_cwS 1 hts gX6_leave_X7_placeOf rfl rfl rfl (by decide +kernel) ⟨Nat.le_of_ble_eq_true rfl, Nat.le_of_ble_eq_true rfl⟩) (x_pS hN hK hPc) rfl rfl hl.1 rfl (lv_room (Nat.le_of_ble_eq_true rfl)) dX6_leave_70 ⟨Nat.le_of_ble_eq_true rfl, Nat.le_of_ble_eq_true rfl⟩) hS x_nA (x_nf hA hS) (fun q_5 u t H1 locs ht hvm hw hB hz1 hk1 hS => ?_)
        have hP := x_kp hP hk1
        clear ht hvm hB hz1 hk1 t u hPc
        generalize H1 = H at hP hS ⊢
        obtain rfl := hw.symm
        obtain ⟨b_6, hZ_6, hX_6, hb_6⟩ := hT _ (List.mem_of_getElem? (i := 3) rfl)
        refine va_gets hx hb (hZ_6.narrow hAb) hS hown k_3 (fun _ h9 => h9) dX6_leave_73 ?_
        refine lv_iload_n hx hb dX6_leave_76 rfl (lv_at hl 2 rfl) ?_
        obtain ⟨g_7, hf⟩ := x_gu hf
        refine va_sld hx hb hX_6 (Nat.lt_of_lt_of_le hb_6 hbz) (fun h9 => absurd (hAb _ h9) (Nat.not_le.mpr hb_6)) hS (x_gdin g_7) dX6_leave_77 ?_
        refine lv_icmp_ne (tgt := 85) hx hb dX6_leave_78 (by decide) (fun c_8 => ?_) (fun c_8 => ?_)
        · replace hf := x_in c_8 hf
          refine lv_iconst (v := 0) hx hb dX6_leave_85 (by decide) ?_
          refine lv_istore_n (lv' := [(3, .int 0), (2, .int v0_2), (0, .ref o6), (1, .int p1)]) hx hb dX6_leave_86 rfl hl (by decide) rfl (fun ls hl => ?_)
          refine lv_iload_n hx hb dX6_leave_87 rfl (lv_at hl 0 rfl) ?_
          refine lv_if_ne (tgt := 102) hx hb dX6_leave_88 (by decide) (fun c_9 => absurd (by decide) c_9) (fun _ => ?_)
          refine lv_aload_n hx hb dX6_leave_91 rfl (lv_at hl 2 rfl) ?_
          refine va_get (D := (dC, dI)) (ci := 6) (v := .ref o5) (C := RX6) (T := TX6) (N := 4) hx hb hts i_X6_leave_X6 hown hK hP 6 rfl rfl 3 (by decide) k_2 (fun _ h9 => h9) rfl dX6_leave_92 ?_
          refine lv_iconst (v := 1) hx hb dX6_leave_95 (by decide) ?_
          refine va_putN (D := (dC, dI)) (ci := 5) (v := .int 1) (ty := .boolean) (C := RX5) (T := TX5) (N := 10) hx hb hts i_X6_leave_X5 tyX5 tyX5_ok nmX5 hown hK hP hD hS 4 rfl rfl 6 (by decide) ((hN.1 ("FlowJudge$Steps", 105, "FlowJudge$Places", "refused", "Z") (List.mem_of_getElem? (i := 47) rfl)).use rfl) (fun _ h9 => h9) rfl (by decide +kernel) rfl rfl (Nat.le_of_ble_eq_true rfl) dX6_leave_96 (fun H locs hP hD hS => ?_)
          have hP : va_P (dC, dI) vwCl [(o7, .inr (7, [.ref a7_0, .ref a7_1, .int v7_2])), (a7_0, .inl (cyI, 200, .inl g7_0)), (a7_1, .inl (cyZ, 200, .inl g7_1)), (o0, .inr (0, [.int v0_0, .int v0_1, .int v0_2, .int v0_3, .int v0_4, .ref a0_5, .int v0_6, .ref a0_7, .ref a0_8, .ref a0_9, .int v0_10, .ref a0_11, .ref a0_12, .ref a0_13, .ref a0_14, .int v0_15, .ref a0_16])), (o5, .inr (5, [.ref o7, .ref a5_1, .int v5_2, .int v5_3, .int v5_4, .int v5_5, .int 1, .int v5_7, .int v5_8, .int v5_9])), (a5_1, .inl (cyI, 400, .inl g5_1)), (o6, .inr (6, [.ref o7, .ref o4, .ref o0, .ref o5]))] H := hP
          have hD : va_D A [(o7, .inr (7, [.ref a7_0, .ref a7_1, .int v7_2])), (a7_0, .inl (cyI, 200, .inl g7_0)), (a7_1, .inl (cyZ, 200, .inl g7_1)), (o0, .inr (0, [.int v0_0, .int v0_1, .int v0_2, .int v0_3, .int v0_4, .ref a0_5, .int v0_6, .ref a0_7, .ref a0_8, .ref a0_9, .int v0_10, .ref a0_11, .ref a0_12, .ref a0_13, .ref a0_14, .int v0_15, .ref a0_16])), (o5, .inr (5, [.ref o7, .ref a5_1, .int v5_2, .int v5_3, .int v5_4, .int v5_5, .int 1, .int v5_7, .int v5_8, .int v5_9])), (a5_1, .inl (cyI, 400, .inl g5_1)), (o6, .inr (6, [.ref o7, .ref o4, .ref o0, .ref o5]))] := hD
          refine lv_goto (tgt := 115) hx hb dX6_leave_99 (by decide) ?_
          obtain rfl := Option.some.inj hf
          have hP9 := hP.sub (ws' := [(o7, .inr (7, [.ref a7_0, .ref a7_1, .int v7_2])), (a7_0, .inl (cyI, 200, .inl g7_0)), (a7_1, .inl (cyZ, 200, .inl g7_1)), (o0, .inr (0, [.int v0_0, .int v0_1, .int v0_2, .int v0_3, .int v0_4, .ref a0_5, .int v0_6, .ref a0_7, .ref a0_8, .ref a0_9, .int v0_10, .ref a0_11, .ref a0_12, .ref a0_13, .ref a0_14, .int v0_15, .ref a0_16])), (o5, .inr (5, [.ref o7, .ref a5_1, .int v5_2, .int v5_3, .int v5_4, .int v5_5, .int 1, .int v5_7, .int v5_8, .int v5_9])), (a5_1, .inl (cyI, 400, .inl g5_1)), (o6, .inr (6, [.ref o7, .ref o4, .ref o0, .ref o5]))]) [0, 1, 2, 3, 4, 5, 6] rfl
          have hD9 := hD.sub (ws' := [(o7, .inr (7, [.ref a7_0, .ref a7_1, .int v7_2])), (a7_0, .inl (cyI, 200, .inl g7_0)), (a7_1, .inl (cyZ, 200, .inl g7_1)), (o0, .inr (0, [.int v0_0, .int v0_1, .int v0_2, .int v0_3, .int v0_4, .ref a0_5, .int v0_6, .ref a0_7, .ref a0_8, .ref a0_9, .int v0_10, .ref a0_11, .ref a0_12, .ref a0_13, .ref a0_14, .int v0_15, .ref a0_16])), (o5, .inr (5, [.ref o7, .ref a5_1, .int v5_2, .int v5_3, .int v5_4, .int v5_5, .int 1, .int v5_7, .int v5_8, .int v5_9])), (a5_1, .inl (cyI, 400, .inl g5_1)), (o6, .inr (6, [.ref o7, .ref o4, .ref o0, .ref o5]))]) [0, 1, 2, 3, 4, 5, 6] (by decide) rfl
          exact W.vret hx hb hr (fun t ht hW => ⟨⟨(), rfl, trivial, by rw [ht]; exact hP9, va_K.moved hW.alike hK, hD9⟩, hS.F ht⟩) hS.2.2 dX6_leave_115
        · replace hf := x_ip c_8 hf
          refine lv_iconst (v := 1) hx hb dX6_leave_81 (by decide) ?_
          refine lv_goto (tgt := 86) hx hb dX6_leave_82 (by decide) ?_
          refine lv_istore_n (lv' := [(3, .int 1), (2, .int v0_2), (0, .ref o6), (1, .int p1)]) hx hb dX6_leave_86 rfl hl (by decide) rfl (fun ls hl => ?_)
          refine lv_iload_n hx hb dX6_leave_87 rfl (lv_at hl 0 rfl) ?_
          refine lv_if_ne (tgt := 102) hx hb dX6_leave_88 (by decide) (fun _ => ?_) (fun c_10 => absurd c_10 (by decide))
          refine lv_iload_n hx hb dX6_leave_102 rfl (lv_at hl 3 rfl) ?_
          refine lv_iconst (v := 5) hx hb dX6_leave_103 (by decide) ?_
          refine lv_icmp_ge (tgt := 115) hx hb dX6_leave_104 (by decide) (fun c_11 => ?_) (fun c_11 => ?_)
          · replace hf := x_ip c_11 hf
            obtain rfl := Option.some.inj hf
            have hP9 := hP.sub (ws' := [(o7, .inr (7, [.ref a7_0, .ref a7_1, .int v7_2])), (a7_0, .inl (cyI, 200, .inl g7_0)), (a7_1, .inl (cyZ, 200, .inl g7_1)), (o0, .inr (0, [.int v0_0, .int v0_1, .int v0_2, .int v0_3, .int v0_4, .ref a0_5, .int v0_6, .ref a0_7, .ref a0_8, .ref a0_9, .int v0_10, .ref a0_11, .ref a0_12, .ref a0_13, .ref a0_14, .int v0_15, .ref a0_16])), (o5, .inr (5, [.ref o7, .ref a5_1, .int v5_2, .int v5_3, .int v5_4, .int v5_5, .int v5_6, .int v5_7, .int v5_8, .int v5_9])), (a5_1, .inl (cyI, 400, .inl g5_1)), (o6, .inr (6, [.ref o7, .ref o4, .ref o0, .ref o5]))]) [0, 1, 2, 3, 4, 5, 6] rfl
            have hD9 := hD.sub (ws' := [(o7, .inr (7, [.ref a7_0, .ref a7_1, .int v7_2])), (a7_0, .inl (cyI, 200, .inl g7_0)), (a7_1, .inl (cyZ, 200, .inl g7_1)), (o0, .inr (0, [.int v0_0, .int v0_1, .int v0_2, .int v0_3, .int v0_4, .ref a0_5, .int v0_6, .ref a0_7, .ref a0_8, .ref a0_9, .int v0_10, .ref a0_11, .ref a0_12, .ref a0_13, .ref a0_14, .int v0_15, .ref a0_16])), (o5, .inr (5, [.ref o7, .ref a5_1, .int v5_2, .int v5_3, .int v5_4, .int v5_5, .int v5_6, .int v5_7, .int v5_8, .int v5_9])), (a5_1, .inl (cyI, 400, .inl g5_1)), (o6, .inr (6, [.ref o7, .ref o4, .ref o0, .ref o5]))]) [0, 1, 2, 3, 4, 5, 6] (by decide) rfl
            exact W.vret hx hb hr (fun t ht hW => ⟨⟨(), rfl, trivial, by rw [ht]; exact hP9, va_K.moved hW.alike hK, hD9⟩, hS.F ht⟩) hS.2.2 dX6_leave_115
          · replace hf := x_in c_11 hf
            refine lv_aload_n hx hb dX6_leave_107 rfl (lv_at hl 2 rfl) ?_
            refine va_get (D := (dC, dI)) (ci := 6) (v := .ref o5) (C := RX6) (T := TX6) (N := 4) hx hb hts i_X6_leave_X6 hown hK hP 6 rfl rfl 3 (by decide) k_2 (fun _ h9 => h9) rfl dX6_leave_108 ?_
            refine lv_iload_n hx hb dX6_leave_111 rfl (lv_at hl 1 rfl) ?_
            obtain ⟨r_12, h_12, hf⟩ := x_bi hf
            have hPc := hP.sub (ws' := [(o7, .inr (7, [.ref a7_0, .ref a7_1, .int v7_2])), (a7_0, .inl (cyI, 200, .inl g7_0)), (a7_1, .inl (cyZ, 200, .inl g7_1)), (o5, .inr (5, [.ref o7, .ref a5_1, .int v5_2, .int v5_3, .int v5_4, .int v5_5, .int v5_6, .int v5_7, .int v5_8, .int v5_9])), (a5_1, .inl (cyI, 400, .inl g5_1))]) [0, 1, 2, 4, 5] rfl
            have hDc := hD.sub (ws' := [(o7, .inr (7, [.ref a7_0, .ref a7_1, .int v7_2])), (a7_0, .inl (cyI, 200, .inl g7_0)), (a7_1, .inl (cyZ, 200, .inl g7_1)), (o5, .inr (5, [.ref o7, .ref a5_1, .int v5_2, .int v5_3, .int v5_4, .int v5_5, .int v5_6, .int v5_7, .int v5_8, .int v5_9])), (a5_1, .inl (cyI, 400, .inl g5_1))]) [0, 1, 2, 4, 5] (by decide) rfl
            have hFc := va_free (wc := [(o7, .inr (7, [.ref a7_0, .ref a7_1, .int v7_2])), (a7_0, .inl (cyI, 200, .inl g7_0)), (a7_1, .inl (cyZ, 200, .inl g7_1)), (o5, .inr (5, [.ref o7, .ref a5_1, .int v5_2, .int v5_3, .int v5_4, .int v5_5, .int v5_6, .int v5_7, .int v5_8, .int v5_9])), (a5_1, .inl (cyI, 400, .inl g5_1))]) hD hS hA [0, 1, 2, 4, 5] rfl
            refine va_callv (va_runV (As := [.int v0_2]) (rest := []) ⟨hx, hb, hml, hown, hts⟩ (c_X5_pullType l dC dI cyI cyZ cyJ H.size o7 a7_0 a7_1 v7_2 g7_0 g7_1 o5 a5_1 v5_2 v5_3 v5_4 v5_5 v5_6 v5_7 v5_8 v5_9 g5_1 v0_2 r_12 h_12) (cwV 1 hts gX6_leave_X5_pullType rfl rfl rfl (by decide +kernel) ⟨Nat.le_of_ble_eq_true rfl, Nat.le_of_ble_eq_true rfl⟩) (x_pVD hN hK hPc hDc (ci := 5) (q0 := 3) rfl rfl) rfl rfl hl.1 rfl (lv_room (Nat.le_of_ble_eq_true rfl)) dX6_leave_112 ⟨Nat.le_of_ble_eq_true rfl, Nat.le_of_ble_eq_true rfl⟩) hS (fun q _ h => hFc q h) hFc (fun u t H1 locs ht hvm hw hB hz1 hk1 hS => ?_)
            obtain ⟨hP1, hK1, hD1⟩ := hB
            rw [ht] at hP1
            obtain ⟨hP, hD⟩ := va_join (wr := [(o0, .inr (0, [.int v0_0, .int v0_1, .int v0_2, .int v0_3, .int v0_4, .ref a0_5, .int v0_6, .ref a0_7, .ref a0_8, .ref a0_9, .int v0_10, .ref a0_11, .ref a0_12, .ref a0_13, .ref a0_14, .int v0_15, .ref a0_16])), (o6, .inr (6, [.ref o7, .ref o4, .ref o0, .ref o5]))]) (w1 := [(o7, .inr (7, [.ref a7_0, .ref a7_1, .int v7_2])), (a7_0, .inl (cyI, 200, .inl g7_0)), (a7_1, .inl (cyZ, 200, .inl g7_1)), (o5, .inr (5, [.ref o7, .ref a5_1, .int v5_2, .int (r_12.1), .int v5_4, .int v5_5, .int (r_12.2.1), .int v5_7, .int (r_12.2.2), .int v5_9])), (a5_1, .inl (cyI, 400, .inl g5_1))]) hP hD [0, 1, 2, 4, 5] [3, 6] rfl rfl (by decide) (by decide) hk1 hFc hP1 hD1
            clear hz1 hk1 hPc hDc hFc hP1 hK1 hD1 ht hvm t u
            generalize H1 = H at hP hS ⊢
            have hP : va_P (dC, dI) vwCl [(o0, .inr (0, [.int v0_0, .int v0_1, .int v0_2, .int v0_3, .int v0_4, .ref a0_5, .int v0_6, .ref a0_7, .ref a0_8, .ref a0_9, .int v0_10, .ref a0_11, .ref a0_12, .ref a0_13, .ref a0_14, .int v0_15, .ref a0_16])), (o6, .inr (6, [.ref o7, .ref o4, .ref o0, .ref o5])), (o7, .inr (7, [.ref a7_0, .ref a7_1, .int v7_2])), (a7_0, .inl (cyI, 200, .inl g7_0)), (a7_1, .inl (cyZ, 200, .inl g7_1)), (o5, .inr (5, [.ref o7, .ref a5_1, .int v5_2, .int (r_12.1), .int v5_4, .int v5_5, .int (r_12.2.1), .int v5_7, .int (r_12.2.2), .int v5_9])), (a5_1, .inl (cyI, 400, .inl g5_1))] H := hP
            have hD : va_D A [(o0, .inr (0, [.int v0_0, .int v0_1, .int v0_2, .int v0_3, .int v0_4, .ref a0_5, .int v0_6, .ref a0_7, .ref a0_8, .ref a0_9, .int v0_10, .ref a0_11, .ref a0_12, .ref a0_13, .ref a0_14, .int v0_15, .ref a0_16])), (o6, .inr (6, [.ref o7, .ref o4, .ref o0, .ref o5])), (o7, .inr (7, [.ref a7_0, .ref a7_1, .int v7_2])), (a7_0, .inl (cyI, 200, .inl g7_0)), (a7_1, .inl (cyZ, 200, .inl g7_1)), (o5, .inr (5, [.ref o7, .ref a5_1, .int v5_2, .int (r_12.1), .int v5_4, .int v5_5, .int (r_12.2.1), .int v5_7, .int (r_12.2.2), .int v5_9])), (a5_1, .inl (cyI, 400, .inl g5_1))] := hD
            obtain rfl := Option.some.inj hf
            have hP9 := hP.sub (ws' := [(o7, .inr (7, [.ref a7_0, .ref a7_1, .int v7_2])), (a7_0, .inl (cyI, 200, .inl g7_0)), (a7_1, .inl (cyZ, 200, .inl g7_1)), (o0, .inr (0, [.int v0_0, .int v0_1, .int v0_2, .int v0_3, .int v0_4, .ref a0_5, .int v0_6, .ref a0_7, .ref a0_8, .ref a0_9, .int v0_10, .ref a0_11, .ref a0_12, .ref a0_13, .ref a0_14, .int v0_15, .ref a0_16])), (o5, .inr (5, [.ref o7, .ref a5_1, .int v5_2, .int (r_12.1), .int v5_4, .int v5_5, .int (r_12.2.1), .int v5_7, .int (r_12.2.2), .int v5_9])), (a5_1, .inl (cyI, 400, .inl g5_1)), (o6, .inr (6, [.ref o7, .ref o4, .ref o0, .ref o5]))]) [2, 3, 4, 0, 5, 6, 1] rfl
            have hD9 := hD.sub (ws' := [(o7, .inr (7, [.ref a7_0, .ref a7_1, .int v7_2])), (a7_0, .inl (cyI, 200, .inl g7_0)), (a7_1, .inl (cyZ, 200, .inl g7_1)), (o0, .inr (0, [.int v0_0, .int v0_1, .int v0_2, .int v0_3, .int v0_4, .ref a0_5, .int v0_6, .ref a0_7, .ref a0_8, .ref a0_9, .int v0_10, .ref a0_11, .ref a0_12, .ref a0_13, .ref a0_14, .int v0_15, .ref a0_16])), (o5, .inr (5, [.ref o7, .ref a5_1, .int v5_2, .int (r_12.1), .int v5_4, .int v5_5, .int (r_12.2.1), .int v5_7, .int (r_12.2.2), .int v5_9])), (a5_1, .inl (cyI, 400, .inl g5_1)), (o6, .inr (6, [.ref o7, .ref o4, .ref o0, .ref o5]))]) [2, 3, 4, 0, 5, 6, 1] (by decide) rfl
            exact W.vret hx hb hr (fun t ht hW => ⟨⟨(), rfl, trivial, by rw [ht]; exact hP9, va_K.moved hW.alike hK, hD9⟩, hS.F ht⟩) hS.2.2 dX6_leave_115
      · replace hf := x_ip c_4 hf
        refine lv_iload_n hx hb dX6_leave_59 rfl (lv_at hl 0 rfl) ?_
        obtain ⟨r_13, h_13, hf⟩ := x_bi hf
        have hPc := hP.sub (ws' := []) [] rfl
        refine va_calli (va_runS (As := [.int v0_2]) (rest := []) ⟨hx, hb, hml, hown, hts⟩ (c_X7_isPrimitive l dC dI cyI cyZ cyJ H.size v0_2 r_13 h_13) (va_cwS 1 hts gX6_leave_X7_isPrimitive rfl rfl rfl (by decide +kernel) ⟨Nat.le_of_ble_eq_true rfl, Nat.le_of_ble_eq_true rfl⟩) (x_pS hN hK hPc) rfl rfl hl.1 rfl (lv_room (Nat.le_of_ble_eq_true rfl)) dX6_leave_60 ⟨Nat.le_of_ble_eq_true rfl, Nat.le_of_ble_eq_true rfl⟩) hS x_nA (x_nf hA hS) (fun q_13 u t H1 locs ht hvm hw hB hz1 hk1 hS => ?_)
        have hP := x_kp hP hk1
        clear ht hvm hB hz1 hk1 t u hPc
        generalize H1 = H at hP hS ⊢
        obtain ⟨hw, b_13⟩ := hw
        obtain rfl := hw.symm
        refine lv_if_ne (tgt := 85) hx hb dX6_leave_63 (by decide) (fun c_14 => ?_) (fun c_14 => ?_)
        · replace hf := x_in c_14 hf
          refine lv_iconst (v := 0) hx hb dX6_leave_85 (by decide) ?_
          refine lv_istore_n (lv' := [(3, .int 0), (2, .int v0_2), (0, .ref o6), (1, .int p1)]) hx hb dX6_leave_86 rfl hl (by decide) rfl (fun ls hl => ?_)
          refine lv_iload_n hx hb dX6_leave_87 rfl (lv_at hl 0 rfl) ?_
          refine lv_if_ne (tgt := 102) hx hb dX6_leave_88 (by decide) (fun c_15 => absurd (by decide) c_15) (fun _ => ?_)
          refine lv_aload_n hx hb dX6_leave_91 rfl (lv_at hl 2 rfl) ?_
          refine va_get (D := (dC, dI)) (ci := 6) (v := .ref o5) (C := RX6) (T := TX6) (N := 4) hx hb hts i_X6_leave_X6 hown hK hP 6 rfl rfl 3 (by decide) k_2 (fun _ h9 => h9) rfl dX6_leave_92 ?_
          refine lv_iconst (v := 1) hx hb dX6_leave_95 (by decide) ?_
          refine va_putN (D := (dC, dI)) (ci := 5) (v := .int 1) (ty := .boolean) (C := RX5) (T := TX5) (N := 10) hx hb hts i_X6_leave_X5 tyX5 tyX5_ok nmX5 hown hK hP hD hS 4 rfl rfl 6 (by decide) ((hN.1 ("FlowJudge$Steps", 105, "FlowJudge$Places", "refused", "Z") (List.mem_of_getElem? (i := 47) rfl)).use rfl) (fun _ h9 => h9) rfl (by decide +kernel) rfl rfl (Nat.le_of_ble_eq_true rfl) dX6_leave_96 (fun H locs hP hD hS => ?_)
          have hP : va_P (dC, dI) vwCl [(o7, .inr (7, [.ref a7_0, .ref a7_1, .int v7_2])), (a7_0, .inl (cyI, 200, .inl g7_0)), (a7_1, .inl (cyZ, 200, .inl g7_1)), (o0, .inr (0, [.int v0_0, .int v0_1, .int v0_2, .int v0_3, .int v0_4, .ref a0_5, .int v0_6, .ref a0_7, .ref a0_8, .ref a0_9, .int v0_10, .ref a0_11, .ref a0_12, .ref a0_13, .ref a0_14, .int v0_15, .ref a0_16])), (o5, .inr (5, [.ref o7, .ref a5_1, .int v5_2, .int v5_3, .int v5_4, .int v5_5, .int 1, .int v5_7, .int v5_8, .int v5_9])), (a5_1, .inl (cyI, 400, .inl g5_1)), (o6, .inr (6, [.ref o7, .ref o4, .ref o0, .ref o5]))] H := hP
          have hD : va_D A [(o7, .inr (7, [.ref a7_0, .ref a7_1, .int v7_2])), (a7_0, .inl (cyI, 200, .inl g7_0)), (a7_1, .inl (cyZ, 200, .inl g7_1)), (o0, .inr (0, [.int v0_0, .int v0_1, .int v0_2, .int v0_3, .int v0_4, .ref a0_5, .int v0_6, .ref a0_7, .ref a0_8, .ref a0_9, .int v0_10, .ref a0_11, .ref a0_12, .ref a0_13, .ref a0_14, .int v0_15, .ref a0_16])), (o5, .inr (5, [.ref o7, .ref a5_1, .int v5_2, .int v5_3, .int v5_4, .int v5_5, .int 1, .int v5_7, .int v5_8, .int v5_9])), (a5_1, .inl (cyI, 400, .inl g5_1)), (o6, .inr (6, [.ref o7, .ref o4, .ref o0, .ref o5]))] := hD
          refine lv_goto (tgt := 115) hx hb dX6_leave_99 (by decide) ?_
          obtain rfl := Option.some.inj hf
          have hP9 := hP.sub (ws' := [(o7, .inr (7, [.ref a7_0, .ref a7_1, .int v7_2])), (a7_0, .inl (cyI, 200, .inl g7_0)), (a7_1, .inl (cyZ, 200, .inl g7_1)), (o0, .inr (0, [.int v0_0, .int v0_1, .int v0_2, .int v0_3, .int v0_4, .ref a0_5, .int v0_6, .ref a0_7, .ref a0_8, .ref a0_9, .int v0_10, .ref a0_11, .ref a0_12, .ref a0_13, .ref a0_14, .int v0_15, .ref a0_16])), (o5, .inr (5, [.ref o7, .ref a5_1, .int v5_2, .int v5_3, .int v5_4, .int v5_5, .int 1, .int v5_7, .int v5_8, .int v5_9])), (a5_1, .inl (cyI, 400, .inl g5_1)), (o6, .inr (6, [.ref o7, .ref o4, .ref o0, .ref o5]))]) [0, 1, 2, 3, 4, 5, 6] rfl
          have hD9 := hD.sub (ws' := [(o7, .inr (7, [.ref a7_0, .ref a7_1, .int v7_2])), (a7_0, .inl (cyI, 200, .inl g7_0)), (a7_1, .inl (cyZ, 200, .inl g7_1)), (o0, .inr (0, [.int v0_0, .int v0_1, .int v0_2, .int v0_3, .int v0_4, .ref a0_5, .int v0_6, .ref a0_7, .ref a0_8, .ref a0_9, .int v0_10, .ref a0_11, .ref a0_12, .ref a0_13, .ref a0_14, .int v0_15, .ref a0_16])), (o5, .inr (5, [.ref o7, .ref a5_1, .int v5_2, .int v5_3, .int v5_4, .int v5_5, .int 1, .int v5_7, .int v5_8, .int v5_9])), (a5_1, .inl (cyI, 400, .inl g5_1)), (o6, .inr (6, [.ref o7, .ref o4, .ref o0, .ref o5]))]) [0, 1, 2, 3, 4, 5, 6] (by decide) rfl
          exact W.vret hx hb hr (fun t ht hW => ⟨⟨(), rfl, trivial, by rw [ht]; exact hP9, va_K.moved hW.alike hK, hD9⟩, hS.F ht⟩) hS.2.2 dX6_leave_115
        · replace hf := x_ip c_14 hf
          refine lv_goto (tgt := 81) hx hb dX6_leave_66 (by decide) ?_
          refine lv_iconst (v := 1) hx hb dX6_leave_81 (by decide) ?_
          refine lv_goto (tgt := 86) hx hb dX6_leave_82 (by decide) ?_
          refine lv_istore_n (lv' := [(3, .int 1), (2, .int v0_2), (0, .ref o6), (1, .int p1)]) hx hb dX6_leave_86 rfl hl (by decide) rfl (fun ls hl => ?_)
          refine lv_iload_n hx hb dX6_leave_87 rfl (lv_at hl 0 rfl) ?_
          refine lv_if_ne (tgt := 102) hx hb dX6_leave_88 (by decide) (fun _ => ?_) (fun c_16 => absurd c_16 (by decide))
          refine lv_iload_n hx hb dX6_leave_102 rfl (lv_at hl 3 rfl) ?_
          refine lv_iconst (v := 5) hx hb dX6_leave_103 (by decide) ?_
          refine lv_icmp_ge (tgt := 115) hx hb dX6_leave_104 (by decide) (fun c_17 => ?_) (fun c_17 => ?_)
          · replace hf := x_ip c_17 hf
            obtain rfl := Option.some.inj hf
            have hP9 := hP.sub (ws' := [(o7, .inr (7, [.ref a7_0, .ref a7_1, .int v7_2])), (a7_0, .inl (cyI, 200, .inl g7_0)), (a7_1, .inl (cyZ, 200, .inl g7_1)), (o0, .inr (0, [.int v0_0, .int v0_1, .int v0_2, .int v0_3, .int v0_4, .ref a0_5, .int v0_6, .ref a0_7, .ref a0_8, .ref a0_9, .int v0_10, .ref a0_11, .ref a0_12, .ref a0_13, .ref a0_14, .int v0_15, .ref a0_16])), (o5, .inr (5, [.ref o7, .ref a5_1, .int v5_2, .int v5_3, .int v5_4, .int v5_5, .int v5_6, .int v5_7, .int v5_8, .int v5_9])), (a5_1, .inl (cyI, 400, .inl g5_1)), (o6, .inr (6, [.ref o7, .ref o4, .ref o0, .ref o5]))]) [0, 1, 2, 3, 4, 5, 6] rfl
            have hD9 := hD.sub (ws' := [(o7, .inr (7, [.ref a7_0, .ref a7_1, .int v7_2])), (a7_0, .inl (cyI, 200, .inl g7_0)), (a7_1, .inl (cyZ, 200, .inl g7_1)), (o0, .inr (0, [.int v0_0, .int v0_1, .int v0_2, .int v0_3, .int v0_4, .ref a0_5, .int v0_6, .ref a0_7, .ref a0_8, .ref a0_9, .int v0_10, .ref a0_11, .ref a0_12, .ref a0_13, .ref a0_14, .int v0_15, .ref a0_16])), (o5, .inr (5, [.ref o7, .ref a5_1, .int v5_2, .int v5_3, .int v5_4, .int v5_5, .int v5_6, .int v5_7, .int v5_8, .int v5_9])), (a5_1, .inl (cyI, 400, .inl g5_1)), (o6, .inr (6, [.ref o7, .ref o4, .ref o0, .ref o5]))]) [0, 1, 2, 3, 4, 5, 6] (by decide) rfl
            exact W.vret hx hb hr (fun t ht hW => ⟨⟨(), rfl, trivial, by rw [ht]; exact hP9, va_K.moved hW.alike hK, hD9⟩, hS.F ht⟩) hS.2.2 dX6_leave_115
          · replace hf := x_in c_17 hf
            refine lv_aload_n hx hb dX6_leave_107 rfl (lv_at hl 2 rfl) ?_
            refine va_get (D := (dC, dI)) (ci := 6) (v := .ref o5) (C := RX6) (T := TX6) (N := 4) hx hb hts i_X6_leave_X6 hown hK hP 6 rfl rfl 3 (by decide) k_2 (fun _ h9 => h9) rfl dX6_leave_108 ?_
            refine lv_iload_n hx hb dX6_leave_111 rfl (lv_at hl 1 rfl) ?_
            obtain ⟨r_18, h_18, hf⟩ := x_bi hf
            have hPc := hP.sub (ws' := [(o7, .inr (7, [.ref a7_0, .ref a7_1, .int v7_2])), (a7_0, .inl (cyI, 200, .inl g7_0)), (a7_1, .inl (cyZ, 200, .inl g7_1)), (o5, .inr (5, [.ref o7, .ref a5_1, .int v5_2, .int v5_3, .int v5_4, .int v5_5, .int v5_6, .int v5_7, .int v5_8, .int v5_9])), (a5_1, .inl (cyI, 400, .inl g5_1))]) [0, 1, 2, 4, 5] rfl
            have hDc := hD.sub (ws' := [(o7, .inr (7, [.ref a7_0, .ref a7_1, .int v7_2])), (a7_0, .inl (cyI, 200, .inl g7_0)), (a7_1, .inl (cyZ, 200, .inl g7_1)), (o5, .inr (5, [.ref o7, .ref a5_1, .int v5_2, .int v5_3, .int v5_4, .int v5_5, .int v5_6, .int v5_7, .int v5_8, .int v5_9])), (a5_1, .inl (cyI, 400, .inl g5_1))]) [0, 1, 2, 4, 5] (by decide) rfl
            have hFc := va_free (wc := [(o7, .inr (7, [.ref a7_0, .ref a7_1, .int v7_2])), (a7_0, .inl (cyI, 200, .inl g7_0)), (a7_1, .inl (cyZ, 200, .inl g7_1)), (o5, .inr (5, [.ref o7, .ref a5_1, .int v5_2, .int v5_3, .int v5_4, .int v5_5, .int v5_6, .int v5_7, .int v5_8, .int v5_9])), (a5_1, .inl (cyI, 400, .inl g5_1))]) hD hS hA [0, 1, 2, 4, 5] rfl
            refine va_callv (va_runV (As := [.int v0_2]) (rest := []) ⟨hx, hb, hml, hown, hts⟩ (c_X5_pullType l dC dI cyI cyZ cyJ H.size o7 a7_0 a7_1 v7_2 g7_0 g7_1 o5 a5_1 v5_2 v5_3 v5_4 v5_5 v5_6 v5_7 v5_8 v5_9 g5_1 v0_2 r_18 h_18) (cwV 1 hts gX6_leave_X5_pullType rfl rfl rfl (by decide +kernel) ⟨Nat.le_of_ble_eq_true rfl, Nat.le_of_ble_eq_true rfl⟩) (x_pVD hN hK hPc hDc (ci := 5) (q0 := 3) rfl rfl) rfl rfl hl.1 rfl (lv_room (Nat.le_of_ble_eq_true rfl)) dX6_leave_112 ⟨Nat.le_of_ble_eq_true rfl, Nat.le_of_ble_eq_true rfl⟩) hS (fun q _ h => hFc q h) hFc (fun u t H1 locs ht hvm hw hB hz1 hk1 hS => ?_)
            obtain ⟨hP1, hK1, hD1⟩ := hB
            rw [ht] at hP1
            obtain ⟨hP, hD⟩ := va_join (wr := [(o0, .inr (0, [.int v0_0, .int v0_1, .int v0_2, .int v0_3, .int v0_4, .ref a0_5, .int v0_6, .ref a0_7, .ref a0_8, .ref a0_9, .int v0_10, .ref a0_11, .ref a0_12, .ref a0_13, .ref a0_14, .int v0_15, .ref a0_16])), (o6, .inr (6, [.ref o7, .ref o4, .ref o0, .ref o5]))]) (w1 := [(o7, .inr (7, [.ref a7_0, .ref a7_1, .int v7_2])), (a7_0, .inl (cyI, 200, .inl g7_0)), (a7_1, .inl (cyZ, 200, .inl g7_1)), (o5, .inr (5, [.ref o7, .ref a5_1, .int v5_2, .int (r_18.1), .int v5_4, .int v5_5, .int (r_18.2.1), .int v5_7, .int (r_18.2.2), .int v5_9])), (a5_1, .inl (cyI, 400, .inl g5_1))]) hP hD [0, 1, 2, 4, 5] [3, 6] rfl rfl (by decide) (by decide) hk1 hFc hP1 hD1
            clear hz1 hk1 hPc hDc hFc hP1 hK1 hD1 ht hvm t u
            generalize H1 = H at hP hS ⊢
            have hP : va_P (dC, dI) vwCl [(o0, .inr (0, [.int v0_0, .int v0_1, .int v0_2, .int v0_3, .int v0_4, .ref a0_5, .int v0_6, .ref a0_7, .ref a0_8, .ref a0_9, .int v0_10, .ref a0_11, .ref a0_12, .ref a0_13, .ref a0_14, .int v0_15, .ref a0_16])), (o6, .inr (6, [.ref o7, .ref o4, .ref o0, .ref o5])), (o7, .inr (7, [.ref a7_0, .ref a7_1, .int v7_2])), (a7_0, .inl (cyI, 200, .inl g7_0)), (a7_1, .inl (cyZ, 200, .inl g7_1)), (o5, .inr (5, [.ref o7, .ref a5_1, .int v5_2, .int (r_18.1), .int v5_4, .int v5_5, .int (r_18.2.1), .int v5_7, .int (r_18.2.2), .int v5_9])), (a5_1, .inl (cyI, 400, .inl g5_1))] H := hP
            have hD : va_D A [(o0, .inr (0, [.int v0_0, .int v0_1, .int v0_2, .int v0_3, .int v0_4, .ref a0_5, .int v0_6, .ref a0_7, .ref a0_8, .ref a0_9, .int v0_10, .ref a0_11, .ref a0_12, .ref a0_13, .ref a0_14, .int v0_15, .ref a0_16])), (o6, .inr (6, [.ref o7, .ref o4, .ref o0, .ref o5])), (o7, .inr (7, [.ref a7_0, .ref a7_1, .int v7_2])), (a7_0, .inl (cyI, 200, .inl g7_0)), (a7_1, .inl (cyZ, 200, .inl g7_1)), (o5, .inr (5, [.ref o7, .ref a5_1, .int v5_2, .int (r_18.1), .int v5_4, .int v5_5, .int (r_18.2.1), .int v5_7, .int (r_18.2.2), .int v5_9])), (a5_1, .inl (cyI, 400, .inl g5_1))] := hD
            obtain rfl := Option.some.inj hf
            have hP9 := hP.sub (ws' := [(o7, .inr (7, [.ref a7_0, .ref a7_1, .int v7_2])), (a7_0, .inl (cyI, 200, .inl g7_0)), (a7_1, .inl (cyZ, 200, .inl g7_1)), (o0, .inr (0, [.int v0_0, .int v0_1, .int v0_2, .int v0_3, .int v0_4, .ref a0_5, .int v0_6, .ref a0_7, .ref a0_8, .ref a0_9, .int v0_10, .ref a0_11, .ref a0_12, .ref a0_13, .ref a0_14, .int v0_15, .ref a0_16])), (o5, .inr (5, [.ref o7, .ref a5_1, .int v5_2, .int (r_18.1), .int v5_4, .int v5_5, .int (r_18.2.1), .int v5_7, .int (r_18.2.2), .int v5_9])), (a5_1, .inl (cyI, 400, .inl g5_1)), (o6, .inr (6, [.ref o7, .ref o4, .ref o0, .ref o5]))]) [2, 3, 4, 0, 5, 6, 1] rfl
            have hD9 := hD.sub (ws' := [(o7, .inr (7, [.ref a7_0, .ref a7_1, .int v7_2])), (a7_0, .inl (cyI, 200, .inl g7_0)), (a7_1, .inl (cyZ, 200, .inl g7_1)), (o0, .inr (0, [.int v0_0, .int v0_1, .int v0_2, .int v0_3, .int v0_4, .ref a0_5, .int v0_6, .ref a0_7, .ref a0_8, .ref a0_9, .int v0_10, .ref a0_11, .ref a0_12, .ref a0_13, .ref a0_14, .int v0_15, .ref a0_16])), (o5, .inr (5, [.ref o7, .ref a5_1, .int v5_2, .int (r_18.1), .int v5_4, .int v5_5, .int (r_18.2.1), .int v5_7, .int (r_18.2.2), .int v5_9])), (a5_1, .inl (cyI, 400, .inl g5_1)), (o6, .inr (6, [.ref o7, .ref o4, .ref o0, .ref o5]))]) [2, 3, 4, 0, 5, 6, 1] (by decide) rfl
            exact W.vret hx hb hr (fun t ht hW => ⟨⟨(), rfl, trivial, by rw [ht]; exact hP9, va_K.moved hW.alike hK, hD9⟩, hS.F ht⟩) hS.2.2 dX6_leave_115
  · replace hf := x_ip c_1 hf
    refine lv_iload_n hx hb dX6_leave_13 rfl (lv_at hl 0 rfl) ?_
    refine lv_iconst (v := (-1)) hx hb dX6_leave_14 (by decide) ?_
    refine lv_icmp_ne (tgt := 44) hx hb dX6_leave_15 (by decide) (fun c_19 => ?_) (fun c_19 => ?_)
    · replace hf := x_in c_19 hf
      refine lv_iconst (v := 0) hx hb dX6_leave_44 (by decide) ?_
      refine lv_istore_n (lv' := [(3, .int 0), (2, .int v0_2), (0, .ref o6), (1, .int p1)]) hx hb dX6_leave_45 rfl hl (by decide) rfl (fun ls hl => ?_)
      refine lv_goto (tgt := 87) hx hb dX6_leave_46 (by decide) ?_
      refine lv_iload_n hx hb dX6_leave_87 rfl (lv_at hl 0 rfl) ?_
      refine lv_if_ne (tgt := 102) hx hb dX6_leave_88 (by decide) (fun c_20 => absurd (by decide) c_20) (fun _ => ?_)
      refine lv_aload_n hx hb dX6_leave_91 rfl (lv_at hl 2 rfl) ?_
      refine va_get (D := (dC, dI)) (ci := 6) (v := .ref o5) (C := RX6) (T := TX6) (N := 4) hx hb hts i_X6_leave_X6 hown hK hP 6 rfl rfl 3 (by decide) k_2 (fun _ h9 => h9) rfl dX6_leave_92 ?_
      refine lv_iconst (v := 1) hx hb dX6_leave_95 (by decide) ?_
      refine va_putN (D := (dC, dI)) (ci := 5) (v := .int 1) (ty := .boolean) (C := RX5) (T := TX5) (N := 10) hx hb hts i_X6_leave_X5 tyX5 tyX5_ok nmX5 hown hK hP hD hS 4 rfl rfl 6 (by decide) ((hN.1 ("FlowJudge$Steps", 105, "FlowJudge$Places", "refused", "Z") (List.mem_of_getElem? (i := 47) rfl)).use rfl) (fun _ h9 => h9) rfl (by decide +kernel) rfl rfl (Nat.le_of_ble_eq_true rfl) dX6_leave_96 (fun H locs hP hD hS => ?_)
      have hP : va_P (dC, dI) vwCl [(o7, .inr (7, [.ref a7_0, .ref a7_1, .int v7_2])), (a7_0, .inl (cyI, 200, .inl g7_0)), (a7_1, .inl (cyZ, 200, .inl g7_1)), (o0, .inr (0, [.int v0_0, .int v0_1, .int v0_2, .int v0_3, .int v0_4, .ref a0_5, .int v0_6, .ref a0_7, .ref a0_8, .ref a0_9, .int v0_10, .ref a0_11, .ref a0_12, .ref a0_13, .ref a0_14, .int v0_15, .ref a0_16])), (o5, .inr (5, [.ref o7, .ref a5_1, .int v5_2, .int v5_3, .int v5_4, .int v5_5, .int 1, .int v5_7, .int v5_8, .int v5_9])), (a5_1, .inl (cyI, 400, .inl g5_1)), (o6, .inr (6, [.ref o7, .ref o4, .ref o0, .ref o5]))] H := hP
      have hD : va_D A [(o7, .inr (7, [.ref a7_0, .ref a7_1, .int v7_2])), (a7_0, .inl (cyI, 200, .inl g7_0)), (a7_1, .inl (cyZ, 200, .inl g7_1)), (o0, .inr (0, [.int v0_0, .int v0_1, .int v0_2, .int v0_3, .int v0_4, .ref a0_5, .int v0_6, .ref a0_7, .ref a0_8, .ref a0_9, .int v0_10, .ref a0_11, .ref a0_12, .ref a0_13, .ref a0_14, .int v0_15, .ref a0_16])), (o5, .inr (5, [.ref o7, .ref a5_1, .int v5_2, .int v5_3, .int v5_4, .int v5_5, .int 1, .int v5_7, .int v5_8, .int v5_9])), (a5_1, .inl (cyI, 400, .inl g5_1)), (o6, .inr (6, [.ref o7, .ref o4, .ref o0, .ref o5]))] := hD
      refine lv_goto (tgt := 115) hx hb dX6_leave_99 (by decide) ?_
      obtain rfl := Option.some.inj hf
      have hP9 := hP.sub (ws' := [(o7, .inr (7, [.ref a7_0, .ref a7_1, .int v7_2])), (a7_0, .inl (cyI, 200, .inl g7_0)), (a7_1, .inl (cyZ, 200, .inl g7_1)), (o0, .inr (0, [.int v0_0, .int v0_1, .int v0_2, .int v0_3, .int v0_4, .ref a0_5, .int v0_6, .ref a0_7, .ref a0_8, .ref a0_9, .int v0_10, .ref a0_11, .ref a0_12, .ref a0_13, .ref a0_14, .int v0_15, .ref a0_16])), (o5, .inr (5, [.ref o7, .ref a5_1, .int v5_2, .int v5_3, .int v5_4, .int v5_5, .int 1, .int v5_7, .int v5_8, .int v5_9])), (a5_1, .inl (cyI, 400, .inl g5_1)), (o6, .inr (6, [.ref o7, .ref o4, .ref o0, .ref o5]))]) [0, 1, 2, 3, 4, 5, 6] rfl
      have hD9 := hD.sub (ws' := [(o7, .inr (7, [.ref a7_0, .ref a7_1, .int v7_2])), (a7_0, .inl (cyI, 200, .inl g7_0)), (a7_1, .inl (cyZ, 200, .inl g7_1)), (o0, .inr (0, [.int v0_0, .int v0_1, .int v0_2, .int v0_3, .int v0_4, .ref a0_5, .int v0_6, .ref a0_7, .ref a0_8, .ref a0_9, .int v0_10, .ref a0_11, .ref a0_12, .ref a0_13, .ref a0_14, .int v0_15, .ref a0_16])), (o5, .inr (5, [.ref o7, .ref a5_1, .int v5_2, .int v5_3, .int v5_4, .int v5_5, .int 1, .int v5_7, .int v5_8, .int v5_9])), (a5_1, .inl (cyI, 400, .inl g5_1)), (o6, .inr (6, [.ref o7, .ref o4, .ref o0, .ref o5]))]) [0, 1, 2, 3, 4, 5, 6] (by decide) rfl
      exact W.vret hx hb hr (fun t ht hW => ⟨⟨(), rfl, trivial, by rw [ht]; exact hP9, va_K.moved hW.alike hK, hD9⟩, hS.F ht⟩) hS.2.2 dX6_leave_115
    · replace hf := x_ip c_19 hf
      refine lv_aload_n hx hb dX6_leave_18 rfl (lv_at hl 1 rfl) ?_
      refine va_get (D := (dC, dI)) (ci := 6) (v := .ref o0) (C := RX6) (T := TX6) (N := 4) hx hb hts i_X6_leave_X6 hown hK hP 6 rfl rfl 2 (by decide) k_1 (fun _ h9 => h9) rfl dX6_leave_19 ?_
      refine va_getN (D := (dC, dI)) (ci := 0) (v := .int v0_1) (C := RX0) (T := TX0) (N := 17) hx hb hts i_X6_leave_X0 hown hK hP 3 rfl rfl 1 (by decide) ((hN.1 ("FlowJudge$Steps", 164, "FlowJudge$Code", "how", "I") (List.mem_of_getElem? (i := 49) rfl)).use rfl) (fun _ h9 => h9) rfl dX6_leave_22 ?_
      refine lv_iconst (v := 2) hx hb dX6_leave_25 (by decide) ?_
      refine lv_icmp_ne (tgt := 40) hx hb dX6_leave_26 (by decide) (fun c_21 => ?_) (fun c_21 => ?_)
      · replace hf := x_in c_21 hf
        refine lv_iconst (v := 1) hx hb dX6_leave_40 (by decide) ?_
        refine lv_goto (tgt := 45) hx hb dX6_leave_41 (by decide) ?_
        refine lv_istore_n (lv' := [(3, .int 1), (2, .int v0_2), (0, .ref o6), (1, .int p1)]) hx hb dX6_leave_45 rfl hl (by decide) rfl (fun ls hl => ?_)
        refine lv_goto (tgt := 87) hx hb dX6_leave_46 (by decide) ?_
        refine lv_iload_n hx hb dX6_leave_87 rfl (lv_at hl 0 rfl) ?_
        refine lv_if_ne (tgt := 102) hx hb dX6_leave_88 (by decide) (fun _ => ?_) (fun c_22 => absurd c_22 (by decide))
        refine lv_iload_n hx hb dX6_leave_102 rfl (lv_at hl 3 rfl) ?_
        refine lv_iconst (v := 5) hx hb dX6_leave_103 (by decide) ?_
        refine lv_icmp_ge (tgt := 115) hx hb dX6_leave_104 (by decide) (fun c_23 => ?_) (fun c_23 => ?_)
        · replace hf := x_ip c_23 hf
          obtain rfl := Option.some.inj hf
          have hP9 := hP.sub (ws' := [(o7, .inr (7, [.ref a7_0, .ref a7_1, .int v7_2])), (a7_0, .inl (cyI, 200, .inl g7_0)), (a7_1, .inl (cyZ, 200, .inl g7_1)), (o0, .inr (0, [.int v0_0, .int v0_1, .int v0_2, .int v0_3, .int v0_4, .ref a0_5, .int v0_6, .ref a0_7, .ref a0_8, .ref a0_9, .int v0_10, .ref a0_11, .ref a0_12, .ref a0_13, .ref a0_14, .int v0_15, .ref a0_16])), (o5, .inr (5, [.ref o7, .ref a5_1, .int v5_2, .int v5_3, .int v5_4, .int v5_5, .int v5_6, .int v5_7, .int v5_8, .int v5_9])), (a5_1, .inl (cyI, 400, .inl g5_1)), (o6, .inr (6, [.ref o7, .ref o4, .ref o0, .ref o5]))]) [0, 1, 2, 3, 4, 5, 6] rfl
          have hD9 := hD.sub (ws' := [(o7, .inr (7, [.ref a7_0, .ref a7_1, .int v7_2])), (a7_0, .inl (cyI, 200, .inl g7_0)), (a7_1, .inl (cyZ, 200, .inl g7_1)), (o0, .inr (0, [.int v0_0, .int v0_1, .int v0_2, .int v0_3, .int v0_4, .ref a0_5, .int v0_6, .ref a0_7, .ref a0_8, .ref a0_9, .int v0_10, .ref a0_11, .ref a0_12, .ref a0_13, .ref a0_14, .int v0_15, .ref a0_16])), (o5, .inr (5, [.ref o7, .ref a5_1, .int v5_2, .int v5_3, .int v5_4, .int v5_5, .int v5_6, .int v5_7, .int v5_8, .int v5_9])), (a5_1, .inl (cyI, 400, .inl g5_1)), (o6, .inr (6, [.ref o7, .ref o4, .ref o0, .ref o5]))]) [0, 1, 2, 3, 4, 5, 6] (by decide) rfl
          exact W.vret hx hb hr (fun t ht hW => ⟨⟨(), rfl, trivial, by rw [ht]; exact hP9, va_K.moved hW.alike hK, hD9⟩, hS.F ht⟩) hS.2.2 dX6_leave_115
        · replace hf := x_in c_23 hf
          refine lv_aload_n hx hb dX6_leave_107 rfl (lv_at hl 2 rfl) ?_
          refine va_get (D := (dC, dI)) (ci := 6) (v := .ref o5) (C := RX6) (T := TX6) (N := 4) hx hb hts i_X6_leave_X6 hown hK hP 6 rfl rfl 3 (by decide) k_2 (fun _ h9 => h9) rfl dX6_leave_108 ?_
          refine lv_iload_n hx hb dX6_leave_111 rfl (lv_at hl 1 rfl) ?_
          obtain ⟨r_24, h_24, hf⟩ := x_bi hf
          have hPc := hP.sub (ws' := [(o7, .inr (7, [.ref a7_0, .ref a7_1, .int v7_2])), (a7_0, .inl (cyI, 200, .inl g7_0)), (a7_1, .inl (cyZ, 200, .inl g7_1)), (o5, .inr (5, [.ref o7, .ref a5_1, .int v5_2, .int v5_3, .int v5_4, .int v5_5, .int v5_6, .int v5_7, .int v5_8, .int v5_9])), (a5_1, .inl (cyI, 400, .inl g5_1))]) [0, 1, 2, 4, 5] rfl
          have hDc := hD.sub (ws' := [(o7, .inr (7, [.ref a7_0, .ref a7_1, .int v7_2])), (a7_0, .inl (cyI, 200, .inl g7_0)), (a7_1, .inl (cyZ, 200, .inl g7_1)), (o5, .inr (5, [.ref o7, .ref a5_1, .int v5_2, .int v5_3, .int v5_4, .int v5_5, .int v5_6, .int v5_7, .int v5_8, .int v5_9])), (a5_1, .inl (cyI, 400, .inl g5_1))]) [0, 1, 2, 4, 5] (by decide) rfl
          have hFc := va_free (wc := [(o7, .inr (7, [.ref a7_0, .ref a7_1, .int v7_2])), (a7_0, .inl (cyI, 200, .inl g7_0)), (a7_1, .inl (cyZ, 200, .inl g7_1)), (o5, .inr (5, [.ref o7, .ref a5_1, .int v5_2, .int v5_3, .int v5_4, .int v5_5, .int v5_6, .int v5_7, .int v5_8, .int v5_9])), (a5_1, .inl (cyI, 400, .inl g5_1))]) hD hS hA [0, 1, 2, 4, 5] rfl
          refine va_callv (va_runV (As := [.int v0_2]) (rest := []) ⟨hx, hb, hml, hown, hts⟩ (c_X5_pullType l dC dI cyI cyZ cyJ H.size o7 a7_0 a7_1 v7_2 g7_0 g7_1 o5 a5_1 v5_2 v5_3 v5_4 v5_5 v5_6 v5_7 v5_8 v5_9 g5_1 v0_2 r_24 h_24) (cwV 1 hts gX6_leave_X5_pullType rfl rfl rfl (by decide +kernel) ⟨Nat.le_of_ble_eq_true rfl, Nat.le_of_ble_eq_true rfl⟩) (x_pVD hN hK hPc hDc (ci := 5) (q0 := 3) rfl rfl) rfl rfl hl.1 rfl (lv_room (Nat.le_of_ble_eq_true rfl)) dX6_leave_112 ⟨Nat.le_of_ble_eq_true rfl, Nat.le_of_ble_eq_true rfl⟩) hS (fun q _ h => hFc q h) hFc (fun u t H1 locs ht hvm hw hB hz1 hk1 hS => ?_)
          obtain ⟨hP1, hK1, hD1⟩ := hB
          rw [ht] at hP1
          obtain ⟨hP, hD⟩ := va_join (wr := [(o0, .inr (0, [.int v0_0, .int v0_1, .int v0_2, .int v0_3, .int v0_4, .ref a0_5, .int v0_6, .ref a0_7, .ref a0_8, .ref a0_9, .int v0_10, .ref a0_11, .ref a0_12, .ref a0_13, .ref a0_14, .int v0_15, .ref a0_16])), (o6, .inr (6, [.ref o7, .ref o4, .ref o0, .ref o5]))]) (w1 := [(o7, .inr (7, [.ref a7_0, .ref a7_1, .int v7_2])), (a7_0, .inl (cyI, 200, .inl g7_0)), (a7_1, .inl (cyZ, 200, .inl g7_1)), (o5, .inr (5, [.ref o7, .ref a5_1, .int v5_2, .int (r_24.1), .int v5_4, .int v5_5, .int (r_24.2.1), .int v5_7, .int (r_24.2.2), .int v5_9])), (a5_1, .inl (cyI, 400, .inl g5_1))]) hP hD [0, 1, 2, 4, 5] [3, 6] rfl rfl (by decide) (by decide) hk1 hFc hP1 hD1
          clear hz1 hk1 hPc hDc hFc hP1 hK1 hD1 ht hvm t u
          generalize H1 = H at hP hS ⊢
          have hP : va_P (dC, dI) vwCl [(o0, .inr (0, [.int v0_0, .int v0_1, .int v0_2, .int v0_3, .int v0_4, .ref a0_5, .int v0_6, .ref a0_7, .ref a0_8, .ref a0_9, .int v0_10, .ref a0_11, .ref a0_12, .ref a0_13, .ref a0_14, .int v0_15, .ref a0_16])), (o6, .inr (6, [.ref o7, .ref o4, .ref o0, .ref o5])), (o7, .inr (7, [.ref a7_0, .ref a7_1, .int v7_2])), (a7_0, .inl (cyI, 200, .inl g7_0)), (a7_1, .inl (cyZ, 200, .inl g7_1)), (o5, .inr (5, [.ref o7, .ref a5_1, .int v5_2, .int (r_24.1), .int v5_4, .int v5_5, .int (r_24.2.1), .int v5_7, .int (r_24.2.2), .int v5_9])), (a5_1, .inl (cyI, 400, .inl g5_1))] H := hP
          have hD : va_D A [(o0, .inr (0, [.int v0_0, .int v0_1, .int v0_2, .int v0_3, .int v0_4, .ref a0_5, .int v0_6, .ref a0_7, .ref a0_8, .ref a0_9, .int v0_10, .ref a0_11, .ref a0_12, .ref a0_13, .ref a0_14, .int v0_15, .ref a0_16])), (o6, .inr (6, [.ref o7, .ref o4, .ref o0, .ref o5])), (o7, .inr (7, [.ref a7_0, .ref a7_1, .int v7_2])), (a7_0, .inl (cyI, 200, .inl g7_0)), (a7_1, .inl (cyZ, 200, .inl g7_1)), (o5, .inr (5, [.ref o7, .ref a5_1, .int v5_2, .int (r_24.1), .int v5_4, .int v5_5, .int (r_24.2.1), .int v5_7, .int (r_24.2.2), .int v5_9])), (a5_1, .inl (cyI, 400, .inl g5_1))] := hD
          obtain rfl := Option.some.inj hf
          have hP9 := hP.sub (ws' := [(o7, .inr (7, [.ref a7_0, .ref a7_1, .int v7_2])), (a7_0, .inl (cyI, 200, .inl g7_0)), (a7_1, .inl (cyZ, 200, .inl g7_1)), (o0, .inr (0, [.int v0_0, .int v0_1, .int v0_2, .int v0_3, .int v0_4, .ref a0_5, .int v0_6, .ref a0_7, .ref a0_8, .ref a0_9, .int v0_10, .ref a0_11, .ref a0_12, .ref a0_13, .ref a0_14, .int v0_15, .ref a0_16])), (o5, .inr (5, [.ref o7, .ref a5_1, .int v5_2, .int (r_24.1), .int v5_4, .int v5_5, .int (r_24.2.1), .int v5_7, .int (r_24.2.2), .int v5_9])), (a5_1, .inl (cyI, 400, .inl g5_1)), (o6, .inr (6, [.ref o7, .ref o4, .ref o0, .ref o5]))]) [2, 3, 4, 0, 5, 6, 1] rfl
          have hD9 := hD.sub (ws' := [(o7, .inr (7, [.ref a7_0, .ref a7_1, .int v7_2])), (a7_0, .inl (cyI, 200, .inl g7_0)), (a7_1, .inl (cyZ, 200, .inl g7_1)), (o0, .inr (0, [.int v0_0, .int v0_1, .int v0_2, .int v0_3, .int v0_4, .ref a0_5, .int v0_6, .ref a0_7, .ref a0_8, .ref a0_9, .int v0_10, .ref a0_11, .ref a0_12, .ref a0_13, .ref a0_14, .int v0_15, .ref a0_16])), (o5, .inr (5, [.ref o7, .ref a5_1, .int v5_2, .int (r_24.1), .int v5_4, .int v5_5, .int (r_24.2.1), .int v5_7, .int (r_24.2.2), .int v5_9])), (a5_1, .inl (cyI, 400, .inl g5_1)), (o6, .inr (6, [.ref o7, .ref o4, .ref o0, .ref o5]))]) [2, 3, 4, 0, 5, 6, 1] (by decide) rfl
          exact W.vret hx hb hr (fun t ht hW => ⟨⟨(), rfl, trivial, by rw [ht]; exact hP9, va_K.moved hW.alike hK, hD9⟩, hS.F ht⟩) hS.2.2 dX6_leave_115
      · replace hf := x_ip c_21 hf
        refine lv_aload_n hx hb dX6_leave_29 rfl (lv_at hl 1 rfl) ?_
        refine va_get (D := (dC, dI)) (ci := 6) (v := .ref o5) (C := RX6) (T := TX6) (N := 4) hx hb hts i_X6_leave_X6 hown hK hP 6 rfl rfl 3 (by decide) k_2 (fun _ h9 => h9) rfl dX6_leave_30 ?_
        refine va_getN (D := (dC, dI)) (ci := 5) (v := .int v5_5) (C := RX5) (T := TX5) (N := 10) hx hb hts i_X6_leave_X5 hown hK hP 4 rfl rfl 5 (by decide) ((hN.1 ("FlowJudge$Steps", 167, "FlowJudge$Places", "made", "I") (List.mem_of_getElem? (i := 50) rfl)).use rfl) (fun _ h9 => h9) rfl dX6_leave_33 ?_
        refine lv_iconst (v := 1) hx hb dX6_leave_36 (by decide) ?_
        refine lv_icmp_ne (tgt := 44) hx hb dX6_leave_37 (by decide) (fun c_25 => ?_) (fun c_25 => ?_)
        · replace hf := x_in c_25 hf
          refine lv_iconst (v := 0) hx hb dX6_leave_44 (by decide) ?_
          refine lv_istore_n (lv' := [(3, .int 0), (2, .int v0_2), (0, .ref o6), (1, .int p1)]) hx hb dX6_leave_45 rfl hl (by decide) rfl (fun ls hl => ?_)
          refine lv_goto (tgt := 87) hx hb dX6_leave_46 (by decide) ?_
          refine lv_iload_n hx hb dX6_leave_87 rfl (lv_at hl 0 rfl) ?_
          refine lv_if_ne (tgt := 102) hx hb dX6_leave_88 (by decide) (fun c_26 => absurd (by decide) c_26) (fun _ => ?_)
          refine lv_aload_n hx hb dX6_leave_91 rfl (lv_at hl 2 rfl) ?_
          refine va_get (D := (dC, dI)) (ci := 6) (v := .ref o5) (C := RX6) (T := TX6) (N := 4) hx hb hts i_X6_leave_X6 hown hK hP 6 rfl rfl 3 (by decide) k_2 (fun _ h9 => h9) rfl dX6_leave_92 ?_
          refine lv_iconst (v := 1) hx hb dX6_leave_95 (by decide) ?_
          refine va_putN (D := (dC, dI)) (ci := 5) (v := .int 1) (ty := .boolean) (C := RX5) (T := TX5) (N := 10) hx hb hts i_X6_leave_X5 tyX5 tyX5_ok nmX5 hown hK hP hD hS 4 rfl rfl 6 (by decide) ((hN.1 ("FlowJudge$Steps", 105, "FlowJudge$Places", "refused", "Z") (List.mem_of_getElem? (i := 47) rfl)).use rfl) (fun _ h9 => h9) rfl (by decide +kernel) rfl rfl (Nat.le_of_ble_eq_true rfl) dX6_leave_96 (fun H locs hP hD hS => ?_)
          have hP : va_P (dC, dI) vwCl [(o7, .inr (7, [.ref a7_0, .ref a7_1, .int v7_2])), (a7_0, .inl (cyI, 200, .inl g7_0)), (a7_1, .inl (cyZ, 200, .inl g7_1)), (o0, .inr (0, [.int v0_0, .int v0_1, .int v0_2, .int v0_3, .int v0_4, .ref a0_5, .int v0_6, .ref a0_7, .ref a0_8, .ref a0_9, .int v0_10, .ref a0_11, .ref a0_12, .ref a0_13, .ref a0_14, .int v0_15, .ref a0_16])), (o5, .inr (5, [.ref o7, .ref a5_1, .int v5_2, .int v5_3, .int v5_4, .int v5_5, .int 1, .int v5_7, .int v5_8, .int v5_9])), (a5_1, .inl (cyI, 400, .inl g5_1)), (o6, .inr (6, [.ref o7, .ref o4, .ref o0, .ref o5]))] H := hP
          have hD : va_D A [(o7, .inr (7, [.ref a7_0, .ref a7_1, .int v7_2])), (a7_0, .inl (cyI, 200, .inl g7_0)), (a7_1, .inl (cyZ, 200, .inl g7_1)), (o0, .inr (0, [.int v0_0, .int v0_1, .int v0_2, .int v0_3, .int v0_4, .ref a0_5, .int v0_6, .ref a0_7, .ref a0_8, .ref a0_9, .int v0_10, .ref a0_11, .ref a0_12, .ref a0_13, .ref a0_14, .int v0_15, .ref a0_16])), (o5, .inr (5, [.ref o7, .ref a5_1, .int v5_2, .int v5_3, .int v5_4, .int v5_5, .int 1, .int v5_7, .int v5_8, .int v5_9])), (a5_1, .inl (cyI, 400, .inl g5_1)), (o6, .inr (6, [.ref o7, .ref o4, .ref o0, .ref o5]))] := hD
          refine lv_goto (tgt := 115) hx hb dX6_leave_99 (by decide) ?_
          obtain rfl := Option.some.inj hf
          have hP9 := hP.sub (ws' := [(o7, .inr (7, [.ref a7_0, .ref a7_1, .int v7_2])), (a7_0, .inl (cyI, 200, .inl g7_0)), (a7_1, .inl (cyZ, 200, .inl g7_1)), (o0, .inr (0, [.int v0_0, .int v0_1, .int v0_2, .int v0_3, .int v0_4, .ref a0_5, .int v0_6, .ref a0_7, .ref a0_8, .ref a0_9, .int v0_10, .ref a0_11, .ref a0_12, .ref a0_13, .ref a0_14, .int v0_15, .ref a0_16])), (o5, .inr (5, [.ref o7, .ref a5_1, .int v5_2, .int v5_3, .int v5_4, .int v5_5, .int 1, .int v5_7, .int v5_8, .int v5_9])), (a5_1, .inl (cyI, 400, .inl g5_1)), (o6, .inr (6, [.ref o7, .ref o4, .ref o0, .ref o5]))]) [0, 1, 2, 3, 4, 5, 6] rfl
          have hD9 := hD.sub (ws' := [(o7, .inr (7, [.ref a7_0, .ref a7_1, .int v7_2])), (a7_0, .inl (cyI, 200, .inl g7_0)), (a7_1, .inl (cyZ, 200, .inl g7_1)), (o0, .inr (0, [.int v0_0, .int v0_1, .int v0_2, .int v0_3, .int v0_4, .ref a0_5, .int v0_6, .ref a0_7, .ref a0_8, .ref a0_9, .int v0_10, .ref a0_11, .ref a0_12, .ref a0_13, .ref a0_14, .int v0_15, .ref a0_16])), (o5, .inr (5, [.ref o7, .ref a5_1, .int v5_2, .int v5_3, .int v5_4, .int v5_5, .int 1, .int v5_7, .int v5_8, .int v5_9])), (a5_1, .inl (cyI, 400, .inl g5_1)), (o6, .inr (6, [.ref o7, .ref o4, .ref o0, .ref o5]))]) [0, 1, 2, 3, 4, 5, 6] (by decide) rfl
          exact W.vret hx hb hr (fun t ht hW => ⟨⟨(), rfl, trivial, by rw [ht]; exact hP9, va_K.moved hW.alike hK, hD9⟩, hS.F ht⟩) hS.2.2 dX6_leave_115
        · replace hf := x_ip c_25 hf
          refine lv_iconst (v := 1) hx hb dX6_leave_40 (by decide) ?_
          refine lv_goto (tgt := 45) hx hb dX6_leave_41 (by decide) ?_
          refine lv_istore_n (lv' := [(3, .int 1), (2, .int v0_2), (0, .ref o6), (1, .int p1)]) hx hb dX6_leave_45 rfl hl (by decide) rfl (fun ls hl => ?_)
          refine lv_goto (tgt := 87) hx hb dX6_leave_46 (by decide) ?_
          refine lv_iload_n hx hb dX6_leave_87 rfl (lv_at hl 0 rfl) ?_
          refine lv_if_ne (tgt := 102) hx hb dX6_leave_88 (by decide) (fun _ => ?_) (fun c_27 => absurd c_27 (by decide))
          refine lv_iload_n hx hb dX6_leave_102 rfl (lv_at hl 3 rfl) ?_
          refine lv_iconst (v := 5) hx hb dX6_leave_103 (by decide) ?_
          refine lv_icmp_ge (tgt := 115) hx hb dX6_leave_104 (by decide) (fun c_28 => ?_) (fun c_28 => ?_)
          · replace hf := x_ip c_28 hf
            obtain rfl := Option.some.inj hf
            have hP9 := hP.sub (ws' := [(o7, .inr (7, [.ref a7_0, .ref a7_1, .int v7_2])), (a7_0, .inl (cyI, 200, .inl g7_0)), (a7_1, .inl (cyZ, 200, .inl g7_1)), (o0, .inr (0, [.int v0_0, .int v0_1, .int v0_2, .int v0_3, .int v0_4, .ref a0_5, .int v0_6, .ref a0_7, .ref a0_8, .ref a0_9, .int v0_10, .ref a0_11, .ref a0_12, .ref a0_13, .ref a0_14, .int v0_15, .ref a0_16])), (o5, .inr (5, [.ref o7, .ref a5_1, .int v5_2, .int v5_3, .int v5_4, .int v5_5, .int v5_6, .int v5_7, .int v5_8, .int v5_9])), (a5_1, .inl (cyI, 400, .inl g5_1)), (o6, .inr (6, [.ref o7, .ref o4, .ref o0, .ref o5]))]) [0, 1, 2, 3, 4, 5, 6] rfl
            have hD9 := hD.sub (ws' := [(o7, .inr (7, [.ref a7_0, .ref a7_1, .int v7_2])), (a7_0, .inl (cyI, 200, .inl g7_0)), (a7_1, .inl (cyZ, 200, .inl g7_1)), (o0, .inr (0, [.int v0_0, .int v0_1, .int v0_2, .int v0_3, .int v0_4, .ref a0_5, .int v0_6, .ref a0_7, .ref a0_8, .ref a0_9, .int v0_10, .ref a0_11, .ref a0_12, .ref a0_13, .ref a0_14, .int v0_15, .ref a0_16])), (o5, .inr (5, [.ref o7, .ref a5_1, .int v5_2, .int v5_3, .int v5_4, .int v5_5, .int v5_6, .int v5_7, .int v5_8, .int v5_9])), (a5_1, .inl (cyI, 400, .inl g5_1)), (o6, .inr (6, [.ref o7, .ref o4, .ref o0, .ref o5]))]) [0, 1, 2, 3, 4, 5, 6] (by decide) rfl
            exact W.vret hx hb hr (fun t ht hW => ⟨⟨(), rfl, trivial, by rw [ht]; exact hP9, va_K.moved hW.alike hK, hD9⟩, hS.F ht⟩) hS.2.2 dX6_leave_115
          · replace hf := x_in c_28 hf
            refine lv_aload_n hx hb dX6_leave_107 rfl (lv_at hl 2 rfl) ?_
            refine va_get (D := (dC, dI)) (ci := 6) (v := .ref o5) (C := RX6) (T := TX6) (N := 4) hx hb hts i_X6_leave_X6 hown hK hP 6 rfl rfl 3 (by decide) k_2 (fun _ h9 => h9) rfl dX6_leave_108 ?_
            refine lv_iload_n hx hb dX6_leave_111 rfl (lv_at hl 1 rfl) ?_
            obtain ⟨r_29, h_29, hf⟩ := x_bi hf
            have hPc := hP.sub (ws' := [(o7, .inr (7, [.ref a7_0, .ref a7_1, .int v7_2])), (a7_0, .inl (cyI, 200, .inl g7_0)), (a7_1, .inl (cyZ, 200, .inl g7_1)), (o5, .inr (5, [.ref o7, .ref a5_1, .int v5_2, .int v5_3, .int v5_4, .int v5_5, .int v5_6, .int v5_7, .int v5_8, .int v5_9])), (a5_1, .inl (cyI, 400, .inl g5_1))]) [0, 1, 2, 4, 5] rfl
            have hDc := hD.sub (ws' := [(o7, .inr (7, [.ref a7_0, .ref a7_1, .int v7_2])), (a7_0, .inl (cyI, 200, .inl g7_0)), (a7_1, .inl (cyZ, 200, .inl g7_1)), (o5, .inr (5, [.ref o7, .ref a5_1, .int v5_2, .int v5_3, .int v5_4, .int v5_5, .int v5_6, .int v5_7, .int v5_8, .int v5_9])), (a5_1, .inl (cyI, 400, .inl g5_1))]) [0, 1, 2, 4, 5] (by decide) rfl
            have hFc := va_free (wc := [(o7, .inr (7, [.ref a7_0, .ref a7_1, .int v7_2])), (a7_0, .inl (cyI, 200, .inl g7_0)), (a7_1, .inl (cyZ, 200, .inl g7_1)), (o5, .inr (5, [.ref o7, .ref a5_1, .int v5_2, .int v5_3, .int v5_4, .int v5_5, .int v5_6, .int v5_7, .int v5_8, .int v5_9])), (a5_1, .inl (cyI, 400, .inl g5_1))]) hD hS hA [0, 1, 2, 4, 5] rfl
            refine va_callv (va_runV (As := [.int v0_2]) (rest := []) ⟨hx, hb, hml, hown, hts⟩ (c_X5_pullType l dC dI cyI cyZ cyJ H.size o7 a7_0 a7_1 v7_2 g7_0 g7_1 o5 a5_1 v5_2 v5_3 v5_4 v5_5 v5_6 v5_7 v5_8 v5_9 g5_1 v0_2 r_29 h_29) (cwV 1 hts gX6_leave_X5_pullType rfl rfl rfl (by decide +kernel) ⟨Nat.le_of_ble_eq_true rfl, Nat.le_of_ble_eq_true rfl⟩) (x_pVD hN hK hPc hDc (ci := 5) (q0 := 3) rfl rfl) rfl rfl hl.1 rfl (lv_room (Nat.le_of_ble_eq_true rfl)) dX6_leave_112 ⟨Nat.le_of_ble_eq_true rfl, Nat.le_of_ble_eq_true rfl⟩) hS (fun q _ h => hFc q h) hFc (fun u t H1 locs ht hvm hw hB hz1 hk1 hS => ?_)
            obtain ⟨hP1, hK1, hD1⟩ := hB
            rw [ht] at hP1
            obtain ⟨hP, hD⟩ := va_join (wr := [(o0, .inr (0, [.int v0_0, .int v0_1, .int v0_2, .int v0_3, .int v0_4, .ref a0_5, .int v0_6, .ref a0_7, .ref a0_8, .ref a0_9, .int v0_10, .ref a0_11, .ref a0_12, .ref a0_13, .ref a0_14, .int v0_15, .ref a0_16])), (o6, .inr (6, [.ref o7, .ref o4, .ref o0, .ref o5]))]) (w1 := [(o7, .inr (7, [.ref a7_0, .ref a7_1, .int v7_2])), (a7_0, .inl (cyI, 200, .inl g7_0)), (a7_1, .inl (cyZ, 200, .inl g7_1)), (o5, .inr (5, [.ref o7, .ref a5_1, .int v5_2, .int (r_29.1), .int v5_4, .int v5_5, .int (r_29.2.1), .int v5_7, .int (r_29.2.2), .int v5_9])), (a5_1, .inl (cyI, 400, .inl g5_1))]) hP hD [0, 1, 2, 4, 5] [3, 6] rfl rfl (by decide) (by decide) hk1 hFc hP1 hD1
            clear hz1 hk1 hPc hDc hFc hP1 hK1 hD1 ht hvm t u
            generalize H1 = H at hP hS ⊢
            have hP : va_P (dC, dI) vwCl [(o0, .inr (0, [.int v0_0, .int v0_1, .int v0_2, .int v0_3, .int v0_4, .ref a0_5, .int v0_6, .ref a0_7, .ref a0_8, .ref a0_9, .int v0_10, .ref a0_11, .ref a0_12, .ref a0_13, .ref a0_14, .int v0_15, .ref a0_16])), (o6, .inr (6, [.ref o7, .ref o4, .ref o0, .ref o5])), (o7, .inr (7, [.ref a7_0, .ref a7_1, .int v7_2])), (a7_0, .inl (cyI, 200, .inl g7_0)), (a7_1, .inl (cyZ, 200, .inl g7_1)), (o5, .inr (5, [.ref o7, .ref a5_1, .int v5_2, .int (r_29.1), .int v5_4, .int v5_5, .int (r_29.2.1), .int v5_7, .int (r_29.2.2), .int v5_9])), (a5_1, .inl (cyI, 400, .inl g5_1))] H := hP
            have hD : va_D A [(o0, .inr (0, [.int v0_0, .int v0_1, .int v0_2, .int v0_3, .int v0_4, .ref a0_5, .int v0_6, .ref a0_7, .ref a0_8, .ref a0_9, .int v0_10, .ref a0_11, .ref a0_12, .ref a0_13, .ref a0_14, .int v0_15, .ref a0_16])), (o6, .inr (6, [.ref o7, .ref o4, .ref o0, .ref o5])), (o7, .inr (7, [.ref a7_0, .ref a7_1, .int v7_2])), (a7_0, .inl (cyI, 200, .inl g7_0)), (a7_1, .inl (cyZ, 200, .inl g7_1)), (o5, .inr (5, [.ref o7, .ref a5_1, .int v5_2, .int (r_29.1), .int v5_4, .int v5_5, .int (r_29.2.1), .int v5_7, .int (r_29.2.2), .int v5_9])), (a5_1, .inl (cyI, 400, .inl g5_1))] := hD
            obtain rfl := Option.some.inj hf
            have hP9 := hP.sub (ws' := [(o7, .inr (7, [.ref a7_0, .ref a7_1, .int v7_2])), (a7_0, .inl (cyI, 200, .inl g7_0)), (a7_1, .inl (cyZ, 200, .inl g7_1)), (o0, .inr (0, [.int v0_0, .int v0_1, .int v0_2, .int v0_3, .int v0_4, .ref a0_5, .int v0_6, .ref a0_7, .ref a0_8, .ref a0_9, .int v0_10, .ref a0_11, .ref a0_12, .ref a0_13, .ref a0_14, .int v0_15, .ref a0_16])), (o5, .inr (5, [.ref o7, .ref a5_1, .int v5_2, .int (r_29.1), .int v5_4, .int v5_5, .int (r_29.2.1), .int v5_7, .int (r_29.2.2), .int v5_9])), (a5_1, .inl (cyI, 400, .inl g5_1)), (o6, .inr (6, [.ref o7, .ref o4, .ref o0, .ref o5]))]) [2, 3, 4, 0, 5, 6, 1] rfl
            have hD9 := hD.sub (ws' := [(o7, .inr (7, [.ref a7_0, .ref a7_1, .int v7_2])), (a7_0, .inl (cyI, 200, .inl g7_0)), (a7_1, .inl (cyZ, 200, .inl g7_1)), (o0, .inr (0, [.int v0_0, .int v0_1, .int v0_2, .int v0_3, .int v0_4, .ref a0_5, .int v0_6, .ref a0_7, .ref a0_8, .ref a0_9, .int v0_10, .ref a0_11, .ref a0_12, .ref a0_13, .ref a0_14, .int v0_15, .ref a0_16])), (o5, .inr (5, [.ref o7, .ref a5_1, .int v5_2, .int (r_29.1), .int v5_4, .int v5_5, .int (r_29.2.1), .int v5_7, .int (r_29.2.2), .int v5_9])), (a5_1, .inl (cyI, 400, .inl g5_1)), (o6, .inr (6, [.ref o7, .ref o4, .ref o0, .ref o5]))]) [2, 3, 4, 0, 5, 6, 1] (by decide) rfl
            exact W.vret hx hb hr (fun t ht hW => ⟨⟨(), rfl, trivial, by rw [ht]; exact hP9, va_K.moved hW.alike hK, hD9⟩, hS.F ht⟩) hS.2.2 dX6_leave_115

def f_X6_pullOwner (v7_2 : Int32) (g7_0 : Nat → Int32) (g7_1 : Nat → Int32) (v5_2 : Int32) (v5_3 : Int32) (v5_6 : Int32) (v5_8 : Int32) (v5_9 : Int32) (g5_1 : Nat → Int32) (p1 : Int32) (p2 : Int32) : Option (Int32 × Int32 × Int32) := if p2 = (0 : Int32) then (f_X5_pullType v7_2 g7_0 g7_1 v5_2 v5_3 v5_6 v5_8 v5_9 g5_1 p1) >>= (fun r_2 => some (r_2.1, r_2.2.1, r_2.2.2)) else if (v5_3 - (1 : Int32)) < v5_2 then (f_X5_pullType v7_2 g7_0 g7_1 v5_2 v5_3 v5_6 v5_8 v5_9 g5_1 p1) >>= (fun r_4 => some (r_4.1, r_4.2.1, r_4.2.2)) else if x_gd (v5_3 - (1 : Int32)) 400 = true then if (g5_1 (Int32.toNatClampNeg (v5_3 - (1 : Int32)))) = (6 : Int32) then (f_X5_pull v5_2 v5_3 v5_6 g5_1) >>= (fun r_8 => some (r_8.2.1, r_8.2.2, v5_8)) else (f_X5_pullType v7_2 g7_0 g7_1 v5_2 v5_3 v5_6 v5_8 v5_9 g5_1 p1) >>= (fun r_7 => some (r_7.1, r_7.2.1, r_7.2.2)) else none
theorem i_X6_pullOwner_X5 : ∀ w ∈ wsX50, w ∈ wsX6_pullOwner := fun _ h => List.mem_cons_of_mem _ (List.mem_append_left _ (List.mem_append_right _ h))
theorem i_X6_pullOwner_X6 : ∀ w ∈ wsX60, w ∈ wsX6_pullOwner := fun _ h => List.mem_cons_of_mem _ (List.mem_append_left _ (List.mem_append_left _ (List.mem_append_right _ h)))
set_option maxHeartbeats 4000000 in
set_option maxRecDepth 100000 in
theorem c_X6_pullOwner (l : Launch) (dC : Nat → ClassId) (dI : Nat → Nat → Nat) (cyI cyZ cyJ : ClassId) (sz : Nat) (o7 : Nat) (a7_0 : Nat) (a7_1 : Nat) (v7_2 : Int32) (g7_0 : Nat → Int32) (g7_1 : Nat → Int32) (o5 : Nat) (a5_1 : Nat) (v5_2 : Int32) (v5_3 : Int32) (v5_4 : Int32) (v5_5 : Int32) (v5_6 : Int32) (v5_7 : Int32) (v5_8 : Int32) (v5_9 : Int32) (g5_1 : Nat → Int32) (o6 : Nat) (o4 : Nat) (o0 : Nat) (p1 : Int32) (p2 : Int32) (R : Int32 × Int32 × Int32) (hf : f_X6_pullOwner v7_2 g7_0 g7_1 v5_2 v5_3 v5_6 v5_8 v5_9 g5_1 p1 p2 = some R) : Met l yX6_pullOwner wsX6_pullOwner ({ frames := 3, cells := 0, slots := 0, locals := 72 }) (va_Pc [.ref o6, .int p1, .int p2] (x_PreD (dC, dI) (x_T cyI cyZ cyJ) [(o7, .inr (7, [.ref a7_0, .ref a7_1, .int v7_2])), (a7_0, .inl (cyI, 200, .inl g7_0)), (a7_1, .inl (cyZ, 200, .inl g7_1)), (o5, .inr (5, [.ref o7, .ref a5_1, .int v5_2, .int v5_3, .int v5_4, .int v5_5, .int v5_6, .int v5_7, .int v5_8, .int v5_9])), (a5_1, .inl (cyI, 400, .inl g5_1)), (o6, .inr (6, [.ref o7, .ref o4, .ref o0, .ref o5]))] sz)) (va_Qv (fun _ : Unit => True) (fun (_ : Unit) (t : State) => va_P (dC, dI) vwCl [(o7, .inr (7, [.ref a7_0, .ref a7_1, .int v7_2])), (a7_0, .inl (cyI, 200, .inl g7_0)), (a7_1, .inl (cyZ, 200, .inl g7_1)), (o5, .inr (5, [.ref o7, .ref a5_1, .int v5_2, .int (R.1), .int v5_4, .int v5_5, .int (R.2.1), .int v5_7, .int (R.2.2), .int v5_9])), (a5_1, .inl (cyI, 400, .inl g5_1)), (o6, .inr (6, [.ref o7, .ref o4, .ref o0, .ref o5]))] t.heap ∧ va_K (dC, dI) vwCl (x_T cyI cyZ cyJ) t ∧ va_D (va_A [(o7, .inr (7, [.ref a7_0, .ref a7_1, .int v7_2])), (a7_0, .inl (cyI, 200, .inl g7_0)), (a7_1, .inl (cyZ, 200, .inl g7_1)), (o5, .inr (5, [.ref o7, .ref a5_1, .int v5_2, .int v5_3, .int v5_4, .int v5_5, .int v5_6, .int v5_7, .int v5_8, .int v5_9])), (a5_1, .inl (cyI, 400, .inl g5_1)), (o6, .inr (6, [.ref o7, .ref o4, .ref o0, .ref o5]))] sz) [(o7, .inr (7, [.ref a7_0, .ref a7_1, .int v7_2])), (a7_0, .inl (cyI, 200, .inl g7_0)), (a7_1, .inl (cyZ, 200, .inl g7_1)), (o5, .inr (5, [.ref o7, .ref a5_1, .int v5_2, .int (R.1), .int v5_4, .int v5_5, .int (R.2.1), .int v5_7, .int (R.2.2), .int v5_9])), (a5_1, .inl (cyI, 400, .inl g5_1)), (o6, .inr (6, [.ref o7, .ref o4, .ref o0, .ref o5]))]) (va_A [(o7, .inr (7, [.ref a7_0, .ref a7_1, .int v7_2])), (a7_0, .inl (cyI, 200, .inl g7_0)), (a7_1, .inl (cyZ, 200, .inl g7_1)), (o5, .inr (5, [.ref o7, .ref a5_1, .int v5_2, .int v5_3, .int v5_4, .int v5_5, .int v5_6, .int v5_7, .int v5_8, .int v5_9])), (a5_1, .inl (cyI, 400, .inl g5_1)), (o6, .inr (6, [.ref o7, .ref o4, .ref o0, .ref o5]))] sz)) 0 0 (va_A [(o7, .inr (7, [.ref a7_0, .ref a7_1, .int v7_2])), (a7_0, .inl (cyI, 200, .inl g7_0)), (a7_1, .inl (cyZ, 200, .inl g7_1)), (o5, .inr (5, [.ref o7, .ref a5_1, .int v5_2, .int v5_3, .int v5_4, .int v5_5, .int v5_6, .int v5_7, .int v5_8, .int v5_9])), (a5_1, .inl (cyI, 400, .inl g5_1)), (o6, .inr (6, [.ref o7, .ref o4, .ref o0, .ref o5]))] sz) := by
  refine Met.ofW (cc := cX6_pullOwner) (maxL := 4) (ret := none) (by decide) rfl ?_
  intro p e s m args below meth c s₁ B hml hv
  obtain ⟨rfl, ⟨hsz, hP, hK, hN⟩, hD0⟩ := hv
  have hx := B.exec
  have hb := B.bytes
  have hr := B.returns
  have hts := atoms_spec (ws := wsX6_pullOwner) B.pre
  have hown : s.vm.findClass RX6 = some m.cls := findClass_of_methodNamed B.named
  have k_1 := hts (.fieldLink RX6 23 "FlowJudge$Steps" "places" "LFlowJudge$Places;") (by decide +kernel)
  subst hsz
  have hD := hD0.self (sz := s.heap.size)
  generalize hAe : va_A [(o7, .inr (7, [.ref a7_0, .ref a7_1, .int v7_2])), (a7_0, .inl (cyI, 200, .inl g7_0)), (a7_1, .inl (cyZ, 200, .inl g7_1)), (o5, .inr (5, [.ref o7, .ref a5_1, .int v5_2, .int v5_3, .int v5_4, .int v5_5, .int v5_6, .int v5_7, .int v5_8, .int v5_9])), (a5_1, .inl (cyI, 400, .inl g5_1)), (o6, .inr (6, [.ref o7, .ref o4, .ref o0, .ref o5]))] s.heap.size = A at hD ⊢
  have hA : ∀ q : Nat, s.heap.size ≤ q → A q := fun q h => by rw [← hAe]; exact Or.inr h
  have hP : va_P (dC, dI) vwCl [(o7, .inr (7, [.ref a7_0, .ref a7_1, .int v7_2])), (a7_0, .inl (cyI, 200, .inl g7_0)), (a7_1, .inl (cyZ, 200, .inl g7_1)), (o5, .inr (5, [.ref o7, .ref a5_1, .int v5_2, .int v5_3, .int v5_4, .int v5_5, .int v5_6, .int v5_7, .int v5_8, .int v5_9])), (a5_1, .inl (cyI, 400, .inl g5_1)), (o6, .inr (6, [.ref o7, .ref o4, .ref o0, .ref o5]))] s.heap := hP
  have hl := lv_entry ([.ref o6, .int p1, .int p2]) (n := 4) (Nat.le_of_ble_eq_true rfl)
  rw [lg_entry_eq]
  generalize (lg_sl ([.ref o6, .int p1, .int p2]) ++ List.replicate (4 - (lg_sl ([.ref o6, .int p1, .int p2])).length) Slot.unset).toArray = ls at hl ⊢
  have hl : lv_has ls 4 [(0, .ref o6), (1, .int p1), (2, .int p2)] := hl
  obtain ⟨H, hH⟩ : ∃ z, z = s.heap := ⟨_, rfl⟩
  refine x_here hH ?_
  have hP : va_P (dC, dI) vwCl [(o7, .inr (7, [.ref a7_0, .ref a7_1, .int v7_2])), (a7_0, .inl (cyI, 200, .inl g7_0)), (a7_1, .inl (cyZ, 200, .inl g7_1)), (o5, .inr (5, [.ref o7, .ref a5_1, .int v5_2, .int v5_3, .int v5_4, .int v5_5, .int v5_6, .int v5_7, .int v5_8, .int v5_9])), (a5_1, .inl (cyI, 400, .inl g5_1)), (o6, .inr (6, [.ref o7, .ref o4, .ref o0, .ref o5]))] H := by rw [hH]; exact hP
  have hS : va_S A s.heap H [] := by rw [hH]; exact va_S.rf
  clear hH
  obtain ⟨locs, hlo⟩ : ∃ z : List Loc, z = [] := ⟨_, rfl⟩
  refine x_herl hlo ?_
  have hS : va_S A s.heap H locs := by rw [hlo]; exact hS
  clear hlo
  unfold f_X6_pullOwner at hf
  refine lv_aload_n hx hb dX6_pullOwner_0 rfl (lv_at hl 0 rfl) ?_
  refine va_get (D := (dC, dI)) (ci := 6) (v := .ref o5) (C := RX6) (T := TX6) (N := 4) hx hb hts i_X6_pullOwner_X6 hown hK hP 5 rfl rfl 3 (by decide) k_1 (fun _ h9 => h9) rfl dX6_pullOwner_1 ?_
  refine va_getN (D := (dC, dI)) (ci := 5) (v := .int v5_3) (C := RX5) (T := TX5) (N := 10) hx hb hts i_X6_pullOwner_X5 hown hK hP 3 rfl rfl 3 (by decide) ((hN.1 ("FlowJudge$Steps", 188, "FlowJudge$Places", "top", "I") (List.mem_of_getElem? (i := 54) rfl)).use rfl) (fun _ h9 => h9) rfl dX6_pullOwner_4 ?_
  refine lv_iconst (v := 1) hx hb dX6_pullOwner_7 (by decide) ?_
  refine lv_isub hx hb dX6_pullOwner_8 ?_
  refine lv_istore_n (lv' := [(3, .int (v5_3 - (1 : Int32))), (0, .ref o6), (1, .int p1), (2, .int p2)]) hx hb dX6_pullOwner_9 rfl hl (by decide) rfl (fun ls hl => ?_)
  refine lv_iload_n hx hb dX6_pullOwner_10 rfl (lv_at hl 3 rfl) ?_
  refine lv_if_eq (tgt := 50) hx hb dX6_pullOwner_11 (by decide) (fun c_1 => ?_) (fun c_1 => ?_)
  · replace hf := x_ip c_1 hf
    refine lv_aload_n hx hb dX6_pullOwner_50 rfl (lv_at hl 1 rfl) ?_
    refine va_get (D := (dC, dI)) (ci := 6) (v := .ref o5) (C := RX6) (T := TX6) (N := 4) hx hb hts i_X6_pullOwner_X6 hown hK hP 5 rfl rfl 3 (by decide) k_1 (fun _ h9 => h9) rfl dX6_pullOwner_51 ?_
    refine lv_iload_n hx hb dX6_pullOwner_54 rfl (lv_at hl 2 rfl) ?_
    obtain ⟨r_2, h_2, hf⟩ := x_bi hf
    have hPc := hP.sub (ws' := [(o7, .inr (7, [.ref a7_0, .ref a7_1, .int v7_2])), (a7_0, .inl (cyI, 200, .inl g7_0)), (a7_1, .inl (cyZ, 200, .inl g7_1)), (o5, .inr (5, [.ref o7, .ref a5_1, .int v5_2, .int v5_3, .int v5_4, .int v5_5, .int v5_6, .int v5_7, .int v5_8, .int v5_9])), (a5_1, .inl (cyI, 400, .inl g5_1))]) [0, 1, 2, 3, 4] rfl
    have hDc := hD.sub (ws' := [(o7, .inr (7, [.ref a7_0, .ref a7_1, .int v7_2])), (a7_0, .inl (cyI, 200, .inl g7_0)), (a7_1, .inl (cyZ, 200, .inl g7_1)), (o5, .inr (5, [.ref o7, .ref a5_1, .int v5_2, .int v5_3, .int v5_4, .int v5_5, .int v5_6, .int v5_7, .int v5_8, .int v5_9])), (a5_1, .inl (cyI, 400, .inl g5_1))]) [0, 1, 2, 3, 4] (by decide) rfl
    have hFc := va_free (wc := [(o7, .inr (7, [.ref a7_0, .ref a7_1, .int v7_2])), (a7_0, .inl (cyI, 200, .inl g7_0)), (a7_1, .inl (cyZ, 200, .inl g7_1)), (o5, .inr (5, [.ref o7, .ref a5_1, .int v5_2, .int v5_3, .int v5_4, .int v5_5, .int v5_6, .int v5_7, .int v5_8, .int v5_9])), (a5_1, .inl (cyI, 400, .inl g5_1))]) hD hS hA [0, 1, 2, 3, 4] rfl
    refine va_callv (va_runV (As := [.int p1]) (rest := []) ⟨hx, hb, hml, hown, hts⟩ (c_X5_pullType l dC dI cyI cyZ cyJ H.size o7 a7_0 a7_1 v7_2 g7_0 g7_1 o5 a5_1 v5_2 v5_3 v5_4 v5_5 v5_6 v5_7 v5_8 v5_9 g5_1 p1 r_2 h_2) (cwV 1 hts gX6_pullOwner_X5_pullType rfl rfl rfl (by decide +kernel) ⟨Nat.le_of_ble_eq_true rfl, Nat.le_of_ble_eq_true rfl⟩) (x_pVD hN hK hPc hDc (ci := 5) (q0 := 3) rfl rfl) rfl rfl hl.1 rfl (lv_room (Nat.le_of_ble_eq_true rfl)) dX6_pullOwner_55 ⟨Nat.le_of_ble_eq_true rfl, Nat.le_of_ble_eq_true rfl⟩) hS (fun q _ h => hFc q h) hFc (fun u t H1 locs ht hvm hw hB hz1 hk1 hS => ?_)
    obtain ⟨hP1, hK1, hD1⟩ := hB
    rw [ht] at hP1
    obtain ⟨hP, hD⟩ := va_join (wr := [(o6, .inr (6, [.ref o7, .ref o4, .ref o0, .ref o5]))]) (w1 := [(o7, .inr (7, [.ref a7_0, .ref a7_1, .int v7_2])), (a7_0, .inl (cyI, 200, .inl g7_0)), (a7_1, .inl (cyZ, 200, .inl g7_1)), (o5, .inr (5, [.ref o7, .ref a5_1, .int v5_2, .int (r_2.1), .int v5_4, .int v5_5, .int (r_2.2.1), .int v5_7, .int (r_2.2.2), .int v5_9])), (a5_1, .inl (cyI, 400, .inl g5_1))]) hP hD [0, 1, 2, 3, 4] [5] rfl rfl (by decide) (by decide) hk1 hFc hP1 hD1
    clear hz1 hk1 hPc hDc hFc hP1 hK1 hD1 ht hvm t u
    generalize H1 = H at hP hS ⊢
    have hP : va_P (dC, dI) vwCl [(o6, .inr (6, [.ref o7, .ref o4, .ref o0, .ref o5])), (o7, .inr (7, [.ref a7_0, .ref a7_1, .int v7_2])), (a7_0, .inl (cyI, 200, .inl g7_0)), (a7_1, .inl (cyZ, 200, .inl g7_1)), (o5, .inr (5, [.ref o7, .ref a5_1, .int v5_2, .int (r_2.1), .int v5_4, .int v5_5, .int (r_2.2.1), .int v5_7, .int (r_2.2.2), .int v5_9])), (a5_1, .inl (cyI, 400, .inl g5_1))] H := hP
    have hD : va_D A [(o6, .inr (6, [.ref o7, .ref o4, .ref o0, .ref o5])), (o7, .inr (7, [.ref a7_0, .ref a7_1, .int v7_2])), (a7_0, .inl (cyI, 200, .inl g7_0)), (a7_1, .inl (cyZ, 200, .inl g7_1)), (o5, .inr (5, [.ref o7, .ref a5_1, .int v5_2, .int (r_2.1), .int v5_4, .int v5_5, .int (r_2.2.1), .int v5_7, .int (r_2.2.2), .int v5_9])), (a5_1, .inl (cyI, 400, .inl g5_1))] := hD
    obtain rfl := Option.some.inj hf
    have hP9 := hP.sub (ws' := [(o7, .inr (7, [.ref a7_0, .ref a7_1, .int v7_2])), (a7_0, .inl (cyI, 200, .inl g7_0)), (a7_1, .inl (cyZ, 200, .inl g7_1)), (o5, .inr (5, [.ref o7, .ref a5_1, .int v5_2, .int (r_2.1), .int v5_4, .int v5_5, .int (r_2.2.1), .int v5_7, .int (r_2.2.2), .int v5_9])), (a5_1, .inl (cyI, 400, .inl g5_1)), (o6, .inr (6, [.ref o7, .ref o4, .ref o0, .ref o5]))]) [1, 2, 3, 4, 5, 0] rfl
    have hD9 := hD.sub (ws' := [(o7, .inr (7, [.ref a7_0, .ref a7_1, .int v7_2])), (a7_0, .inl (cyI, 200, .inl g7_0)), (a7_1, .inl (cyZ, 200, .inl g7_1)), (o5, .inr (5, [.ref o7, .ref a5_1, .int v5_2, .int (r_2.1), .int v5_4, .int v5_5, .int (r_2.2.1), .int v5_7, .int (r_2.2.2), .int v5_9])), (a5_1, .inl (cyI, 400, .inl g5_1)), (o6, .inr (6, [.ref o7, .ref o4, .ref o0, .ref o5]))]) [1, 2, 3, 4, 5, 0] (by decide) rfl
    exact W.vret hx hb hr (fun t ht hW => ⟨⟨(), rfl, trivial, by rw [ht]; exact hP9, va_K.moved hW.alike hK, hD9⟩, hS.F ht⟩) hS.2.2 dX6_pullOwner_58
  · replace hf := x_in c_1 hf
    refine lv_iload_n hx hb dX6_pullOwner_14 rfl (lv_at hl 0 rfl) ?_
    refine lv_aload_n hx hb dX6_pullOwner_15 rfl (lv_at hl 1 rfl) ?_
    refine va_get (D := (dC, dI)) (ci := 6) (v := .ref o5) (C := RX6) (T := TX6) (N := 4) hx hb hts i_X6_pullOwner_X6 hown hK hP 5 rfl rfl 3 (by decide) k_1 (fun _ h9 => h9) rfl dX6_pullOwner_16 ?_
    refine va_getN (D := (dC, dI)) (ci := 5) (v := .int v5_2) (C := RX5) (T := TX5) (N := 10) hx hb hts i_X6_pullOwner_X5 hown hK hP 3 rfl rfl 2 (by decide) ((hN.1 ("FlowJudge$Steps", 191, "FlowJudge$Places", "locals", "I") (List.mem_of_getElem? (i := 55) rfl)).use rfl) (fun _ h9 => h9) rfl dX6_pullOwner_19 ?_
    refine lv_icmp_lt (tgt := 50) hx hb dX6_pullOwner_22 (by decide) (fun c_3 => ?_) (fun c_3 => ?_)
    · replace hf := x_ip c_3 hf
      refine lv_aload_n hx hb dX6_pullOwner_50 rfl (lv_at hl 1 rfl) ?_
      refine va_get (D := (dC, dI)) (ci := 6) (v := .ref o5) (C := RX6) (T := TX6) (N := 4) hx hb hts i_X6_pullOwner_X6 hown hK hP 5 rfl rfl 3 (by decide) k_1 (fun _ h9 => h9) rfl dX6_pullOwner_51 ?_
      refine lv_iload_n hx hb dX6_pullOwner_54 rfl (lv_at hl 2 rfl) ?_
      obtain ⟨r_4, h_4, hf⟩ := x_bi hf
      have hPc := hP.sub (ws' := [(o7, .inr (7, [.ref a7_0, .ref a7_1, .int v7_2])), (a7_0, .inl (cyI, 200, .inl g7_0)), (a7_1, .inl (cyZ, 200, .inl g7_1)), (o5, .inr (5, [.ref o7, .ref a5_1, .int v5_2, .int v5_3, .int v5_4, .int v5_5, .int v5_6, .int v5_7, .int v5_8, .int v5_9])), (a5_1, .inl (cyI, 400, .inl g5_1))]) [0, 1, 2, 3, 4] rfl
      have hDc := hD.sub (ws' := [(o7, .inr (7, [.ref a7_0, .ref a7_1, .int v7_2])), (a7_0, .inl (cyI, 200, .inl g7_0)), (a7_1, .inl (cyZ, 200, .inl g7_1)), (o5, .inr (5, [.ref o7, .ref a5_1, .int v5_2, .int v5_3, .int v5_4, .int v5_5, .int v5_6, .int v5_7, .int v5_8, .int v5_9])), (a5_1, .inl (cyI, 400, .inl g5_1))]) [0, 1, 2, 3, 4] (by decide) rfl
      have hFc := va_free (wc := [(o7, .inr (7, [.ref a7_0, .ref a7_1, .int v7_2])), (a7_0, .inl (cyI, 200, .inl g7_0)), (a7_1, .inl (cyZ, 200, .inl g7_1)), (o5, .inr (5, [.ref o7, .ref a5_1, .int v5_2, .int v5_3, .int v5_4, .int v5_5, .int v5_6, .int v5_7, .int v5_8, .int v5_9])), (a5_1, .inl (cyI, 400, .inl g5_1))]) hD hS hA [0, 1, 2, 3, 4] rfl
      refine va_callv (va_runV (As := [.int p1]) (rest := []) ⟨hx, hb, hml, hown, hts⟩ (c_X5_pullType l dC dI cyI cyZ cyJ H.size o7 a7_0 a7_1 v7_2 g7_0 g7_1 o5 a5_1 v5_2 v5_3 v5_4 v5_5 v5_6 v5_7 v5_8 v5_9 g5_1 p1 r_4 h_4) (cwV 1 hts gX6_pullOwner_X5_pullType rfl rfl rfl (by decide +kernel) ⟨Nat.le_of_ble_eq_true rfl, Nat.le_of_ble_eq_true rfl⟩) (x_pVD hN hK hPc hDc (ci := 5) (q0 := 3) rfl rfl) rfl rfl hl.1 rfl (lv_room (Nat.le_of_ble_eq_true rfl)) dX6_pullOwner_55 ⟨Nat.le_of_ble_eq_true rfl, Nat.le_of_ble_eq_true rfl⟩) hS (fun q _ h => hFc q h) hFc (fun u t H1 locs ht hvm hw hB hz1 hk1 hS => ?_)
      obtain ⟨hP1, hK1, hD1⟩ := hB
      rw [ht] at hP1
      obtain ⟨hP, hD⟩ := va_join (wr := [(o6, .inr (6, [.ref o7, .ref o4, .ref o0, .ref o5]))]) (w1 := [(o7, .inr (7, [.ref a7_0, .ref a7_1, .int v7_2])), (a7_0, .inl (cyI, 200, .inl g7_0)), (a7_1, .inl (cyZ, 200, .inl g7_1)), (o5, .inr (5, [.ref o7, .ref a5_1, .int v5_2, .int (r_4.1), .int v5_4, .int v5_5, .int (r_4.2.1), .int v5_7, .int (r_4.2.2), .int v5_9])), (a5_1, .inl (cyI, 400, .inl g5_1))]) hP hD [0, 1, 2, 3, 4] [5] rfl rfl (by decide) (by decide) hk1 hFc hP1 hD1
      clear hz1 hk1 hPc hDc hFc hP1 hK1 hD1 ht hvm t u
      generalize H1 = H at hP hS ⊢
      have hP : va_P (dC, dI) vwCl [(o6, .inr (6, [.ref o7, .ref o4, .ref o0, .ref o5])), (o7, .inr (7, [.ref a7_0, .ref a7_1, .int v7_2])), (a7_0, .inl (cyI, 200, .inl g7_0)), (a7_1, .inl (cyZ, 200, .inl g7_1)), (o5, .inr (5, [.ref o7, .ref a5_1, .int v5_2, .int (r_4.1), .int v5_4, .int v5_5, .int (r_4.2.1), .int v5_7, .int (r_4.2.2), .int v5_9])), (a5_1, .inl (cyI, 400, .inl g5_1))] H := hP
      have hD : va_D A [(o6, .inr (6, [.ref o7, .ref o4, .ref o0, .ref o5])), (o7, .inr (7, [.ref a7_0, .ref a7_1, .int v7_2])), (a7_0, .inl (cyI, 200, .inl g7_0)), (a7_1, .inl (cyZ, 200, .inl g7_1)), (o5, .inr (5, [.ref o7, .ref a5_1, .int v5_2, .int (r_4.1), .int v5_4, .int v5_5, .int (r_4.2.1), .int v5_7, .int (r_4.2.2), .int v5_9])), (a5_1, .inl (cyI, 400, .inl g5_1))] := hD
      obtain rfl := Option.some.inj hf
      have hP9 := hP.sub (ws' := [(o7, .inr (7, [.ref a7_0, .ref a7_1, .int v7_2])), (a7_0, .inl (cyI, 200, .inl g7_0)), (a7_1, .inl (cyZ, 200, .inl g7_1)), (o5, .inr (5, [.ref o7, .ref a5_1, .int v5_2, .int (r_4.1), .int v5_4, .int v5_5, .int (r_4.2.1), .int v5_7, .int (r_4.2.2), .int v5_9])), (a5_1, .inl (cyI, 400, .inl g5_1)), (o6, .inr (6, [.ref o7, .ref o4, .ref o0, .ref o5]))]) [1, 2, 3, 4, 5, 0] rfl
      have hD9 := hD.sub (ws' := [(o7, .inr (7, [.ref a7_0, .ref a7_1, .int v7_2])), (a7_0, .inl (cyI, 200, .inl g7_0)), (a7_1, .inl (cyZ, 200, .inl g7_1)), (o5, .inr (5, [.ref o7, .ref a5_1, .int v5_2, .int (r_4.1), .int v5_4, .int v5_5, .int (r_4.2.1), .int v5_7, .int (r_4.2.2), .int v5_9])), (a5_1, .inl (cyI, 400, .inl g5_1)), (o6, .inr (6, [.ref o7, .ref o4, .ref o0, .ref o5]))]) [1, 2, 3, 4, 5, 0] (by decide) rfl
      exact W.vret hx hb hr (fun t ht hW => ⟨⟨(), rfl, trivial, by rw [ht]; exact hP9, va_K.moved hW.alike hK, hD9⟩, hS.F ht⟩) hS.2.2 dX6_pullOwner_58
    · replace hf := x_in c_3 hf
      refine lv_aload_n hx hb dX6_pullOwner_25 rfl (lv_at hl 1 rfl) ?_
      refine va_get (D := (dC, dI)) (ci := 6) (v := .ref o5) (C := RX6) (T := TX6) (N := 4) hx hb hts i_X6_pullOwner_X6 hown hK hP 5 rfl rfl 3 (by decide) k_1 (fun _ h9 => h9) rfl dX6_pullOwner_26 ?_
      refine va_getN (D := (dC, dI)) (ci := 5) (v := .ref a5_1) (C := RX5) (T := TX5) (N := 10) hx hb hts i_X6_pullOwner_X5 hown hK hP 3 rfl rfl 1 (by decide) ((hN.1 ("FlowJudge$Steps", 194, "FlowJudge$Places", "cells", "[I") (List.mem_of_getElem? (i := 56) rfl)).use rfl) (fun _ h9 => h9) rfl dX6_pullOwner_29 ?_
      refine lv_iload_n hx hb dX6_pullOwner_32 rfl (lv_at hl 0 rfl) ?_
      obtain ⟨g_5, hf⟩ := x_gu hf
      refine va_iald hx hb hK hP 4 0 rfl rfl (x_gdin g_5) dX6_pullOwner_33 ?_
      refine lv_bipush (v := 6) hx hb dX6_pullOwner_34 (by decide) ?_
      refine lv_icmp_ne (tgt := 50) hx hb dX6_pullOwner_36 (by decide) (fun c_6 => ?_) (fun c_6 => ?_)
      · replace hf := x_in c_6 hf
        refine lv_aload_n hx hb dX6_pullOwner_50 rfl (lv_at hl 1 rfl) ?_
        refine va_get (D := (dC, dI)) (ci := 6) (v := .ref o5) (C := RX6) (T := TX6) (N := 4) hx hb hts i_X6_pullOwner_X6 hown hK hP 5 rfl rfl 3 (by decide) k_1 (fun _ h9 => h9) rfl dX6_pullOwner_51 ?_
        refine lv_iload_n hx hb dX6_pullOwner_54 rfl (lv_at hl 2 rfl) ?_
        obtain ⟨r_7, h_7, hf⟩ := x_bi hf
        have hPc := hP.sub (ws' := [(o7, .inr (7, [.ref a7_0, .ref a7_1, .int v7_2])), (a7_0, .inl (cyI, 200, .inl g7_0)), (a7_1, .inl (cyZ, 200, .inl g7_1)), (o5, .inr (5, [.ref o7, .ref a5_1, .int v5_2, .int v5_3, .int v5_4, .int v5_5, .int v5_6, .int v5_7, .int v5_8, .int v5_9])), (a5_1, .inl (cyI, 400, .inl g5_1))]) [0, 1, 2, 3, 4] rfl
        have hDc := hD.sub (ws' := [(o7, .inr (7, [.ref a7_0, .ref a7_1, .int v7_2])), (a7_0, .inl (cyI, 200, .inl g7_0)), (a7_1, .inl (cyZ, 200, .inl g7_1)), (o5, .inr (5, [.ref o7, .ref a5_1, .int v5_2, .int v5_3, .int v5_4, .int v5_5, .int v5_6, .int v5_7, .int v5_8, .int v5_9])), (a5_1, .inl (cyI, 400, .inl g5_1))]) [0, 1, 2, 3, 4] (by decide) rfl
        have hFc := va_free (wc := [(o7, .inr (7, [.ref a7_0, .ref a7_1, .int v7_2])), (a7_0, .inl (cyI, 200, .inl g7_0)), (a7_1, .inl (cyZ, 200, .inl g7_1)), (o5, .inr (5, [.ref o7, .ref a5_1, .int v5_2, .int v5_3, .int v5_4, .int v5_5, .int v5_6, .int v5_7, .int v5_8, .int v5_9])), (a5_1, .inl (cyI, 400, .inl g5_1))]) hD hS hA [0, 1, 2, 3, 4] rfl
        refine va_callv (va_runV (As := [.int p1]) (rest := []) ⟨hx, hb, hml, hown, hts⟩ (c_X5_pullType l dC dI cyI cyZ cyJ H.size o7 a7_0 a7_1 v7_2 g7_0 g7_1 o5 a5_1 v5_2 v5_3 v5_4 v5_5 v5_6 v5_7 v5_8 v5_9 g5_1 p1 r_7 h_7) (cwV 1 hts gX6_pullOwner_X5_pullType rfl rfl rfl (by decide +kernel) ⟨Nat.le_of_ble_eq_true rfl, Nat.le_of_ble_eq_true rfl⟩) (x_pVD hN hK hPc hDc (ci := 5) (q0 := 3) rfl rfl) rfl rfl hl.1 rfl (lv_room (Nat.le_of_ble_eq_true rfl)) dX6_pullOwner_55 ⟨Nat.le_of_ble_eq_true rfl, Nat.le_of_ble_eq_true rfl⟩) hS (fun q _ h => hFc q h) hFc (fun u t H1 locs ht hvm hw hB hz1 hk1 hS => ?_)
        obtain ⟨hP1, hK1, hD1⟩ := hB
        rw [ht] at hP1
        obtain ⟨hP, hD⟩ := va_join (wr := [(o6, .inr (6, [.ref o7, .ref o4, .ref o0, .ref o5]))]) (w1 := [(o7, .inr (7, [.ref a7_0, .ref a7_1, .int v7_2])), (a7_0, .inl (cyI, 200, .inl g7_0)), (a7_1, .inl (cyZ, 200, .inl g7_1)), (o5, .inr (5, [.ref o7, .ref a5_1, .int v5_2, .int (r_7.1), .int v5_4, .int v5_5, .int (r_7.2.1), .int v5_7, .int (r_7.2.2), .int v5_9])), (a5_1, .inl (cyI, 400, .inl g5_1))]) hP hD [0, 1, 2, 3, 4] [5] rfl rfl (by decide) (by decide) hk1 hFc hP1 hD1
        clear hz1 hk1 hPc hDc hFc hP1 hK1 hD1 ht hvm t u
        generalize H1 = H at hP hS ⊢
        have hP : va_P (dC, dI) vwCl [(o6, .inr (6, [.ref o7, .ref o4, .ref o0, .ref o5])), (o7, .inr (7, [.ref a7_0, .ref a7_1, .int v7_2])), (a7_0, .inl (cyI, 200, .inl g7_0)), (a7_1, .inl (cyZ, 200, .inl g7_1)), (o5, .inr (5, [.ref o7, .ref a5_1, .int v5_2, .int (r_7.1), .int v5_4, .int v5_5, .int (r_7.2.1), .int v5_7, .int (r_7.2.2), .int v5_9])), (a5_1, .inl (cyI, 400, .inl g5_1))] H := hP
        have hD : va_D A [(o6, .inr (6, [.ref o7, .ref o4, .ref o0, .ref o5])), (o7, .inr (7, [.ref a7_0, .ref a7_1, .int v7_2])), (a7_0, .inl (cyI, 200, .inl g7_0)), (a7_1, .inl (cyZ, 200, .inl g7_1)), (o5, .inr (5, [.ref o7, .ref a5_1, .int v5_2, .int (r_7.1), .int v5_4, .int v5_5, .int (r_7.2.1), .int v5_7, .int (r_7.2.2), .int v5_9])), (a5_1, .inl (cyI, 400, .inl g5_1))] := hD
        obtain rfl := Option.some.inj hf
        have hP9 := hP.sub (ws' := [(o7, .inr (7, [.ref a7_0, .ref a7_1, .int v7_2])), (a7_0, .inl (cyI, 200, .inl g7_0)), (a7_1, .inl (cyZ, 200, .inl g7_1)), (o5, .inr (5, [.ref o7, .ref a5_1, .int v5_2, .int (r_7.1), .int v5_4, .int v5_5, .int (r_7.2.1), .int v5_7, .int (r_7.2.2), .int v5_9])), (a5_1, .inl (cyI, 400, .inl g5_1)), (o6, .inr (6, [.ref o7, .ref o4, .ref o0, .ref o5]))]) [1, 2, 3, 4, 5, 0] rfl
        have hD9 := hD.sub (ws' := [(o7, .inr (7, [.ref a7_0, .ref a7_1, .int v7_2])), (a7_0, .inl (cyI, 200, .inl g7_0)), (a7_1, .inl (cyZ, 200, .inl g7_1)), (o5, .inr (5, [.ref o7, .ref a5_1, .int v5_2, .int (r_7.1), .int v5_4, .int v5_5, .int (r_7.2.1), .int v5_7, .int (r_7.2.2), .int v5_9])), (a5_1, .inl (cyI, 400, .inl g5_1)), (o6, .inr (6, [.ref o7, .ref o4, .ref o0, .ref o5]))]) [1, 2, 3, 4, 5, 0] (by decide) rfl
        exact W.vret hx hb hr (fun t ht hW => ⟨⟨(), rfl, trivial, by rw [ht]; exact hP9, va_K.moved hW.alike hK, hD9⟩, hS.F ht⟩) hS.2.2 dX6_pullOwner_58
      · replace hf := x_ip c_6 hf
        refine lv_aload_n hx hb dX6_pullOwner_39 rfl (lv_at hl 1 rfl) ?_
        refine va_get (D := (dC, dI)) (ci := 6) (v := .ref o5) (C := RX6) (T := TX6) (N := 4) hx hb hts i_X6_pullOwner_X6 hown hK hP 5 rfl rfl 3 (by decide) k_1 (fun _ h9 => h9) rfl dX6_pullOwner_40 ?_
        obtain ⟨r_8, h_8, hf⟩ := x_bi hf
        have hPc := hP.sub (ws' := [(o5, .inr (5, [.ref o7, .ref a5_1, .int v5_2, .int v5_3, .int v5_4, .int v5_5, .int v5_6, .int v5_7, .int v5_8, .int v5_9])), (a5_1, .inl (cyI, 400, .inl g5_1))]) [3, 4] rfl
        have hDc := hD.sub (ws' := [(o5, .inr (5, [.ref o7, .ref a5_1, .int v5_2, .int v5_3, .int v5_4, .int v5_5, .int v5_6, .int v5_7, .int v5_8, .int v5_9])), (a5_1, .inl (cyI, 400, .inl g5_1))]) [3, 4] (by decide) rfl
        have hFc := va_free (wc := [(o5, .inr (5, [.ref o7, .ref a5_1, .int v5_2, .int v5_3, .int v5_4, .int v5_5, .int v5_6, .int v5_7, .int v5_8, .int v5_9])), (a5_1, .inl (cyI, 400, .inl g5_1))]) hD hS hA [3, 4] rfl
        refine va_calli (va_runV (As := []) (rest := []) ⟨hx, hb, hml, hown, hts⟩ (c_X5_pull l dC dI cyI cyZ cyJ H.size o5 o7 a5_1 v5_2 v5_3 v5_4 v5_5 v5_6 v5_7 v5_8 v5_9 g5_1 r_8 h_8) (cwV 0 hts gX6_pullOwner_X5_pull rfl rfl rfl (by decide +kernel) ⟨Nat.le_of_ble_eq_true rfl, Nat.le_of_ble_eq_true rfl⟩) (x_pVD hN hK hPc hDc (ci := 5) (q0 := 0) rfl rfl) rfl rfl hl.1 rfl (lv_room (Nat.le_of_ble_eq_true rfl)) dX6_pullOwner_43 ⟨Nat.le_of_ble_eq_true rfl, Nat.le_of_ble_eq_true rfl⟩) hS (fun q _ h => hFc q h) hFc (fun q_8 u t H1 locs ht hvm hw hB hz1 hk1 hS => ?_)
        obtain ⟨hP1, hK1, hD1⟩ := hB
        rw [ht] at hP1
        obtain ⟨hP, hD⟩ := va_join (wr := [(o7, .inr (7, [.ref a7_0, .ref a7_1, .int v7_2])), (a7_0, .inl (cyI, 200, .inl g7_0)), (a7_1, .inl (cyZ, 200, .inl g7_1)), (o6, .inr (6, [.ref o7, .ref o4, .ref o0, .ref o5]))]) (w1 := [(o5, .inr (5, [.ref o7, .ref a5_1, .int v5_2, .int (r_8.2.1), .int v5_4, .int v5_5, .int (r_8.2.2), .int v5_7, .int v5_8, .int v5_9])), (a5_1, .inl (cyI, 400, .inl g5_1))]) hP hD [3, 4] [0, 1, 2, 5] rfl rfl (by decide) (by decide) hk1 hFc hP1 hD1
        clear hz1 hk1 hPc hDc hFc hP1 hK1 hD1 ht hvm t u
        generalize H1 = H at hP hS ⊢
        have hP : va_P (dC, dI) vwCl [(o7, .inr (7, [.ref a7_0, .ref a7_1, .int v7_2])), (a7_0, .inl (cyI, 200, .inl g7_0)), (a7_1, .inl (cyZ, 200, .inl g7_1)), (o6, .inr (6, [.ref o7, .ref o4, .ref o0, .ref o5])), (o5, .inr (5, [.ref o7, .ref a5_1, .int v5_2, .int (r_8.2.1), .int v5_4, .int v5_5, .int (r_8.2.2), .int v5_7, .int v5_8, .int v5_9])), (a5_1, .inl (cyI, 400, .inl g5_1))] H := hP
        have hD : va_D A [(o7, .inr (7, [.ref a7_0, .ref a7_1, .int v7_2])), (a7_0, .inl (cyI, 200, .inl g7_0)), (a7_1, .inl (cyZ, 200, .inl g7_1)), (o6, .inr (6, [.ref o7, .ref o4, .ref o0, .ref o5])), (o5, .inr (5, [.ref o7, .ref a5_1, .int v5_2, .int (r_8.2.1), .int v5_4, .int v5_5, .int (r_8.2.2), .int v5_7, .int v5_8, .int v5_9])), (a5_1, .inl (cyI, 400, .inl g5_1))] := hD
        obtain rfl := hw.symm
        refine lv_pop hx hb dX6_pullOwner_46 rfl ?_
        refine lv_goto (tgt := 58) hx hb dX6_pullOwner_47 (by decide) ?_
        obtain rfl := Option.some.inj hf
        have hP9 := hP.sub (ws' := [(o7, .inr (7, [.ref a7_0, .ref a7_1, .int v7_2])), (a7_0, .inl (cyI, 200, .inl g7_0)), (a7_1, .inl (cyZ, 200, .inl g7_1)), (o5, .inr (5, [.ref o7, .ref a5_1, .int v5_2, .int (r_8.2.1), .int v5_4, .int v5_5, .int (r_8.2.2), .int v5_7, .int v5_8, .int v5_9])), (a5_1, .inl (cyI, 400, .inl g5_1)), (o6, .inr (6, [.ref o7, .ref o4, .ref o0, .ref o5]))]) [0, 1, 2, 4, 5, 3] rfl
        have hD9 := hD.sub (ws' := [(o7, .inr (7, [.ref a7_0, .ref a7_1, .int v7_2])), (a7_0, .inl (cyI, 200, .inl g7_0)), (a7_1, .inl (cyZ, 200, .inl g7_1)), (o5, .inr (5, [.ref o7, .ref a5_1, .int v5_2, .int (r_8.2.1), .int v5_4, .int v5_5, .int (r_8.2.2), .int v5_7, .int v5_8, .int v5_9])), (a5_1, .inl (cyI, 400, .inl g5_1)), (o6, .inr (6, [.ref o7, .ref o4, .ref o0, .ref o5]))]) [0, 1, 2, 4, 5, 3] (by decide) rfl
        exact W.vret hx hb hr (fun t ht hW => ⟨⟨(), rfl, trivial, by rw [ht]; exact hP9, va_K.moved hW.alike hK, hD9⟩, hS.F ht⟩) hS.2.2 dX6_pullOwner_58

