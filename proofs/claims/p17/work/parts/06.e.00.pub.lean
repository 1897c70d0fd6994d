theorem i_X8_context_X8 : ∀ w ∈ wsX80, w ∈ wsX8_context := fun _ h => List.mem_cons_of_mem _ (List.mem_append_left _ (List.mem_append_left _ (List.mem_append_right _ h)))
set_option maxHeartbeats 4000000 in
set_option maxRecDepth 100000 in
theorem c_X8_context (l : Launch) (dC : Nat → ClassId) (dI : Nat → Nat → Nat) (cyI cyZ cyJ : ClassId) (sz : Nat) (o8 : Nat) (o7 : Nat) (o4 : Nat) (o0 : Nat) (o1 : Nat) (o3 : Nat) (o2 : Nat) (a1_0 : Nat) (a1_1 : Nat) (a1_2 : Nat) (a1_3 : Nat) (a1_4 : Nat) (v1_5 : Int32) (g1_0 : Nat → Int32) (n1_0 : Nat) (g1_1 : Nat → Int32) (n1_1 : Nat) (g1_2 : Nat → Int32) (n1_2 : Nat) (v3_2 : Int32) (v3_3 : Int32) (v3_4 : Int32) (a3_5 : Nat) (a3_6 : Nat) (a3_7 : Nat) (a3_8 : Nat) (a3_9 : Nat) (a3_10 : Nat) (a3_11 : Nat) (a3_12 : Nat) (v3_13 : Int32) (v3_14 : Int32) (a3_15 : Nat) (a3_16 : Nat) (g3_7 : Nat → Int32) (n3_7 : Nat) (g3_15 : Nat → Int32) (n3_15 : Nat) (p1 : Int32) (p2 : Int32) (R : Int32) (hf : f_X8_context g1_0 n1_0 g1_1 n1_1 g1_2 n1_2 v3_4 g3_7 n3_7 g3_15 n3_15 p1 p2 = some R) : Met l yX8_context wsX8_context ({ frames := 2, cells := 0, slots := 0, locals := 47 }) (va_Pc [.ref o8, .int p1, .int p2] (x_Pre (dC, dI) (x_T cyI cyZ cyJ) [(o8, .inr (8, [.ref o7, .ref o4, .ref o0, .ref o1, .ref o3, .ref o2])), (o1, .inr (1, [.ref a1_0, .ref a1_1, .ref a1_2, .ref a1_3, .ref a1_4, .int v1_5])), (a1_0, .inl (cyI, n1_0, .inl g1_0)), (a1_1, .inl (cyI, n1_1, .inl g1_1)), (a1_2, .inl (cyI, n1_2, .inl g1_2)), (o3, .inr (3, [.ref o7, .ref o1, .int v3_2, .int v3_3, .int v3_4, .ref a3_5, .ref a3_6, .ref a3_7, .ref a3_8, .ref a3_9, .ref a3_10, .ref a3_11, .ref a3_12, .int v3_13, .int v3_14, .ref a3_15, .ref a3_16])), (a3_7, .inl (cyI, n3_7, .inl g3_7)), (a3_15, .inl (cyI, n3_15, .inl g3_15))] sz)) (va_Qi (fun (r : Int32) (_ : Unit) => r = R) (fun _ _ => True) (x_new sz)) 0 0 (x_new sz) := by
  refine Met.ofW (cc := cX8_context) (maxL := 3) (ret := (some .int)) (by decide) rfl ?_
  intro p e s m args below meth c s₁ B hml hv
  obtain ⟨rfl, hsz, hP, hK, hN⟩ := hv
  have hx := B.exec
  have hb := B.bytes
  have hr := B.returns
  have hts := atoms_spec (ws := wsX8_context) B.pre
  have hown : s.vm.findClass RX8 = some m.cls := findClass_of_methodNamed B.named
  have k_1 := hts (.fieldLink RX8 42 "FlowJudge" "frames" "LFlowJudge$Frames;") (by decide +kernel)
  subst hsz
  have hA : ∀ q : Nat, s.heap.size ≤ q → x_new s.heap.size q := fun _ h => h
  have hS : va_S (x_new s.heap.size) s.heap s.heap [] := va_S.rf
  have hP : va_P (dC, dI) vwCl [(o8, .inr (8, [.ref o7, .ref o4, .ref o0, .ref o1, .ref o3, .ref o2])), (o1, .inr (1, [.ref a1_0, .ref a1_1, .ref a1_2, .ref a1_3, .ref a1_4, .int v1_5])), (a1_0, .inl (cyI, n1_0, .inl g1_0)), (a1_1, .inl (cyI, n1_1, .inl g1_1)), (a1_2, .inl (cyI, n1_2, .inl g1_2)), (o3, .inr (3, [.ref o7, .ref o1, .int v3_2, .int v3_3, .int v3_4, .ref a3_5, .ref a3_6, .ref a3_7, .ref a3_8, .ref a3_9, .ref a3_10, .ref a3_11, .ref a3_12, .int v3_13, .int v3_14, .ref a3_15, .ref a3_16])), (a3_7, .inl (cyI, n3_7, .inl g3_7)), (a3_15, .inl (cyI, n3_15, .inl g3_15))] s.heap := hP
  have hl := lv_entry ([.ref o8, .int p1, .int p2]) (n := 3) (Nat.le_of_ble_eq_true rfl)
  rw [lg_entry_eq]
  generalize (lg_sl ([.ref o8, .int p1, .int p2]) ++ List.replicate (3 - (lg_sl ([.ref o8, .int p1, .int p2])).length) Slot.unset).toArray = ls at hl ⊢
  have hl : lv_has ls 3 [(0, .ref o8), (1, .int p1), (2, .int p2)] := hl
  obtain ⟨H, hH⟩ : ∃ z, z = s.heap := ⟨_, rfl⟩
  refine x_here hH ?_
  have hP : va_P (dC, dI) vwCl [(o8, .inr (8, [.ref o7, .ref o4, .ref o0, .ref o1, .ref o3, .ref o2])), (o1, .inr (1, [.ref a1_0, .ref a1_1, .ref a1_2, .ref a1_3, .ref a1_4, .int v1_5])), (a1_0, .inl (cyI, n1_0, .inl g1_0)), (a1_1, .inl (cyI, n1_1, .inl g1_1)), (a1_2, .inl (cyI, n1_2, .inl g1_2)), (o3, .inr (3, [.ref o7, .ref o1, .int v3_2, .int v3_3, .int v3_4, .ref a3_5, .ref a3_6, .ref a3_7, .ref a3_8, .ref a3_9, .ref a3_10, .ref a3_11, .ref a3_12, .int v3_13, .int v3_14, .ref a3_15, .ref a3_16])), (a3_7, .inl (cyI, n3_7, .inl g3_7)), (a3_15, .inl (cyI, n3_15, .inl g3_15))] H := by rw [hH]; exact hP
  have hS : va_S (x_new s.heap.size) s.heap H [] := by rw [hH]; exact va_S.rf
  clear hH
  obtain ⟨locs, hlo⟩ : ∃ z : List Loc, z = [] := ⟨_, rfl⟩
  refine x_herl hlo ?_
  have hS : va_S (x_new s.heap.size) s.heap H locs := by rw [hlo]; exact hS
  clear hlo
  unfold f_X8_context at hf
  refine lv_aload_n hx hb dX8_context_0 rfl (lv_at hl 0 rfl) ?_
  refine va_get (D := (dC, dI)) (ci := 8) (v := .ref o3) (C := RX8) (T := TX8) (N := 6) hx hb hts i_X8_context_X8 hown hK hP 0 rfl rfl 4 (by decide) k_1 (fun _ h9 => h9) rfl dX8_context_1 ?_
  refine lv_iload_n hx hb dX8_context_4 rfl (lv_at hl 1 rfl) ?_
  refine lv_iload_n hx hb dX8_context_5 rfl (lv_at hl 2 rfl) ?_
  obtain ⟨r_1, h_1, hf⟩ := x_bi hf
  have hPc := hP.sub (ws' := [(o1, .inr (1, [.ref a1_0, .ref a1_1, .ref a1_2, .ref a1_3, .ref a1_4, .int v1_5])), (a1_0, .inl (cyI, n1_0, .inl g1_0)), (a1_1, .inl (cyI, n1_1, .inl g1_1)), (a1_2, .inl (cyI, n1_2, .inl g1_2)), (o3, .inr (3, [.ref o7, .ref o1, .int v3_2, .int v3_3, .int v3_4, .ref a3_5, .ref a3_6, .ref a3_7, .ref a3_8, .ref a3_9, .ref a3_10, .ref a3_11, .ref a3_12, .int v3_13, .int v3_14, .ref a3_15, .ref a3_16])), (a3_7, .inl (cyI, n3_7, .inl g3_7)), (a3_15, .inl (cyI, n3_15, .inl g3_15))]) [1, 2, 3, 4, 5, 6, 7] rfl
  refine va_calli (va_runV (As := [.int p1, .int p2]) (rest := []) ⟨hx, hb, hml, hown, hts⟩ (c_X3_addressOf l dC dI cyI cyZ cyJ H.size o1 a1_0 a1_1 a1_2 a1_3 a1_4 v1_5 g1_0 n1_0 g1_1 n1_1 g1_2 n1_2 o3 o7 v3_2 v3_3 v3_4 a3_5 a3_6 a3_7 a3_8 a3_9 a3_10 a3_11 a3_12 v3_13 v3_14 a3_15 a3_16 g3_7 n3_7 g3_15 n3_15 p1 p2 r_1 h_1) (cwV 2 hts gX8_context_X3_addressOf rfl rfl rfl (by decide +kernel) ⟨Nat.le_of_ble_eq_true rfl, Nat.le_of_ble_eq_true rfl⟩) (x_pV hN hK hPc (ci := 3) (q0 := 4) rfl rfl) rfl rfl hl.1 rfl (lv_room (Nat.le_of_ble_eq_true rfl)) dX8_context_6 ⟨Nat.le_of_ble_eq_true rfl, Nat.le_of_ble_eq_true rfl⟩) hS x_nA (x_nf hA hS) (fun q_1 u t H1 locs ht hvm hw hB hz1 hk1 hS => ?_)
  have hP := x_kp hP hk1
  clear ht hvm hB hz1 hk1 t u hPc
  generalize H1 = H at hP hS ⊢
  obtain rfl := hw.symm
  obtain rfl := Option.some.inj hf
  exact W.iret hx hb hr (fun t ht hW => ⟨⟨_, (), rfl, rfl, trivial⟩, hS.F ht⟩) hS.2.2 dX8_context_9

theorem i_X8_told_X8 : ∀ w ∈ wsX80, w ∈ wsX8_told := fun _ h => List.mem_cons_of_mem _ (List.mem_append_left _ (List.mem_append_right _ h))
set_option maxHeartbeats 4000000 in
set_option maxRecDepth 100000 in
theorem c_X8_told (l : Launch) (dC : Nat → ClassId) (dI : Nat → Nat → Nat) (cyI cyZ cyJ : ClassId) (sz : Nat) (o8 : Nat) (o7 : Nat) (o4 : Nat) (o0 : Nat) (o1 : Nat) (o3 : Nat) (o2 : Nat) (v3_2 : Int32) (v3_3 : Int32) (v3_4 : Int32) (a3_5 : Nat) (a3_6 : Nat) (a3_7 : Nat) (a3_8 : Nat) (a3_9 : Nat) (a3_10 : Nat) (a3_11 : Nat) (a3_12 : Nat) (v3_13 : Int32) (v3_14 : Int32) (a3_15 : Nat) (a3_16 : Nat) (g3_5 : Nat → Int32) (n3_5 : Nat) (g3_8 : Nat → Int32) (n3_8 : Nat) (g3_15 : Nat → Int32) (n3_15 : Nat) (p1 : Int32) (p2 : Int32) (R : Int32) (hf : f_X8_told v3_2 v3_3 v3_4 g3_5 n3_5 g3_8 n3_8 g3_15 n3_15 p1 p2 = some R) : Met l yX8_told wsX8_told ({ frames := 1, cells := 0, slots := 0, locals := 23 }) (va_Pc [.ref o8, .int p1, .int p2] (x_Pre (dC, dI) (x_T cyI cyZ cyJ) [(o8, .inr (8, [.ref o7, .ref o4, .ref o0, .ref o1, .ref o3, .ref o2])), (o3, .inr (3, [.ref o7, .ref o1, .int v3_2, .int v3_3, .int v3_4, .ref a3_5, .ref a3_6, .ref a3_7, .ref a3_8, .ref a3_9, .ref a3_10, .ref a3_11, .ref a3_12, .int v3_13, .int v3_14, .ref a3_15, .ref a3_16])), (a3_5, .inl (cyI, n3_5, .inl g3_5)), (a3_8, .inl (cyI, n3_8, .inl g3_8)), (a3_15, .inl (cyI, n3_15, .inl g3_15))] sz)) (va_Qi (fun (r : Int32) (_ : Unit) => r = R) (fun _ _ => True) (x_new sz)) 0 0 (x_new sz) := by
  refine Met.ofW (cc := cX8_told) (maxL := 3) (ret := (some .int)) (by decide) rfl ?_
  intro p e s m args below meth c s₁ B hml hv
  obtain ⟨rfl, hsz, hP, hK, hN⟩ := hv
  have hx := B.exec
  have hb := B.bytes
  have hr := B.returns
  have hts := atoms_spec (ws := wsX8_told) B.pre
  have hown : s.vm.findClass RX8 = some m.cls := findClass_of_methodNamed B.named
  have k_1 := hts (.fieldLink RX8 42 "FlowJudge" "frames" "LFlowJudge$Frames;") (by decide +kernel)
  subst hsz
  have hA : ∀ q : Nat, s.heap.size ≤ q → x_new s.heap.size q := fun _ h => h
  have hS : va_S (x_new s.heap.size) s.heap s.heap [] := va_S.rf
  have hP : va_P (dC, dI) vwCl [(o8, .inr (8, [.ref o7, .ref o4, .ref o0, .ref o1, .ref o3, .ref o2])), (o3, .inr (3, [.ref o7, .ref o1, .int v3_2, .int v3_3, .int v3_4, .ref a3_5, .ref a3_6, .ref a3_7, .ref a3_8, .ref a3_9, .ref a3_10, .ref a3_11, .ref a3_12, .int v3_13, .int v3_14, .ref a3_15, .ref a3_16])), (a3_5, .inl (cyI, n3_5, .inl g3_5)), (a3_8, .inl (cyI, n3_8, .inl g3_8)), (a3_15, .inl (cyI, n3_15, .inl g3_15))] s.heap := hP
  have hl := lv_entry ([.ref o8, .int p1, .int p2]) (n := 3) (Nat.le_of_ble_eq_true rfl)
  rw [lg_entry_eq]
  generalize (lg_sl ([.ref o8, .int p1, .int p2]) ++ List.replicate (3 - (lg_sl ([.ref o8, .int p1, .int p2])).length) Slot.unset).toArray = ls at hl ⊢
  have hl : lv_has ls 3 [(0, .ref o8), (1, .int p1), (2, .int p2)] := hl
  obtain ⟨H, hH⟩ : ∃ z, z = s.heap := ⟨_, rfl⟩
  refine x_here hH ?_
  have hP : va_P (dC, dI) vwCl [(o8, .inr (8, [.ref o7, .ref o4, .ref o0, .ref o1, .ref o3, .ref o2])), (o3, .inr (3, [.ref o7, .ref o1, .int v3_2, .int v3_3, .int v3_4, .ref a3_5, .ref a3_6, .ref a3_7, .ref a3_8, .ref a3_9, .ref a3_10, .ref a3_11, .ref a3_12, .int v3_13, .int v3_14, .ref a3_15, .ref a3_16])), (a3_5, .inl (cyI, n3_5, .inl g3_5)), (a3_8, .inl (cyI, n3_8, .inl g3_8)), (a3_15, .inl (cyI, n3_15, .inl g3_15))] H := by rw [hH]; exact hP
  have hS : va_S (x_new s.heap.size) s.heap H [] := by rw [hH]; exact va_S.rf
  clear hH
  obtain ⟨locs, hlo⟩ : ∃ z : List Loc, z = [] := ⟨_, rfl⟩
  refine x_herl hlo ?_
  have hS : va_S (x_new s.heap.size) s.heap H locs := by rw [hlo]; exact hS
  clear hlo
  unfold f_X8_told at hf
  refine lv_aload_n hx hb dX8_told_0 rfl (lv_at hl 0 rfl) ?_
  refine va_get (D := (dC, dI)) (ci := 8) (v := .ref o3) (C := RX8) (T := TX8) (N := 6) hx hb hts i_X8_told_X8 hown hK hP 0 rfl rfl 4 (by decide) k_1 (fun _ h9 => h9) rfl dX8_told_1 ?_
  refine lv_iload_n hx hb dX8_told_4 rfl (lv_at hl 1 rfl) ?_
  refine lv_iload_n hx hb dX8_told_5 rfl (lv_at hl 2 rfl) ?_
  obtain ⟨r_1, h_1, hf⟩ := x_bi hf
  have hPc := hP.sub (ws' := [(o3, .inr (3, [.ref o7, .ref o1, .int v3_2, .int v3_3, .int v3_4, .ref a3_5, .ref a3_6, .ref a3_7, .ref a3_8, .ref a3_9, .ref a3_10, .ref a3_11, .ref a3_12, .int v3_13, .int v3_14, .ref a3_15, .ref a3_16])), (a3_5, .inl (cyI, n3_5, .inl g3_5)), (a3_8, .inl (cyI, n3_8, .inl g3_8)), (a3_15, .inl (cyI, n3_15, .inl g3_15))]) [1, 2, 3, 4] rfl
  refine va_calli (va_runV (As := [.int p1, .int p2]) (rest := []) ⟨hx, hb, hml, hown, hts⟩ (c_X3_placeOf l dC dI cyI cyZ cyJ H.size o3 o7 o1 v3_2 v3_3 v3_4 a3_5 a3_6 a3_7 a3_8 a3_9 a3_10 a3_11 a3_12 v3_13 v3_14 a3_15 a3_16 g3_5 n3_5 g3_8 n3_8 g3_15 n3_15 p1 p2 r_1 h_1) (cwV 2 hts gX8_told_X3_placeOf rfl rfl rfl (by decide +kernel) ⟨Nat.le_of_ble_eq_true rfl, Nat.le_of_ble_eq_true rfl⟩) (x_pV hN hK hPc (ci := 3) (q0 := 0) rfl rfl) rfl rfl hl.1 rfl (lv_room (Nat.le_of_ble_eq_true rfl)) dX8_told_6 ⟨Nat.le_of_ble_eq_true rfl, Nat.le_of_ble_eq_true rfl⟩) hS x_nA (x_nf hA hS) (fun q_1 u t H1 locs ht hvm hw hB hz1 hk1 hS => ?_)
  have hP := x_kp hP hk1
  clear ht hvm hB hz1 hk1 t u hPc
  generalize H1 = H at hP hS ⊢
  obtain rfl := hw.symm
  obtain rfl := Option.some.inj hf
  exact W.iret hx hb hr (fun t ht hW => ⟨⟨_, (), rfl, rfl, trivial⟩, hS.F ht⟩) hS.2.2 dX8_told_9

theorem i_X8_digest_X3 : ∀ w ∈ wsX30, w ∈ wsX8_digest := fun _ h => List.mem_cons_of_mem _ (List.mem_append_left _ (List.mem_append_right _ h))
theorem i_X8_digest_X8 : ∀ w ∈ wsX80, w ∈ wsX8_digest := fun _ h => List.mem_cons_of_mem _ (List.mem_append_left _ (List.mem_append_left _ (List.mem_append_right _ h)))
set_option maxHeartbeats 4000000 in
set_option maxRecDepth 100000 in
theorem c_X8_digest (l : Launch) (dC : Nat → ClassId) (dI : Nat → Nat → Nat) (cyI cyZ cyJ : ClassId) (sz : Nat) (o8 : Nat) (o7 : Nat) (o4 : Nat) (o0 : Nat) (o1 : Nat) (o3 : Nat) (o2 : Nat) (a1_0 : Nat) (a1_1 : Nat) (a1_2 : Nat) (a1_3 : Nat) (a1_4 : Nat) (v1_5 : Int32) (g1_2 : Nat → Int32) (n1_2 : Nat) (v3_2 : Int32) (v3_3 : Int32) (v3_4 : Int32) (a3_5 : Nat) (a3_6 : Nat) (a3_7 : Nat) (a3_8 : Nat) (a3_9 : Nat) (a3_10 : Nat) (a3_11 : Nat) (a3_12 : Nat) (v3_13 : Int32) (v3_14 : Int32) (a3_15 : Nat) (a3_16 : Nat) (g3_5 : Nat → Int32) (n3_5 : Nat) (g3_6 : Nat → Int32) (n3_6 : Nat) (g3_7 : Nat → Int32) (n3_7 : Nat) (g3_8 : Nat → Int32) (n3_8 : Nat) (g3_9 : Nat → Int32) (n3_9 : Nat) (g3_15 : Nat → Int32) (n3_15 : Nat) (R : Int64) (hf : f_X8_digest g1_2 n1_2 v3_2 v3_3 v3_4 g3_5 n3_5 g3_6 n3_6 g3_7 n3_7 g3_8 n3_8 g3_9 n3_9 g3_15 n3_15 = some R) : Met l yX8_digest wsX8_digest ({ frames := 1, cells := 0, slots := 0, locals := 23 }) (va_Pc [.ref o8] (x_Pre (dC, dI) (x_T cyI cyZ cyJ) [(o8, .inr (8, [.ref o7, .ref o4, .ref o0, .ref o1, .ref o3, .ref o2])), (o1, .inr (1, [.ref a1_0, .ref a1_1, .ref a1_2, .ref a1_3, .ref a1_4, .int v1_5])), (a1_2, .inl (cyI, n1_2, .inl g1_2)), (o3, .inr (3, [.ref o7, .ref o1, .int v3_2, .int v3_3, .int v3_4, .ref a3_5, .ref a3_6, .ref a3_7, .ref a3_8, .ref a3_9, .ref a3_10, .ref a3_11, .ref a3_12, .int v3_13, .int v3_14, .ref a3_15, .ref a3_16])), (a3_5, .inl (cyI, n3_5, .inl g3_5)), (a3_6, .inl (cyI, n3_6, .inl g3_6)), (a3_7, .inl (cyI, n3_7, .inl g3_7)), (a3_8, .inl (cyI, n3_8, .inl g3_8)), (a3_9, .inl (cyI, n3_9, .inl g3_9)), (a3_15, .inl (cyI, n3_15, .inl g3_15))] sz)) (va_Ql (fun (r : Int64) (_ : Unit) => r = R) (fun _ _ => True) (x_new sz)) 0 0 (x_new sz) := by
  refine Met.ofW (cc := cX8_digest) (maxL := 6) (ret := (some .long)) (by decide) rfl ?_
  intro p e s m args below meth c s₁ B hml hv
  obtain ⟨rfl, hsz, hP, hK, hN⟩ := hv
  have hx := B.exec
  have hb := B.bytes
  have hr := B.returns
  have hts := atoms_spec (ws := wsX8_digest) B.pre
  have hown : s.vm.findClass RX8 = some m.cls := findClass_of_methodNamed B.named
  have k_1 := hts (.fieldLink RX8 42 "FlowJudge" "frames" "LFlowJudge$Frames;") (by decide +kernel)
  have k_2 := hts (.constantLong RX8 223 (31)) (by decide +kernel)
  have k_3 := hts (.constantLong RX8 221 (7)) (by decide +kernel)
  subst hsz
  have hA : ∀ q : Nat, s.heap.size ≤ q → x_new s.heap.size q := fun _ h => h
  have hS : va_S (x_new s.heap.size) s.heap s.heap [] := va_S.rf
  have hP : va_P (dC, dI) vwCl [(o8, .inr (8, [.ref o7, .ref o4, .ref o0, .ref o1, .ref o3, .ref o2])), (o1, .inr (1, [.ref a1_0, .ref a1_1, .ref a1_2, .ref a1_3, .ref a1_4, .int v1_5])), (a1_2, .inl (cyI, n1_2, .inl g1_2)), (o3, .inr (3, [.ref o7, .ref o1, .int v3_2, .int v3_3, .int v3_4, .ref a3_5, .ref a3_6, .ref a3_7, .ref a3_8, .ref a3_9, .ref a3_10, .ref a3_11, .ref a3_12, .int v3_13, .int v3_14, .ref a3_15, .ref a3_16])), (a3_5, .inl (cyI, n3_5, .inl g3_5)), (a3_6, .inl (cyI, n3_6, .inl g3_6)), (a3_7, .inl (cyI, n3_7, .inl g3_7)), (a3_8, .inl (cyI, n3_8, .inl g3_8)), (a3_9, .inl (cyI, n3_9, .inl g3_9)), (a3_15, .inl (cyI, n3_15, .inl g3_15))] s.heap := hP
  have hl := lv_entry ([.ref o8]) (n := 6) (Nat.le_of_ble_eq_true rfl)
  rw [lg_entry_eq]
  generalize (lg_sl ([.ref o8]) ++ List.replicate (6 - (lg_sl ([.ref o8])).length) Slot.unset).toArray = ls at hl ⊢
  have hl : lv_has ls 6 [(0, .ref o8)] := hl
  obtain ⟨H, hH⟩ : ∃ z, z = s.heap := ⟨_, rfl⟩
  refine x_here hH ?_
  have hP : va_P (dC, dI) vwCl [(o8, .inr (8, [.ref o7, .ref o4, .ref o0, .ref o1, .ref o3, .ref o2])), (o1, .inr (1, [.ref a1_0, .ref a1_1, .ref a1_2, .ref a1_3, .ref a1_4, .int v1_5])), (a1_2, .inl (cyI, n1_2, .inl g1_2)), (o3, .inr (3, [.ref o7, .ref o1, .int v3_2, .int v3_3, .int v3_4, .ref a3_5, .ref a3_6, .ref a3_7, .ref a3_8, .ref a3_9, .ref a3_10, .ref a3_11, .ref a3_12, .int v3_13, .int v3_14, .ref a3_15, .ref a3_16])), (a3_5, .inl (cyI, n3_5, .inl g3_5)), (a3_6, .inl (cyI, n3_6, .inl g3_6)), (a3_7, .inl (cyI, n3_7, .inl g3_7)), (a3_8, .inl (cyI, n3_8, .inl g3_8)), (a3_9, .inl (cyI, n3_9, .inl g3_9)), (a3_15, .inl (cyI, n3_15, .inl g3_15))] H := by rw [hH]; exact hP
  have hS : va_S (x_new s.heap.size) s.heap H [] := by rw [hH]; exact va_S.rf
  clear hH
  obtain ⟨locs, hlo⟩ : ∃ z : List Loc, z = [] := ⟨_, rfl⟩
  refine x_herl hlo ?_
  have hS : va_S (x_new s.heap.size) s.heap H locs := by rw [hlo]; exact hS
  clear hlo
  unfold f_X8_digest at hf
  refine x_wn (fun WW hWW => ?_)
  have J := f_X8_digest_L.partial_correctness g1_2 n1_2 v3_2 v3_3 v3_4 g3_5 n3_5 g3_6 n3_6 g3_7 n3_7 g3_8 n3_8 g3_9 n3_9 g3_15 n3_15 (fun (z : Nat × Int64 × Int32 × Int32 × Int32) (r : Int64) => r = R → ∀ (q : Nat) (l1 : Int64) (l3 : Int32) (l4 : Int32) (l5 : Int32), z = (q, l1, l3, l4, l5) → ((q = 0 → ∀ (H : Heap) (locs : List Loc) (ls : Array Slot), va_P (dC, dI) vwCl [(o8, .inr (8, [.ref o7, .ref o4, .ref o0, .ref o1, .ref o3, .ref o2])), (o1, .inr (1, [.ref a1_0, .ref a1_1, .ref a1_2, .ref a1_3, .ref a1_4, .int v1_5])), (a1_2, .inl (cyI, n1_2, .inl g1_2)), (o3, .inr (3, [.ref o7, .ref o1, .int v3_2, .int v3_3, .int v3_4, .ref a3_5, .ref a3_6, .ref a3_7, .ref a3_8, .ref a3_9, .ref a3_10, .ref a3_11, .ref a3_12, .int v3_13, .int v3_14, .ref a3_15, .ref a3_16])), (a3_5, .inl (cyI, n3_5, .inl g3_5)), (a3_6, .inl (cyI, n3_6, .inl g3_6)), (a3_7, .inl (cyI, n3_7, .inl g3_7)), (a3_8, .inl (cyI, n3_8, .inl g3_8)), (a3_9, .inl (cyI, n3_9, .inl g3_9)), (a3_15, .inl (cyI, n3_15, .inl g3_15))] H → va_S (x_new s.heap.size) s.heap H locs → lv_has ls 6 [(0, .ref o8), (1, .long l1), (3, .int l3)] → WW H locs 0 0 (F0 m 6 ls [])) ∧ (q = 1 → ∀ (H : Heap) (locs : List Loc) (ls : Array Slot), va_P (dC, dI) vwCl [(o8, .inr (8, [.ref o7, .ref o4, .ref o0, .ref o1, .ref o3, .ref o2])), (o1, .inr (1, [.ref a1_0, .ref a1_1, .ref a1_2, .ref a1_3, .ref a1_4, .int v1_5])), (a1_2, .inl (cyI, n1_2, .inl g1_2)), (o3, .inr (3, [.ref o7, .ref o1, .int v3_2, .int v3_3, .int v3_4, .ref a3_5, .ref a3_6, .ref a3_7, .ref a3_8, .ref a3_9, .ref a3_10, .ref a3_11, .ref a3_12, .int v3_13, .int v3_14, .ref a3_15, .ref a3_16])), (a3_5, .inl (cyI, n3_5, .inl g3_5)), (a3_6, .inl (cyI, n3_6, .inl g3_6)), (a3_7, .inl (cyI, n3_7, .inl g3_7)), (a3_8, .inl (cyI, n3_8, .inl g3_8)), (a3_9, .inl (cyI, n3_9, .inl g3_9)), (a3_15, .inl (cyI, n3_15, .inl g3_15))] H → va_S (x_new s.heap.size) s.heap H locs → lv_has ls 6 [(0, .ref o8), (1, .long l1), (3, .int l3), (4, .int l4)] → WW H locs 0 0 (F0 m 20 ls [])) ∧ (q = 2 → ∀ (H : Heap) (locs : List Loc) (ls : Array Slot), va_P (dC, dI) vwCl [(o8, .inr (8, [.ref o7, .ref o4, .ref o0, .ref o1, .ref o3, .ref o2])), (o1, .inr (1, [.ref a1_0, .ref a1_1, .ref a1_2, .ref a1_3, .ref a1_4, .int v1_5])), (a1_2, .inl (cyI, n1_2, .inl g1_2)), (o3, .inr (3, [.ref o7, .ref o1, .int v3_2, .int v3_3, .int v3_4, .ref a3_5, .ref a3_6, .ref a3_7, .ref a3_8, .ref a3_9, .ref a3_10, .ref a3_11, .ref a3_12, .int v3_13, .int v3_14, .ref a3_15, .ref a3_16])), (a3_5, .inl (cyI, n3_5, .inl g3_5)), (a3_6, .inl (cyI, n3_6, .inl g3_6)), (a3_7, .inl (cyI, n3_7, .inl g3_7)), (a3_8, .inl (cyI, n3_8, .inl g3_8)), (a3_9, .inl (cyI, n3_9, .inl g3_9)), (a3_15, .inl (cyI, n3_15, .inl g3_15))] H → va_S (x_new s.heap.size) s.heap H locs → lv_has ls 6 [(0, .ref o8), (1, .long l1), (3, .int l3), (4, .int l4), (5, .int l5)] → WW H locs 0 0 (F0 m 72 ls [])))) (by
    intro F ih z r hf hr q l1 l3 l4 l5 hz
    subst hz
    obtain rfl := hr
    refine ⟨?_, ?_, ?_⟩
    · intro hq H locs ls hP hS hl
      subst hq
      refine (hWW _ _ _ _ _).mp ?_
      replace hf := x_ip rfl hf
      refine lv_iload_n hx hb dX8_digest_6 rfl (lv_at hl 2 rfl) ?_
      refine lv_aload_n hx hb dX8_digest_7 rfl (lv_at hl 0 rfl) ?_
      refine va_get (D := (dC, dI)) (ci := 8) (v := .ref o3) (C := RX8) (T := TX8) (N := 6) hx hb hts i_X8_digest_X8 hown hK hP 0 rfl rfl 4 (by decide) k_1 (fun _ h9 => h9) rfl dX8_digest_8 ?_
      refine va_getN (D := (dC, dI)) (ci := 3) (v := .int v3_4) (C := RX3) (T := TX3) (N := 17) hx hb hts i_X8_digest_X3 hown hK hP 3 rfl rfl 4 (by decide) ((hN.1 ("FlowJudge", 206, "FlowJudge$Frames", "count", "I") (List.mem_of_getElem? (i := 9) rfl)).use rfl) (fun _ h9 => h9) rfl dX8_digest_11 ?_
      refine lv_icmp_ge (tgt := 109) hx hb dX8_digest_14 (by decide) (fun c_1 => ?_) (fun c_1 => ?_)
      · replace hf := x_ip c_1 hf
        refine lv_lload_n hx hb dX8_digest_109 rfl (lv_at hl 1 rfl) ?_
        obtain rfl := Option.some.inj hf
        exact W.lret hx hb hr (fun t ht hW => ⟨⟨_, (), rfl, rfl, trivial⟩, hS.F ht⟩) hS.2.2 dX8_digest_110
      · replace hf := x_in c_1 hf
        refine lv_iconst (v := 0) hx hb dX8_digest_17 (by decide) ?_
        refine lv_istore (lv' := [(4, .int 0), (0, .ref o8), (1, .long l1), (3, .int l3)]) hx hb dX8_digest_18 hl (by decide) rfl (fun ls hl => ?_)
        exact (hWW _ _ _ _ _).mpr ((ih (1, l1, l3, 0, 0) _ hf rfl _ _ _ _ _ rfl).2.1 rfl H locs ls hP hS (lv_sub hl [1, 2, 3, 0] rfl))
    · intro hq H locs ls hP hS hl
      subst hq
      refine (hWW _ _ _ _ _).mp ?_
      replace hf := x_ip rfl (x_in (by decide) hf)
      refine lv_iload hx hb dX8_digest_20 (lv_at hl 3 rfl) ?_
      refine lv_iconst (v := 3) hx hb dX8_digest_22 (by decide) ?_
      refine lv_icmp_gt (tgt := 50) hx hb dX8_digest_23 (by decide) (fun c_2 => ?_) (fun c_2 => ?_)
      · replace hf := x_ip c_2 hf
        refine lv_aload_n hx hb dX8_digest_50 rfl (lv_at hl 0 rfl) ?_
        refine va_get (D := (dC, dI)) (ci := 8) (v := .ref o3) (C := RX8) (T := TX8) (N := 6) hx hb hts i_X8_digest_X8 hown hK hP 0 rfl rfl 4 (by decide) k_1 (fun _ h9 => h9) rfl dX8_digest_51 ?_
        refine va_getN (D := (dC, dI)) (ci := 3) (v := .int v3_2) (C := RX3) (T := TX3) (N := 17) hx hb hts i_X8_digest_X3 hown hK hP 3 rfl rfl 2 (by decide) ((hN.1 ("FlowJudge", 225, "FlowJudge$Frames", "locals", "I") (List.mem_of_getElem? (i := 10) rfl)).use rfl) (fun _ h9 => h9) rfl dX8_digest_54 ?_
        refine lv_aload_n hx hb dX8_digest_57 rfl (lv_at hl 0 rfl) ?_
        refine va_get (D := (dC, dI)) (ci := 8) (v := .ref o3) (C := RX8) (T := TX8) (N := 6) hx hb hts i_X8_digest_X8 hown hK hP 0 rfl rfl 4 (by decide) k_1 (fun _ h9 => h9) rfl dX8_digest_58 ?_
        refine lv_iload_n hx hb dX8_digest_61 rfl (lv_at hl 2 rfl) ?_
        refine lv_iconst (v := 2) hx hb dX8_digest_62 (by decide) ?_
        obtain ⟨r_3, h_3, hf⟩ := x_bi hf
        have hPc := hP.sub (ws' := [(o1, .inr (1, [.ref a1_0, .ref a1_1, .ref a1_2, .ref a1_3, .ref a1_4, .int v1_5])), (a1_2, .inl (cyI, n1_2, .inl g1_2)), (o3, .inr (3, [.ref o7, .ref o1, .int v3_2, .int v3_3, .int v3_4, .ref a3_5, .ref a3_6, .ref a3_7, .ref a3_8, .ref a3_9, .ref a3_10, .ref a3_11, .ref a3_12, .int v3_13, .int v3_14, .ref a3_15, .ref a3_16])), (a3_6, .inl (cyI, n3_6, .inl g3_6)), (a3_7, .inl (cyI, n3_7, .inl g3_7)), (a3_8, .inl (cyI, n3_8, .inl g3_8)), (a3_9, .inl (cyI, n3_9, .inl g3_9)), (a3_15, .inl (cyI, n3_15, .inl g3_15))]) [1, 2, 3, 5, 6, 7, 8, 9] rfl
        refine va_calli (va_runV (As := [.int l3, .int 2]) (rest := [.int v3_2]) ⟨hx, hb, hml, hown, hts⟩ (c_X3_factOf l dC dI cyI cyZ cyJ H.size o1 a1_0 a1_1 a1_2 a1_3 a1_4 v1_5 g1_2 n1_2 o3 o7 v3_2 v3_3 v3_4 a3_5 a3_6 a3_7 a3_8 a3_9 a3_10 a3_11 a3_12 v3_13 v3_14 a3_15 a3_16 g3_6 n3_6 g3_7 n3_7 g3_8 n3_8 g3_9 n3_9 g3_15 n3_15 l3 2 r_3 h_3) (cwV 2 hts gX8_digest_X3_factOf rfl rfl rfl (by decide +kernel) ⟨Nat.le_of_ble_eq_true rfl, Nat.le_of_ble_eq_true rfl⟩) (x_pV hN hK hPc (ci := 3) (q0 := 2) rfl rfl) rfl rfl hl.1 rfl (lv_room (Nat.le_of_ble_eq_true rfl)) dX8_digest_63 ⟨Nat.le_of_ble_eq_true rfl, Nat.le_of_ble_eq_true rfl⟩) hS x_nA (x_nf hA hS) (fun q_3 u t H1 locs ht hvm hw hB hz1 hk1 hS => ?_)
        have hP := x_kp hP hk1
        clear ht hvm hB hz1 hk1 t u hPc
        generalize H1 = H at hP hS ⊢
        obtain rfl := hw.symm
        refine lv_iadd hx hb dX8_digest_66 ?_
        refine lv_istore (lv' := [(4, .int (v3_2 + r_3)), (0, .ref o8), (1, .long l1), (3, .int l3)]) hx hb dX8_digest_67 hl (by decide) rfl (fun ls hl => ?_)
        refine lv_iconst (v := 0) hx hb dX8_digest_69 (by decide) ?_
        refine lv_istore (lv' := [(5, .int 0), (4, .int (v3_2 + r_3)), (0, .ref o8), (1, .long l1), (3, .int l3)]) hx hb dX8_digest_70 hl (by decide) rfl (fun ls hl => ?_)
        exact (hWW _ _ _ _ _).mpr ((ih (2, l1, l3, v3_2 + r_3, 0) _ hf rfl _ _ _ _ _ rfl).2.2 rfl H locs ls hP hS (lv_sub hl [2, 3, 4, 1, 0] rfl))
      · replace hf := x_in c_2 hf
        refine lv_ldc2 (v := 31) hx hb hown k_2 dX8_digest_26 ?_
        refine lv_lload_n hx hb dX8_digest_29 rfl (lv_at hl 1 rfl) ?_
        refine lv_lmul hx hb dX8_digest_30 ?_
        refine lv_aload_n hx hb dX8_digest_31 rfl (lv_at hl 0 rfl) ?_
        refine va_get (D := (dC, dI)) (ci := 8) (v := .ref o3) (C := RX8) (T := TX8) (N := 6) hx hb hts i_X8_digest_X8 hown hK hP 0 rfl rfl 4 (by decide) k_1 (fun _ h9 => h9) rfl dX8_digest_32 ?_
        refine lv_iload_n hx hb dX8_digest_35 rfl (lv_at hl 2 rfl) ?_
        refine lv_iload hx hb dX8_digest_36 (lv_at hl 3 rfl) ?_
        obtain ⟨r_4, h_4, hf⟩ := x_bi hf
        have hPc := hP.sub (ws' := [(o1, .inr (1, [.ref a1_0, .ref a1_1, .ref a1_2, .ref a1_3, .ref a1_4, .int v1_5])), (a1_2, .inl (cyI, n1_2, .inl g1_2)), (o3, .inr (3, [.ref o7, .ref o1, .int v3_2, .int v3_3, .int v3_4, .ref a3_5, .ref a3_6, .ref a3_7, .ref a3_8, .ref a3_9, .ref a3_10, .ref a3_11, .ref a3_12, .int v3_13, .int v3_14, .ref a3_15, .ref a3_16])), (a3_6, .inl (cyI, n3_6, .inl g3_6)), (a3_7, .inl (cyI, n3_7, .inl g3_7)), (a3_8, .inl (cyI, n3_8, .inl g3_8)), (a3_9, .inl (cyI, n3_9, .inl g3_9)), (a3_15, .inl (cyI, n3_15, .inl g3_15))]) [1, 2, 3, 5, 6, 7, 8, 9] rfl
        refine va_calli (va_runV (As := [.int l3, .int l4]) (rest := [.long ((31 : Int64) * l1)]) ⟨hx, hb, hml, hown, hts⟩ (c_X3_factOf l dC dI cyI cyZ cyJ H.size o1 a1_0 a1_1 a1_2 a1_3 a1_4 v1_5 g1_2 n1_2 o3 o7 v3_2 v3_3 v3_4 a3_5 a3_6 a3_7 a3_8 a3_9 a3_10 a3_11 a3_12 v3_13 v3_14 a3_15 a3_16 g3_6 n3_6 g3_7 n3_7 g3_8 n3_8 g3_9 n3_9 g3_15 n3_15 l3 l4 r_4 h_4) (cwV 2 hts gX8_digest_X3_factOf rfl rfl rfl (by decide +kernel) ⟨Nat.le_of_ble_eq_true rfl, Nat.le_of_ble_eq_true rfl⟩) (x_pV hN hK hPc (ci := 3) (q0 := 2) rfl rfl) rfl rfl hl.1 rfl (lv_room (Nat.le_of_ble_eq_true rfl)) dX8_digest_38 ⟨Nat.le_of_ble_eq_true rfl, Nat.le_of_ble_eq_true rfl⟩) hS x_nA (x_nf hA hS) (fun q_4 u t H1 locs ht hvm hw hB hz1 hk1 hS => ?_)
        have hP := x_kp hP hk1
        clear ht hvm hB hz1 hk1 t u hPc
        generalize H1 = H at hP hS ⊢
        obtain rfl := hw.symm
        refine lv_i2l (v := (Int32.toInt64 r_4)) hx hb dX8_digest_41 rfl ?_
        refine lv_ladd hx hb dX8_digest_42 ?_
        refine lv_lstore_n (lv' := [(1, .long (((31 : Int64) * l1) + (Int32.toInt64 r_4))), (0, .ref o8), (3, .int l3), (4, .int l4)]) hx hb dX8_digest_43 rfl hl (by decide) rfl (fun ls hl => ?_)
        refine lv_iinc (v := (l4 + 1)) (lv' := [(4, .int (l4 + 1)), (1, .long (((31 : Int64) * l1) + (Int32.toInt64 r_4))), (0, .ref o8), (3, .int l3)]) hx hb dX8_digest_44 hl (k := 3) rfl rfl (by decide) rfl (fun ls hl => ?_)
        refine lv_goto (tgt := 20) hx hb dX8_digest_47 (by decide) ?_
        exact (hWW _ _ _ _ _).mpr ((ih (1, ((31 : Int64) * l1) + (Int32.toInt64 r_4), l3, l4 + 1, 0) _ hf rfl _ _ _ _ _ rfl).2.1 rfl H locs ls hP hS (lv_sub hl [2, 1, 3, 0] rfl))
    · intro hq H locs ls hP hS hl
      subst hq
      refine (hWW _ _ _ _ _).mp ?_
      replace hf := x_ip rfl (x_in (by decide) (x_in (by decide) hf))
      refine lv_iload hx hb dX8_digest_72 (lv_at hl 4 rfl) ?_
      refine lv_iload hx hb dX8_digest_74 (lv_at hl 3 rfl) ?_
      refine lv_icmp_ge (tgt := 103) hx hb dX8_digest_76 (by decide) (fun c_5 => ?_) (fun c_5 => ?_)
      · replace hf := x_ip c_5 hf
        refine lv_iinc (v := (l3 + 1)) (lv' := [(3, .int (l3 + 1)), (0, .ref o8), (1, .long l1), (4, .int l4), (5, .int l5)]) hx hb dX8_digest_103 hl (k := 2) rfl rfl (by decide) rfl (fun ls hl => ?_)
        refine lv_goto (tgt := 6) hx hb dX8_digest_106 (by decide) ?_
        exact (hWW _ _ _ _ _).mpr ((ih (0, l1, l3 + 1, 0, 0) _ hf rfl _ _ _ _ _ rfl).1 rfl H locs ls hP hS (lv_sub hl [1, 2, 0] rfl))
      · replace hf := x_in c_5 hf
        refine lv_ldc2 (v := 31) hx hb hown k_2 dX8_digest_79 ?_
        refine lv_lload_n hx hb dX8_digest_82 rfl (lv_at hl 1 rfl) ?_
        refine lv_lmul hx hb dX8_digest_83 ?_
        refine lv_aload_n hx hb dX8_digest_84 rfl (lv_at hl 0 rfl) ?_
        refine va_get (D := (dC, dI)) (ci := 8) (v := .ref o3) (C := RX8) (T := TX8) (N := 6) hx hb hts i_X8_digest_X8 hown hK hP 0 rfl rfl 4 (by decide) k_1 (fun _ h9 => h9) rfl dX8_digest_85 ?_
        refine lv_iload_n hx hb dX8_digest_88 rfl (lv_at hl 2 rfl) ?_
        refine lv_iload hx hb dX8_digest_89 (lv_at hl 4 rfl) ?_
        obtain ⟨r_6, h_6, hf⟩ := x_bi hf
        have hPc := hP.sub (ws' := [(o3, .inr (3, [.ref o7, .ref o1, .int v3_2, .int v3_3, .int v3_4, .ref a3_5, .ref a3_6, .ref a3_7, .ref a3_8, .ref a3_9, .ref a3_10, .ref a3_11, .ref a3_12, .int v3_13, .int v3_14, .ref a3_15, .ref a3_16])), (a3_5, .inl (cyI, n3_5, .inl g3_5)), (a3_8, .inl (cyI, n3_8, .inl g3_8)), (a3_15, .inl (cyI, n3_15, .inl g3_15))]) [3, 4, 7, 9] rfl
        refine va_calli (va_runV (As := [.int l3, .int l5]) (rest := [.long ((31 : Int64) * l1)]) ⟨hx, hb, hml, hown, hts⟩ (c_X3_placeOf l dC dI cyI cyZ cyJ H.size o3 o7 o1 v3_2 v3_3 v3_4 a3_5 a3_6 a3_7 a3_8 a3_9 a3_10 a3_11 a3_12 v3_13 v3_14 a3_15 a3_16 g3_5 n3_5 g3_8 n3_8 g3_15 n3_15 l3 l5 r_6 h_6) (cwV 2 hts gX8_digest_X3_placeOf rfl rfl rfl (by decide +kernel) ⟨Nat.le_of_ble_eq_true rfl, Nat.le_of_ble_eq_true rfl⟩) (x_pV hN hK hPc (ci := 3) (q0 := 0) rfl rfl) rfl rfl hl.1 rfl (lv_room (Nat.le_of_ble_eq_true rfl)) dX8_digest_91 ⟨Nat.le_of_ble_eq_true rfl, Nat.le_of_ble_eq_true rfl⟩) hS x_nA (x_nf hA hS) (fun q_6 u t H1 locs ht hvm hw hB hz1 hk1 hS => ?_)
        have hP := x_kp hP hk1
        clear ht hvm hB hz1 hk1 t u hPc
        generalize H1 = H at hP hS ⊢
        obtain rfl := hw.symm
        refine lv_i2l (v := (Int32.toInt64 r_6)) hx hb dX8_digest_94 rfl ?_
        refine lv_ladd hx hb dX8_digest_95 ?_
        refine lv_lstore_n (lv' := [(1, .long (((31 : Int64) * l1) + (Int32.toInt64 r_6))), (0, .ref o8), (3, .int l3), (4, .int l4), (5, .int l5)]) hx hb dX8_digest_96 rfl hl (by decide) rfl (fun ls hl => ?_)
        refine lv_iinc (v := (l5 + 1)) (lv' := [(5, .int (l5 + 1)), (1, .long (((31 : Int64) * l1) + (Int32.toInt64 r_6))), (0, .ref o8), (3, .int l3), (4, .int l4)]) hx hb dX8_digest_97 hl (k := 4) rfl rfl (by decide) rfl (fun ls hl => ?_)
        refine lv_goto (tgt := 72) hx hb dX8_digest_100 (by decide) ?_
        exact (hWW _ _ _ _ _).mpr ((ih (2, ((31 : Int64) * l1) + (Int32.toInt64 r_6), l3, l4, l5 + 1) _ hf rfl _ _ _ _ _ rfl).2.2 rfl H locs ls hP hS (lv_sub hl [2, 1, 3, 4, 0] rfl)))
  refine lv_ldc2 (v := 7) hx hb hown k_3 dX8_digest_0 ?_
  refine lv_lstore_n (lv' := [(1, .long 7), (0, .ref o8)]) hx hb dX8_digest_3 rfl hl (by decide) rfl (fun ls hl => ?_)
  refine lv_iconst (v := 0) hx hb dX8_digest_4 (by decide) ?_
  refine lv_istore_n (lv' := [(3, .int 0), (1, .long 7), (0, .ref o8)]) hx hb dX8_digest_5 rfl hl (by decide) rfl (fun ls hl => ?_)
  exact (hWW _ _ _ _ _).mpr ((J (0, 7, 0, 0, 0) _ hf rfl _ _ _ _ _ rfl).1 rfl H locs ls hP hS (lv_sub hl [2, 1, 0] rfl))

theorem i_X8_add_X7 : ∀ w ∈ wsX70, w ∈ wsX8_add := fun _ h => List.mem_cons_of_mem _ (List.mem_append_left _ (List.mem_append_left _ (List.mem_append_right _ h)))
theorem i_X8_add_X8 : ∀ w ∈ wsX80, w ∈ wsX8_add := fun _ h => List.mem_cons_of_mem _ (List.mem_append_left _ (List.mem_append_left _ (List.mem_append_left _ (List.mem_append_right _ h))))
theorem u_X8_add_1 : ∀ w ∈ (vx_atS RX8 67 "java/lang/IllegalArgumentException" ["java/lang/RuntimeException", "java/lang/Exception"]).filter goodWord, w ∈ wsX8_add := by decide +kernel
theorem u_X8_add_2 : ∀ w ∈ (vx_atS RX8 78 "java/lang/IllegalStateException" ["java/lang/RuntimeException", "java/lang/Exception"]).filter goodWord, w ∈ wsX8_add := by decide +kernel
set_option maxHeartbeats 4000000 in
set_option maxRecDepth 100000 in
theorem c_X8_add (l : Launch) (hl9 : l.stackTraces = false) (dC : Nat → ClassId) (dI : Nat → Nat → Nat) (cyI cyZ cyJ : ClassId) (sz : Nat) (base : Nat) (o8 : Nat) (o7 : Nat) (o4 : Nat) (o0 : Nat) (o1 : Nat) (o3 : Nat) (o2 : Nat) (a7_0 : Nat) (a7_1 : Nat) (v7_2 : Int32) (g7_0 : Nat → Int32) (g7_1 : Nat → Int32) (p1 : Int32) (p2 : Int32) (R : Int32 × Int32 × Int32 × (Nat → Int32) × (Nat → Int32)) (hf : f_X8_add v7_2 g7_0 g7_1 p1 p2 = some R) : vx_Met l yX8_add wsX8_add ({ frames := 6, cells := 1, slots := 6, locals := 90 }) (va_Pc [.ref o8, .int p1, .int p2] (x_PreX (dC, dI) (x_T cyI cyZ cyJ) [(o8, .inr (8, [.ref o7, .ref o4, .ref o0, .ref o1, .ref o3, .ref o2])), (o7, .inr (7, [.ref a7_0, .ref a7_1, .int v7_2])), (a7_0, .inl (cyI, 200, .inl g7_0)), (a7_1, .inl (cyZ, 200, .inl g7_1))] base sz)) (va_Qi (fun (r : Int32) (_ : Unit) => R.1 = 0 ∧ r = R.2.1) (fun (_ : Unit) (t : State) => va_P (dC, dI) vwCl [(o8, .inr (8, [.ref o7, .ref o4, .ref o0, .ref o1, .ref o3, .ref o2])), (o7, .inr (7, [.ref a7_0, .ref a7_1, .int (R.2.2.1)])), (a7_0, .inl (cyI, 200, .inl R.2.2.2.1)), (a7_1, .inl (cyZ, 200, .inl R.2.2.2.2))] t.heap ∧ va_K (dC, dI) vwCl (x_T cyI cyZ cyJ) t ∧ va_D (va_A [(o8, .inr (8, [.ref o7, .ref o4, .ref o0, .ref o1, .ref o3, .ref o2])), (o7, .inr (7, [.ref a7_0, .ref a7_1, .int v7_2])), (a7_0, .inl (cyI, 200, .inl g7_0)), (a7_1, .inl (cyZ, 200, .inl g7_1))] sz) [(o8, .inr (8, [.ref o7, .ref o4, .ref o0, .ref o1, .ref o3, .ref o2])), (o7, .inr (7, [.ref a7_0, .ref a7_1, .int (R.2.2.1)])), (a7_0, .inl (cyI, 200, .inl R.2.2.2.1)), (a7_1, .inl (cyZ, 200, .inl R.2.2.2.2))]) (va_A [(o8, .inr (8, [.ref o7, .ref o4, .ref o0, .ref o1, .ref o3, .ref o2])), (o7, .inr (7, [.ref a7_0, .ref a7_1, .int v7_2])), (a7_0, .inl (cyI, 200, .inl g7_0)), (a7_1, .inl (cyZ, 200, .inl g7_1))] sz)) (vx_X (fun _ : Unit => True) (fun (E : String) (_ : Unit) (t : State) => x_thr R.1 E ∧ (va_P (dC, dI) vwCl [(o8, .inr (8, [.ref o7, .ref o4, .ref o0, .ref o1, .ref o3, .ref o2])), (o7, .inr (7, [.ref a7_0, .ref a7_1, .int (R.2.2.1)])), (a7_0, .inl (cyI, 200, .inl R.2.2.2.1)), (a7_1, .inl (cyZ, 200, .inl R.2.2.2.2))] t.heap ∧ va_K (dC, dI) vwCl (x_T cyI cyZ cyJ) t ∧ va_D (va_A [(o8, .inr (8, [.ref o7, .ref o4, .ref o0, .ref o1, .ref o3, .ref o2])), (o7, .inr (7, [.ref a7_0, .ref a7_1, .int v7_2])), (a7_0, .inl (cyI, 200, .inl g7_0)), (a7_1, .inl (cyZ, 200, .inl g7_1))] sz) [(o8, .inr (8, [.ref o7, .ref o4, .ref o0, .ref o1, .ref o3, .ref o2])), (o7, .inr (7, [.ref a7_0, .ref a7_1, .int (R.2.2.1)])), (a7_0, .inl (cyI, 200, .inl R.2.2.2.1)), (a7_1, .inl (cyZ, 200, .inl R.2.2.2.2))])) (va_A [(o8, .inr (8, [.ref o7, .ref o4, .ref o0, .ref o1, .ref o3, .ref o2])), (o7, .inr (7, [.ref a7_0, .ref a7_1, .int v7_2])), (a7_0, .inl (cyI, 200, .inl g7_0)), (a7_1, .inl (cyZ, 200, .inl g7_1))] sz)) 1 6 (va_A [(o8, .inr (8, [.ref o7, .ref o4, .ref o0, .ref o1, .ref o3, .ref o2])), (o7, .inr (7, [.ref a7_0, .ref a7_1, .int v7_2])), (a7_0, .inl (cyI, 200, .inl g7_0)), (a7_1, .inl (cyZ, 200, .inl g7_1))] sz) := by
  refine vx_ofW (cc := cX8_add) (maxL := 3) (ret := (some .int)) (by decide) rfl ?_
  intro p e s m args below meth c s₁ B hml hno hv
  obtain ⟨rfl, ⟨⟨hsz, hP, hK, hN⟩, hD0⟩, hDb, hbz, hG⟩ := hv
  have hx := B.exec
  have hb := B.bytes
  have hr := B.returns
  have hts := atoms_spec (ws := wsX8_add) B.pre
  have hown : s.vm.findClass RX8 = some m.cls := findClass_of_methodNamed B.named
  have hlocks := B.notSynchronized
  have hts_1 := fun w (h : w ∈ (vx_atS RX8 67 "java/lang/IllegalArgumentException" ["java/lang/RuntimeException", "java/lang/Exception"]).filter goodWord) => hts w (u_X8_add_1 w h)
  have hts_2 := fun w (h : w ∈ (vx_atS RX8 78 "java/lang/IllegalStateException" ["java/lang/RuntimeException", "java/lang/Exception"]).filter goodWord) => hts w (u_X8_add_2 w h)
  have k_1 := hts (.fieldLink RX8 10 "FlowJudge" "types" "LFlowJudge$Types;") (by decide +kernel)
  have k_2 := hts (.classLink RX8 63 "java/lang/IllegalArgumentException") (by decide +kernel)
  have k_3 := hts (.initialized "java/lang/IllegalArgumentException") (by decide +kernel)
  have k_4 := hts (.classLink RX8 74 "java/lang/IllegalStateException") (by decide +kernel)
  have k_5 := hts (.initialized "java/lang/IllegalStateException") (by decide +kernel)
  subst hsz
  have hAb : ∀ q, va_A [(o8, .inr (8, [.ref o7, .ref o4, .ref o0, .ref o1, .ref o3, .ref o2])), (o7, .inr (7, [.ref a7_0, .ref a7_1, .int v7_2])), (a7_0, .inl (cyI, 200, .inl g7_0)), (a7_1, .inl (cyZ, 200, .inl g7_1))] s.heap.size q → x_new base q := x_Ab hDb hbz
  have hD := hD0.self (sz := s.heap.size)
  generalize hAe : va_A [(o8, .inr (8, [.ref o7, .ref o4, .ref o0, .ref o1, .ref o3, .ref o2])), (o7, .inr (7, [.ref a7_0, .ref a7_1, .int v7_2])), (a7_0, .inl (cyI, 200, .inl g7_0)), (a7_1, .inl (cyZ, 200, .inl g7_1))] s.heap.size = A at hD hAb ⊢
  have hA : ∀ q : Nat, s.heap.size ≤ q → A q := fun q h => by rw [← hAe]; exact Or.inr h
  have hP : va_P (dC, dI) vwCl [(o8, .inr (8, [.ref o7, .ref o4, .ref o0, .ref o1, .ref o3, .ref o2])), (o7, .inr (7, [.ref a7_0, .ref a7_1, .int v7_2])), (a7_0, .inl (cyI, 200, .inl g7_0)), (a7_1, .inl (cyZ, 200, .inl g7_1))] s.heap := hP
  have hl := lv_entry ([.ref o8, .int p1, .int p2]) (n := 3) (Nat.le_of_ble_eq_true rfl)
  rw [lg_entry_eq]
  generalize (lg_sl ([.ref o8, .int p1, .int p2]) ++ List.replicate (3 - (lg_sl ([.ref o8, .int p1, .int p2])).length) Slot.unset).toArray = ls at hl ⊢
  have hl : lv_has ls 3 [(0, .ref o8), (1, .int p1), (2, .int p2)] := hl
  obtain ⟨H, hH⟩ : ∃ z, z = s.heap := ⟨_, rfl⟩
  refine x_here hH ?_
  have hP : va_P (dC, dI) vwCl [(o8, .inr (8, [.ref o7, .ref o4, .ref o0, .ref o1, .ref o3, .ref o2])), (o7, .inr (7, [.ref a7_0, .ref a7_1, .int v7_2])), (a7_0, .inl (cyI, 200, .inl g7_0)), (a7_1, .inl (cyZ, 200, .inl g7_1))] H := by rw [hH]; exact hP
  have hS : va_S A s.heap H [] := by rw [hH]; exact va_S.rf
  clear hH
  obtain ⟨locs, hlo⟩ : ∃ z : List Loc, z = [] := ⟨_, rfl⟩
  refine x_herl hlo ?_
  have hS : va_S A s.heap H locs := by rw [hlo]; exact hS
  clear hlo
  unfold f_X8_add at hf
  refine lv_aload_n hx hb dX8_add_0 rfl (lv_at hl 0 rfl) ?_
  refine va_get (D := (dC, dI)) (ci := 8) (v := .ref o7) (C := RX8) (T := TX8) (N := 6) hx hb hts i_X8_add_X8 hown hK hP 0 rfl rfl 0 (by decide) k_1 (fun _ h9 => h9) rfl dX8_add_1 ?_
  refine lv_iload_n hx hb dX8_add_4 rfl (lv_at hl 1 rfl) ?_
  obtain ⟨r_1, h_1, hf⟩ := x_bi hf
  have hPc := hP.sub (ws' := [(o7, .inr (7, [.ref a7_0, .ref a7_1, .int v7_2]))]) [1] rfl
  refine va_calli (va_runV (As := [.int p1]) (rest := []) ⟨hx, hb, hml, hown, hts⟩ (c_X7_isClass l dC dI cyI cyZ cyJ H.size o7 a7_0 a7_1 v7_2 p1 r_1 h_1) (cwV 1 hts gX8_add_X7_isClass rfl rfl rfl (by decide +kernel) ⟨Nat.le_of_ble_eq_true rfl, Nat.le_of_ble_eq_true rfl⟩) (x_pV hN hK hPc (ci := 7) (q0 := 0) rfl rfl) rfl rfl hl.1 rfl (lv_room (Nat.le_of_ble_eq_true rfl)) dX8_add_5 ⟨Nat.le_of_ble_eq_true rfl, Nat.le_of_ble_eq_true rfl⟩) hS x_nA (x_nf hA hS) (fun q_1 u t H1 locs ht hvm hw hB hz1 hk1 hS => ?_)
  have hP := x_kp hP hk1
  clear ht hvm hB hz1 hk1 t u hPc
  generalize H1 = H at hP hS ⊢
  obtain ⟨hw, b_1⟩ := hw
  obtain rfl := hw.symm
  refine lv_if_eq (tgt := 31) hx hb dX8_add_8 (by decide) (fun c_2 => ?_) (fun c_2 => ?_)
  · replace hf := x_ip c_2 hf
    obtain rfl := Option.some.inj hf
    obtain ⟨sa, hsa⟩ := hG.2.2.1 (65, "no CLASS that such a one can be below") (by decide)
    have hP9 := hP.sub (ws' := [(o8, .inr (8, [.ref o7, .ref o4, .ref o0, .ref o1, .ref o3, .ref o2])), (o7, .inr (7, [.ref a7_0, .ref a7_1, .int v7_2])), (a7_0, .inl (cyI, 200, .inl g7_0)), (a7_1, .inl (cyZ, 200, .inl g7_1))]) [0, 1, 2, 3] rfl
    have hD9 := hD.sub (ws' := [(o8, .inr (8, [.ref o7, .ref o4, .ref o0, .ref o1, .ref o3, .ref o2])), (o7, .inr (7, [.ref a7_0, .ref a7_1, .int v7_2])), (a7_0, .inl (cyI, 200, .inl g7_0)), (a7_1, .inl (cyZ, 200, .inl g7_1))]) [0, 1, 2, 3] (by decide) rfl
    refine vx_throwS (cls := "java/lang/IllegalArgumentException") (names := ["java/lang/RuntimeException", "java/lang/Exception"]) hx hb hl9 hown (by decide +kernel) (by decide +kernel) k_2 k_3 hsa (x_at1 hG.2.2.2 hts_1) (by decide +kernel) (hG.1.narrow hAb) (hG.2.1.narrow hAb) hS (hl.1.trans hml.symm) dX8_add_31 dX8_add_34 dX8_add_35 dX8_add_37 dX8_add_40 (fun z hz => (hno z hz).elim) (Nat.le_of_ble_eq_true rfl) (Nat.le_of_ble_eq_true rfl) (Nat.le_of_ble_eq_true rfl) (Nat.le_of_ble_eq_true rfl) hlocks (fun t ha h1 h2 => ⟨(), trivial, ⟨x_thr1, x_kp hP9 (fun q h _ => h2 q h), va_K.moved ha hK, hD9⟩, x_mv hS h1 h2⟩) hS.2.2 (Nat.le_of_ble_eq_true rfl) (Nat.le_of_ble_eq_true rfl)
  · replace hf := x_in c_2 hf
    refine lv_aload_n hx hb dX8_add_11 rfl (lv_at hl 0 rfl) ?_
    refine va_get (D := (dC, dI)) (ci := 8) (v := .ref o7) (C := RX8) (T := TX8) (N := 6) hx hb hts i_X8_add_X8 hown hK hP 0 rfl rfl 0 (by decide) k_1 (fun _ h9 => h9) rfl dX8_add_12 ?_
    refine va_getN (D := (dC, dI)) (ci := 7) (v := .ref a7_1) (C := RX7) (T := TX7) (N := 3) hx hb hts i_X8_add_X7 hown hK hP 1 rfl rfl 1 (by decide) ((hN.1 ("FlowJudge", 59, "FlowJudge$Types", "isInterface", "[Z") (List.mem_of_getElem? (i := 0) rfl)).use rfl) (fun _ h9 => h9) rfl dX8_add_15 ?_
    refine lv_iload_n hx hb dX8_add_18 rfl (lv_at hl 1 rfl) ?_
    obtain ⟨g_3, hf⟩ := x_gu hf
    refine va_zald hx hb hK hP 3 1 rfl rfl (x_gdin g_3) dX8_add_19 ?_
    refine lv_if_ne (tgt := 31) hx hb dX8_add_20 (by decide) (fun c_4 => ?_) (fun c_4 => ?_)
    · replace hf := x_in c_4 hf
      obtain rfl := Option.some.inj hf
      obtain ⟨sa, hsa⟩ := hG.2.2.1 (65, "no CLASS that such a one can be below") (by decide)
      have hP9 := hP.sub (ws' := [(o8, .inr (8, [.ref o7, .ref o4, .ref o0, .ref o1, .ref o3, .ref o2])), (o7, .inr (7, [.ref a7_0, .ref a7_1, .int v7_2])), (a7_0, .inl (cyI, 200, .inl g7_0)), (a7_1, .inl (cyZ, 200, .inl g7_1))]) [0, 1, 2, 3] rfl
      have hD9 := hD.sub (ws' := [(o8, .inr (8, [.ref o7, .ref o4, .ref o0, .ref o1, .ref o3, .ref o2])), (o7, .inr (7, [.ref a7_0, .ref a7_1, .int v7_2])), (a7_0, .inl (cyI, 200, .inl g7_0)), (a7_1, .inl (cyZ, 200, .inl g7_1))]) [0, 1, 2, 3] (by decide) rfl
      refine vx_throwS (cls := "java/lang/IllegalArgumentException") (names := ["java/lang/RuntimeException", "java/lang/Exception"]) hx hb hl9 hown (by decide +kernel) (by decide +kernel) k_2 k_3 hsa (x_at1 hG.2.2.2 hts_1) (by decide +kernel) (hG.1.narrow hAb) (hG.2.1.narrow hAb) hS (hl.1.trans hml.symm) dX8_add_31 dX8_add_34 dX8_add_35 dX8_add_37 dX8_add_40 (fun z hz => (hno z hz).elim) (Nat.le_of_ble_eq_true rfl) (Nat.le_of_ble_eq_true rfl) (Nat.le_of_ble_eq_true rfl) (Nat.le_of_ble_eq_true rfl) hlocks (fun t ha h1 h2 => ⟨(), trivial, ⟨x_thr1, x_kp hP9 (fun q h _ => h2 q h), va_K.moved ha hK, hD9⟩, x_mv hS h1 h2⟩) hS.2.2 (Nat.le_of_ble_eq_true rfl) (Nat.le_of_ble_eq_true rfl)
    · replace hf := x_ip c_4 hf
      refine lv_iload_n hx hb dX8_add_23 rfl (lv_at hl 2 rfl) ?_
      refine lv_if_eq (tgt := 41) hx hb dX8_add_24 (by decide) (fun c_5 => ?_) (fun c_5 => ?_)
      · replace hf := x_ip c_5 hf
        refine lv_aload_n hx hb dX8_add_41 rfl (lv_at hl 0 rfl) ?_
        refine va_get (D := (dC, dI)) (ci := 8) (v := .ref o7) (C := RX8) (T := TX8) (N := 6) hx hb hts i_X8_add_X8 hown hK hP 0 rfl rfl 0 (by decide) k_1 (fun _ h9 => h9) rfl dX8_add_42 ?_
        refine va_getN (D := (dC, dI)) (ci := 7) (v := .int v7_2) (C := RX7) (T := TX7) (N := 3) hx hb hts i_X8_add_X7 hown hK hP 1 rfl rfl 2 (by decide) ((hN.1 ("FlowJudge", 70, "FlowJudge$Types", "count", "I") (List.mem_of_getElem? (i := 1) rfl)).use rfl) (fun _ h9 => h9) rfl dX8_add_45 ?_
        refine lv_sipush (v := 200) hx hb dX8_add_48 (by decide) ?_
        refine lv_icmp_lt (tgt := 64) hx hb dX8_add_51 (by decide) (fun c_6 => ?_) (fun c_6 => ?_)
        · replace hf := x_ip c_6 hf
          refine lv_aload_n hx hb dX8_add_64 rfl (lv_at hl 0 rfl) ?_
          refine va_get (D := (dC, dI)) (ci := 8) (v := .ref o7) (C := RX8) (T := TX8) (N := 6) hx hb hts i_X8_add_X8 hown hK hP 0 rfl rfl 0 (by decide) k_1 (fun _ h9 => h9) rfl dX8_add_65 ?_
          refine lv_iload_n hx hb dX8_add_68 rfl (lv_at hl 1 rfl) ?_
          refine lv_iload_n hx hb dX8_add_69 rfl (lv_at hl 2 rfl) ?_
          obtain ⟨r_7, h_7, hf⟩ := x_bi hf
          have hPc := hP.sub (ws' := [(o7, .inr (7, [.ref a7_0, .ref a7_1, .int v7_2])), (a7_0, .inl (cyI, 200, .inl g7_0)), (a7_1, .inl (cyZ, 200, .inl g7_1))]) [1, 2, 3] rfl
          have hDc := hD.sub (ws' := [(o7, .inr (7, [.ref a7_0, .ref a7_1, .int v7_2])), (a7_0, .inl (cyI, 200, .inl g7_0)), (a7_1, .inl (cyZ, 200, .inl g7_1))]) [1, 2, 3] (by decide) rfl
          have hFc := va_free (wc := [(o7, .inr (7, [.ref a7_0, .ref a7_1, .int v7_2])), (a7_0, .inl (cyI, 200, .inl g7_0)), (a7_1, .inl (cyZ, 200, .inl g7_1))]) hD hS hA [1, 2, 3] rfl
          refine va_calli (va_runV (As := [.int p1, .int p2]) (rest := []) ⟨hx, hb, hml, hown, hts⟩ (c_X7_enter l dC dI cyI cyZ cyJ H.size o7 a7_0 a7_1 v7_2 g7_0 g7_1 p1 p2 r_7 h_7) (cwV 2 hts gX8_add_X7_enter rfl rfl rfl (by decide +kernel) ⟨Nat.le_of_ble_eq_true rfl, Nat.le_of_ble_eq_true rfl⟩) (x_pVD hN hK hPc hDc (ci := 7) (q0 := 0) rfl rfl) rfl rfl hl.1 rfl (lv_room (Nat.le_of_ble_eq_true rfl)) dX8_add_70 ⟨Nat.le_of_ble_eq_true rfl, Nat.le_of_ble_eq_true rfl⟩) hS (fun q _ h => hFc q h) hFc (fun q_7 u t H1 locs ht hvm hw hB hz1 hk1 hS => ?_)
          obtain ⟨hP1, hK1, hD1⟩ := hB
          rw [ht] at hP1
          obtain ⟨hP, hD⟩ := va_join (wr := [(o8, .inr (8, [.ref o7, .ref o4, .ref o0, .ref o1, .ref o3, .ref o2]))]) (w1 := [(o7, .inr (7, [.ref a7_0, .ref a7_1, .int (r_7.2.1)])), (a7_0, .inl (cyI, 200, .inl r_7.2.2.1)), (a7_1, .inl (cyZ, 200, .inl r_7.2.2.2))]) hP hD [1, 2, 3] [0] rfl rfl (by decide) (by decide) hk1 hFc hP1 hD1
          clear hz1 hk1 hPc hDc hFc hP1 hK1 hD1 ht hvm t u
          generalize H1 = H at hP hS ⊢
          have hP : va_P (dC, dI) vwCl [(o8, .inr (8, [.ref o7, .ref o4, .ref o0, .ref o1, .ref o3, .ref o2])), (o7, .inr (7, [.ref a7_0, .ref a7_1, .int (r_7.2.1)])), (a7_0, .inl (cyI, 200, .inl r_7.2.2.1)), (a7_1, .inl (cyZ, 200, .inl r_7.2.2.2))] H := hP
          have hD : va_D A [(o8, .inr (8, [.ref o7, .ref o4, .ref o0, .ref o1, .ref o3, .ref o2])), (o7, .inr (7, [.ref a7_0, .ref a7_1, .int (r_7.2.1)])), (a7_0, .inl (cyI, 200, .inl r_7.2.2.1)), (a7_1, .inl (cyZ, 200, .inl r_7.2.2.2))] := hD
          obtain rfl := hw.symm
          obtain rfl := Option.some.inj hf
          have hP9 := hP.sub (ws' := [(o8, .inr (8, [.ref o7, .ref o4, .ref o0, .ref o1, .ref o3, .ref o2])), (o7, .inr (7, [.ref a7_0, .ref a7_1, .int (r_7.2.1)])), (a7_0, .inl (cyI, 200, .inl r_7.2.2.1)), (a7_1, .inl (cyZ, 200, .inl r_7.2.2.2))]) [0, 1, 2, 3] rfl
          have hD9 := hD.sub (ws' := [(o8, .inr (8, [.ref o7, .ref o4, .ref o0, .ref o1, .ref o3, .ref o2])), (o7, .inr (7, [.ref a7_0, .ref a7_1, .int (r_7.2.1)])), (a7_0, .inl (cyI, 200, .inl r_7.2.2.1)), (a7_1, .inl (cyZ, 200, .inl r_7.2.2.2))]) [0, 1, 2, 3] (by decide) rfl
          refine vx_ret ?_
          refine W.widen (k := 1) (n := 6) (Nat.le_of_ble_eq_true rfl) (Nat.le_of_ble_eq_true rfl) ?_
          exact W.iret hx hb hr (fun t ht hW => ⟨⟨_, (), rfl, ⟨rfl, rfl⟩, by rw [ht]; exact hP9, va_K.moved hW.alike hK, hD9⟩, hS.F ht⟩) hS.2.2 dX8_add_73
        · replace hf := x_in c_6 hf
          obtain rfl := Option.some.inj hf
          obtain ⟨sa, hsa⟩ := hG.2.2.1 (76, "no more CLASSES") (by decide)
          have hP9 := hP.sub (ws' := [(o8, .inr (8, [.ref o7, .ref o4, .ref o0, .ref o1, .ref o3, .ref o2])), (o7, .inr (7, [.ref a7_0, .ref a7_1, .int v7_2])), (a7_0, .inl (cyI, 200, .inl g7_0)), (a7_1, .inl (cyZ, 200, .inl g7_1))]) [0, 1, 2, 3] rfl
          have hD9 := hD.sub (ws' := [(o8, .inr (8, [.ref o7, .ref o4, .ref o0, .ref o1, .ref o3, .ref o2])), (o7, .inr (7, [.ref a7_0, .ref a7_1, .int v7_2])), (a7_0, .inl (cyI, 200, .inl g7_0)), (a7_1, .inl (cyZ, 200, .inl g7_1))]) [0, 1, 2, 3] (by decide) rfl
          refine vx_throwS (cls := "java/lang/IllegalStateException") (names := ["java/lang/RuntimeException", "java/lang/Exception"]) hx hb hl9 hown (by decide +kernel) (by decide +kernel) k_4 k_5 hsa (x_at2 hG.2.2.2 hts_2) (by decide +kernel) (hG.1.narrow hAb) (hG.2.1.narrow hAb) hS (hl.1.trans hml.symm) dX8_add_54 dX8_add_57 dX8_add_58 dX8_add_60 dX8_add_63 (fun z hz => (hno z hz).elim) (Nat.le_of_ble_eq_true rfl) (Nat.le_of_ble_eq_true rfl) (Nat.le_of_ble_eq_true rfl) (Nat.le_of_ble_eq_true rfl) hlocks (fun t ha h1 h2 => ⟨(), trivial, ⟨x_thr2, x_kp hP9 (fun q h _ => h2 q h), va_K.moved ha hK, hD9⟩, x_mv hS h1 h2⟩) hS.2.2 (Nat.le_of_ble_eq_true rfl) (Nat.le_of_ble_eq_true rfl)
      · replace hf := x_in c_5 hf
        refine lv_iload_n hx hb dX8_add_27 rfl (lv_at hl 1 rfl) ?_
        refine lv_if_eq (tgt := 41) hx hb dX8_add_28 (by decide) (fun c_8 => ?_) (fun c_8 => ?_)
        · replace hf := x_ip c_8 hf
          refine lv_aload_n hx hb dX8_add_41 rfl (lv_at hl 0 rfl) ?_
          refine va_get (D := (dC, dI)) (ci := 8) (v := .ref o7) (C := RX8) (T := TX8) (N := 6) hx hb hts i_X8_add_X8 hown hK hP 0 rfl rfl 0 (by decide) k_1 (fun _ h9 => h9) rfl dX8_add_42 ?_
          refine va_getN (D := (dC, dI)) (ci := 7) (v := .int v7_2) (C := RX7) (T := TX7) (N := 3) hx hb hts i_X8_add_X7 hown hK hP 1 rfl rfl 2 (by decide) ((hN.1 ("FlowJudge", 70, "FlowJudge$Types", "count", "I") (List.mem_of_getElem? (i := 1) rfl)).use rfl) (fun _ h9 => h9) rfl dX8_add_45 ?_
          refine lv_sipush (v := 200) hx hb dX8_add_48 (by decide) ?_
          refine lv_icmp_lt (tgt := 64) hx hb dX8_add_51 (by decide) (fun c_9 => ?_) (fun c_9 => ?_)
          · replace hf := x_ip c_9 hf
            refine lv_aload_n hx hb dX8_add_64 rfl (lv_at hl 0 rfl) ?_
            refine va_get (D := (dC, dI)) (ci := 8) (v := .ref o7) (C := RX8) (T := TX8) (N := 6) hx hb hts i_X8_add_X8 hown hK hP 0 rfl rfl 0 (by decide) k_1 (fun _ h9 => h9) rfl dX8_add_65 ?_
            refine lv_iload_n hx hb dX8_add_68 rfl (lv_at hl 1 rfl) ?_
            refine lv_iload_n hx hb dX8_add_69 rfl (lv_at hl 2 rfl) ?_
            obtain ⟨r_10, h_10, hf⟩ := x_bi hf
            have hPc := hP.sub (ws' := [(o7, .inr (7, [.ref a7_0, .ref a7_1, .int v7_2])), (a7_0, .inl (cyI, 200, .inl g7_0)), (a7_1, .inl (cyZ, 200, .inl g7_1))]) [1, 2, 3] rfl
            have hDc := hD.sub (ws' := [(o7, .inr (7, [.ref a7_0, .ref a7_1, .int v7_2])), (a7_0, .inl (cyI, 200, .inl g7_0)), (a7_1, .inl (cyZ, 200, .inl g7_1))]) [1, 2, 3] (by decide) rfl
            have hFc := va_free (wc := [(o7, .inr (7, [.ref a7_0, .ref a7_1, .int v7_2])), (a7_0, .inl (cyI, 200, .inl g7_0)), (a7_1, .inl (cyZ, 200, .inl g7_1))]) hD hS hA [1, 2, 3] rfl
            refine va_calli (va_runV (As := [.int p1, .int p2]) (rest := []) ⟨hx, hb, hml, hown, hts⟩ (c_X7_enter l dC dI cyI cyZ cyJ H.size o7 a7_0 a7_1 v7_2 g7_0 g7_1 p1 p2 r_10 h_10) (cwV 2 hts gX8_add_X7_enter rfl rfl rfl (by decide +kernel) ⟨Nat.le_of_ble_eq_true rfl, Nat.le_of_ble_eq_true rfl⟩) (x_pVD hN hK hPc hDc (ci := 7) (q0 := 0) rfl rfl) rfl rfl hl.1 rfl (lv_room (Nat.le_of_ble_eq_true rfl)) dX8_add_70 ⟨Nat.le_of_ble_eq_true rfl, Nat.le_of_ble_eq_true rfl⟩) hS (fun q _ h => hFc q h) hFc (fun q_10 u t H1 locs ht hvm hw hB hz1 hk1 hS => ?_)
            obtain ⟨hP1, hK1, hD1⟩ := hB
            rw [ht] at hP1
            obtain ⟨hP, hD⟩ := va_join (wr := [(o8, .inr (8, [.ref o7, .ref o4, .ref o0, .ref o1, .ref o3, .ref o2]))]) (w1 := [(o7, .inr (7, [.ref a7_0, .ref a7_1, .int (r_10.2.1)])), (a7_0, .inl (cyI, 200, .inl r_10.2.2.1)), (a7_1, .inl (cyZ, 200, .inl r_10.2.2.2))]) hP hD [1, 2, 3] [0] rfl rfl (by decide) (by decide) hk1 hFc hP1 hD1
            clear hz1 hk1 hPc hDc hFc hP1 hK1 hD1 ht hvm t u
            generalize H1 = H at hP hS ⊢
            have hP : va_P (dC, dI) vwCl [(o8, .inr (8, [.ref o7, .ref o4, .ref o0, .ref o1, .ref o3, .ref o2])), (o7, .inr (7, [.ref a7_0, .ref a7_1, .int (r_10.2.1)])), (a7_0, .inl (cyI, 200, .inl r_10.2.2.1)), (a7_1, .inl (cyZ, 200, .inl r_10.2.2.2))] H := hP
            have hD : va_D A [(o8, .inr (8, [.ref o7, .ref o4, .ref o0, .ref o1, .ref o3, .ref o2])), (o7, .inr (7, [.ref a7_0, .ref a7_1, .int (r_10.2.1)])), (a7_0, .inl (cyI, 200, .inl r_10.2.2.1)), (a7_1, .inl (cyZ, 200, .inl r_10.2.2.2))] := hD
            obtain rfl := hw.symm
            obtain rfl := Option.some.inj hf
            have hP9 := hP.sub (ws' := [(o8, .inr (8, [.ref o7, .ref o4, .ref o0, .ref o1, .ref o3, .ref o2])), (o7, .inr (7, [.ref a7_0, .ref a7_1, .int (r_10.2.1)])), (a7_0, .inl (cyI, 200, .inl r_10.2.2.1)), (a7_1, .inl (cyZ, 200, .inl r_10.2.2.2))]) [0, 1, 2, 3] rfl
            have hD9 := hD.sub (ws' := [(o8, .inr (8, [.ref o7, .ref o4, .ref o0, .ref o1, .ref o3, .ref o2])), (o7, .inr (7, [.ref a7_0, .ref a7_1, .int (r_10.2.1)])), (a7_0, .inl (cyI, 200, .inl r_10.2.2.1)), (a7_1, .inl (cyZ, 200, .inl r_10.2.2.2))]) [0, 1, 2, 3] (by decide) rfl
            refine vx_ret ?_
            refine W.widen (k := 1) (n := 6) (Nat.le_of_ble_eq_true rfl) (Nat.le_of_ble_eq_true rfl) ?_
            exact W.iret hx hb hr (fun t ht hW => ⟨⟨_, (), rfl, ⟨rfl, rfl⟩, by rw [ht]; exact hP9, va_K.moved hW.alike hK, hD9⟩, hS.F ht⟩) hS.2.2 dX8_add_73
          · replace hf := x_in c_9 hf
            obtain rfl := Option.some.inj hf
            obtain ⟨sa, hsa⟩ := hG.2.2.1 (76, "no more CLASSES") (by decide)
            have hP9 := hP.sub (ws' := [(o8, .inr (8, [.ref o7, .ref o4, .ref o0, .ref o1, .ref o3, .ref o2])), (o7, .inr (7, [.ref a7_0, .ref a7_1, .int v7_2])), (a7_0, .inl (cyI, 200, .inl g7_0)), (a7_1, .inl (cyZ, 200, .inl g7_1))]) [0, 1, 2, 3] rfl
            have hD9 := hD.sub (ws' := [(o8, .inr (8, [.ref o7, .ref o4, .ref o0, .ref o1, .ref o3, .ref o2])), (o7, .inr (7, [.ref a7_0, .ref a7_1, .int v7_2])), (a7_0, .inl (cyI, 200, .inl g7_0)), (a7_1, .inl (cyZ, 200, .inl g7_1))]) [0, 1, 2, 3] (by decide) rfl
            refine vx_throwS (cls := "java/lang/IllegalStateException") (names := ["java/lang/RuntimeException", "java/lang/Exception"]) hx hb hl9 hown (by decide +kernel) (by decide +kernel) k_4 k_5 hsa (x_at2 hG.2.2.2 hts_2) (by decide +kernel) (hG.1.narrow hAb) (hG.2.1.narrow hAb) hS (hl.1.trans hml.symm) dX8_add_54 dX8_add_57 dX8_add_58 dX8_add_60 dX8_add_63 (fun z hz => (hno z hz).elim) (Nat.le_of_ble_eq_true rfl) (Nat.le_of_ble_eq_true rfl) (Nat.le_of_ble_eq_true rfl) (Nat.le_of_ble_eq_true rfl) hlocks (fun t ha h1 h2 => ⟨(), trivial, ⟨x_thr2, x_kp hP9 (fun q h _ => h2 q h), va_K.moved ha hK, hD9⟩, x_mv hS h1 h2⟩) hS.2.2 (Nat.le_of_ble_eq_true rfl) (Nat.le_of_ble_eq_true rfl)
        · replace hf := x_in c_8 hf
          obtain rfl := Option.some.inj hf
          obtain ⟨sa, hsa⟩ := hG.2.2.1 (65, "no CLASS that such a one can be below") (by decide)
          have hP9 := hP.sub (ws' := [(o8, .inr (8, [.ref o7, .ref o4, .ref o0, .ref o1, .ref o3, .ref o2])), (o7, .inr (7, [.ref a7_0, .ref a7_1, .int v7_2])), (a7_0, .inl (cyI, 200, .inl g7_0)), (a7_1, .inl (cyZ, 200, .inl g7_1))]) [0, 1, 2, 3] rfl
          have hD9 := hD.sub (ws' := [(o8, .inr (8, [.ref o7, .ref o4, .ref o0, .ref o1, .ref o3, .ref o2])), (o7, .inr (7, [.ref a7_0, .ref a7_1, .int v7_2])), (a7_0, .inl (cyI, 200, .inl g7_0)), (a7_1, .inl (cyZ, 200, .inl g7_1))]) [0, 1, 2, 3] (by decide) rfl
          refine vx_throwS (cls := "java/lang/IllegalArgumentException") (names := ["java/lang/RuntimeException", "java/lang/Exception"]) hx hb hl9 hown (by decide +kernel) (by decide +kernel) k_2 k_3 hsa (x_at1 hG.2.2.2 hts_1) (by decide +kernel) (hG.1.narrow hAb) (hG.2.1.narrow hAb) hS (hl.1.trans hml.symm) dX8_add_31 dX8_add_34 dX8_add_35 dX8_add_37 dX8_add_40 (fun z hz => (hno z hz).elim) (Nat.le_of_ble_eq_true rfl) (Nat.le_of_ble_eq_true rfl) (Nat.le_of_ble_eq_true rfl) (Nat.le_of_ble_eq_true rfl) hlocks (fun t ha h1 h2 => ⟨(), trivial, ⟨x_thr1, x_kp hP9 (fun q h _ => h2 q h), va_K.moved ha hK, hD9⟩, x_mv hS h1 h2⟩) hS.2.2 (Nat.le_of_ble_eq_true rfl) (Nat.le_of_ble_eq_true rfl)

theorem i_X8_field_X4 : ∀ w ∈ wsX40, w ∈ wsX8_field := fun _ h => List.mem_cons_of_mem _ (List.mem_append_left _ (List.mem_append_left _ (List.mem_append_left _ (List.mem_append_right _ h))))
theorem i_X8_field_X8 : ∀ w ∈ wsX80, w ∈ wsX8_field := fun _ h => List.mem_cons_of_mem _ (List.mem_append_left _ (List.mem_append_left _ (List.mem_append_left _ (List.mem_append_left _ (List.mem_append_right _ h)))))
theorem u_X8_field_1 : ∀ w ∈ (vx_atS RX8 67 "java/lang/IllegalArgumentException" ["java/lang/RuntimeException", "java/lang/Exception"]).filter goodWord, w ∈ wsX8_field := by decide +kernel
theorem u_X8_field_2 : ∀ w ∈ (vx_atS RX8 78 "java/lang/IllegalStateException" ["java/lang/RuntimeException", "java/lang/Exception"]).filter goodWord, w ∈ wsX8_field := by decide +kernel
set_option maxHeartbeats 4000000 in
set_option maxRecDepth 100000 in
theorem c_X8_field (l : Launch) (hl9 : l.stackTraces = false) (dC : Nat → ClassId) (dI : Nat → Nat → Nat) (cyI cyZ cyJ : ClassId) (sz : Nat) (base : Nat) (o8 : Nat) (o7 : Nat) (o4 : Nat) (o0 : Nat) (o1 : Nat) (o3 : Nat) (o2 : Nat) (a7_0 : Nat) (a7_1 : Nat) (v7_2 : Int32) (a4_0 : Nat) (a4_1 : Nat) (v4_2 : Int32) (a4_3 : Nat) (a4_4 : Nat) (a4_5 : Nat) (a4_6 : Nat) (a4_7 : Nat) (v4_8 : Int32) (g4_0 : Nat → Int32) (g4_1 : Nat → Int32) (p1 : Int32) (p2 : Int32) (R : Int32 × Int32 × Int32 × (Nat → Int32) × (Nat → Int32)) (hf : f_X8_field v7_2 v4_2 g4_0 g4_1 p1 p2 = some R) : vx_Met l yX8_field wsX8_field ({ frames := 6, cells := 1, slots := 6, locals := 90 }) (va_Pc [.ref o8, .int p1, .int p2] (x_PreX (dC, dI) (x_T cyI cyZ cyJ) [(o8, .inr (8, [.ref o7, .ref o4, .ref o0, .ref o1, .ref o3, .ref o2])), (o7, .inr (7, [.ref a7_0, .ref a7_1, .int v7_2])), (o4, .inr (4, [.ref a4_0, .ref a4_1, .int v4_2, .ref a4_3, .ref a4_4, .ref a4_5, .ref a4_6, .ref a4_7, .int v4_8])), (a4_0, .inl (cyI, 100, .inl g4_0)), (a4_1, .inl (cyI, 100, .inl g4_1))] base sz)) (va_Qi (fun (r : Int32) (_ : Unit) => R.1 = 0 ∧ r = R.2.1) (fun (_ : Unit) (t : State) => va_P (dC, dI) vwCl [(o8, .inr (8, [.ref o7, .ref o4, .ref o0, .ref o1, .ref o3, .ref o2])), (o7, .inr (7, [.ref a7_0, .ref a7_1, .int v7_2])), (o4, .inr (4, [.ref a4_0, .ref a4_1, .int (R.2.2.1), .ref a4_3, .ref a4_4, .ref a4_5, .ref a4_6, .ref a4_7, .int v4_8])), (a4_0, .inl (cyI, 100, .inl R.2.2.2.1)), (a4_1, .inl (cyI, 100, .inl R.2.2.2.2))] t.heap ∧ va_K (dC, dI) vwCl (x_T cyI cyZ cyJ) t ∧ va_D (va_A [(o8, .inr (8, [.ref o7, .ref o4, .ref o0, .ref o1, .ref o3, .ref o2])), (o7, .inr (7, [.ref a7_0, .ref a7_1, .int v7_2])), (o4, .inr (4, [.ref a4_0, .ref a4_1, .int v4_2, .ref a4_3, .ref a4_4, .ref a4_5, .ref a4_6, .ref a4_7, .int v4_8])), (a4_0, .inl (cyI, 100, .inl g4_0)), (a4_1, .inl (cyI, 100, .inl g4_1))] sz) [(o8, .inr (8, [.ref o7, .ref o4, .ref o0, .ref o1, .ref o3, .ref o2])), (o7, .inr (7, [.ref a7_0, .ref a7_1, .int v7_2])), (o4, .inr (4, [.ref a4_0, .ref a4_1, .int (R.2.2.1), .ref a4_3, .ref a4_4, .ref a4_5, .ref a4_6, .ref a4_7, .int v4_8])), (a4_0, .inl (cyI, 100, .inl R.2.2.2.1)), (a4_1, .inl (cyI, 100, .inl R.2.2.2.2))]) (va_A [(o8, .inr (8, [.ref o7, .ref o4, .ref o0, .ref o1, .ref o3, .ref o2])), (o7, .inr (7, [.ref a7_0, .ref a7_1, .int v7_2])), (o4, .inr (4, [.ref a4_0, .ref a4_1, .int v4_2, .ref a4_3, .ref a4_4, .ref a4_5, .ref a4_6, .ref a4_7, .int v4_8])), (a4_0, .inl (cyI, 100, .inl g4_0)), (a4_1, .inl (cyI, 100, .inl g4_1))] sz)) (vx_X (fun _ : Unit => True) (fun (E : String) (_ : Unit) (t : State) => x_thr R.1 E ∧ (va_P (dC, dI) vwCl [(o8, .inr (8, [.ref o7, .ref o4, .ref o0, .ref o1, .ref o3, .ref o2])), (o7, .inr (7, [.ref a7_0, .ref a7_1, .int v7_2])), (o4, .inr (4, [.ref a4_0, .ref a4_1, .int (R.2.2.1), .ref a4_3, .ref a4_4, .ref a4_5, .ref a4_6, .ref a4_7, .int v4_8])), (a4_0, .inl (cyI, 100, .inl R.2.2.2.1)), (a4_1, .inl (cyI, 100, .inl R.2.2.2.2))] t.heap ∧ va_K (dC, dI) vwCl (x_T cyI cyZ cyJ) t ∧ va_D (va_A [(o8, .inr (8, [.ref o7, .ref o4, .ref o0, .ref o1, .ref o3, .ref o2])), (o7, .inr (7, [.ref a7_0, .ref a7_1, .int v7_2])), (o4, .inr (4, [.ref a4_0, .ref a4_1, .int v4_2, .ref a4_3, .ref a4_4, .ref a4_5, .ref a4_6, .ref a4_7, .int v4_8])), (a4_0, .inl (cyI, 100, .inl g4_0)), (a4_1, .inl (cyI, 100, .inl g4_1))] sz) [(o8, .inr (8, [.ref o7, .ref o4, .ref o0, .ref o1, .ref o3, .ref o2])), (o7, .inr (7, [.ref a7_0, .ref a7_1, .int v7_2])), (o4, .inr (4, [.ref a4_0, .ref a4_1, .int (R.2.2.1), .ref a4_3, .ref a4_4, .ref a4_5, .ref a4_6, .ref a4_7, .int v4_8])), (a4_0, .inl (cyI, 100, .inl R.2.2.2.1)), (a4_1, .inl (cyI, 100, .inl R.2.2.2.2))])) (va_A [(o8, .inr (8, [.ref o7, .ref o4, .ref o0, .ref o1, .ref o3, .ref o2])), (o7, .inr (7, [.ref a7_0, .ref a7_1, .int v7_2])), (o4, .inr (4, [.ref a4_0, .ref a4_1, .int v4_2, .ref a4_3, .ref a4_4, .ref a4_5, .ref a4_6, .ref a4_7, .int v4_8])), (a4_0, .inl (cyI, 100, .inl g4_0)), (a4_1, .inl (cyI, 100, .inl g4_1))] sz)) 1 6 (va_A [(o8, .inr (8, [.ref o7, .ref o4, .ref o0, .ref o1, .ref o3, .ref o2])), (o7, .inr (7, [.ref a7_0, .ref a7_1, .int v7_2])), (o4, .inr (4, [.ref a4_0, .ref a4_1, .int v4_2, .ref a4_3, .ref a4_4, .ref a4_5, .ref a4_6, .ref a4_7, .int v4_8])), (a4_0, .inl (cyI, 100, .inl g4_0)), (a4_1, .inl (cyI, 100, .inl g4_1))] sz) := by
  refine vx_ofW (cc := cX8_field) (maxL := 3) (ret := (some .int)) (by decide) rfl ?_
  intro p e s m args below meth c s₁ B hml hno hv
  obtain ⟨rfl, ⟨⟨hsz, hP, hK, hN⟩, hD0⟩, hDb, hbz, hG⟩ := hv
  have hx := B.exec
  have hb := B.bytes
  have hr := B.returns
  have hts := atoms_spec (ws := wsX8_field) B.pre
  have hown : s.vm.findClass RX8 = some m.cls := findClass_of_methodNamed B.named
  have hlocks := B.notSynchronized
  have hts_1 := fun w (h : w ∈ (vx_atS RX8 67 "java/lang/IllegalArgumentException" ["java/lang/RuntimeException", "java/lang/Exception"]).filter goodWord) => hts w (u_X8_field_1 w h)
  have hts_2 := fun w (h : w ∈ (vx_atS RX8 78 "java/lang/IllegalStateException" ["java/lang/RuntimeException", "java/lang/Exception"]).filter goodWord) => hts w (u_X8_field_2 w h)
  have k_1 := hts (.fieldLink RX8 10 "FlowJudge" "types" "LFlowJudge$Types;") (by decide +kernel)
  have k_2 := hts (.classLink RX8 63 "java/lang/IllegalArgumentException") (by decide +kernel)
  have k_3 := hts (.initialized "java/lang/IllegalArgumentException") (by decide +kernel)
  have k_4 := hts (.fieldLink RX8 19 "FlowJudge" "members" "LFlowJudge$Members;") (by decide +kernel)
  have k_5 := hts (.classLink RX8 74 "java/lang/IllegalStateException") (by decide +kernel)
  have k_6 := hts (.initialized "java/lang/IllegalStateException") (by decide +kernel)
  subst hsz
  have hAb : ∀ q, va_A [(o8, .inr (8, [.ref o7, .ref o4, .ref o0, .ref o1, .ref o3, .ref o2])), (o7, .inr (7, [.ref a7_0, .ref a7_1, .int v7_2])), (o4, .inr (4, [.ref a4_0, .ref a4_1, .int v4_2, .ref a4_3, .ref a4_4, .ref a4_5, .ref a4_6, .ref a4_7, .int v4_8])), (a4_0, .inl (cyI, 100, .inl g4_0)), (a4_1, .inl (cyI, 100, .inl g4_1))] s.heap.size q → x_new base q := x_Ab hDb hbz
  have hD := hD0.self (sz := s.heap.size)
  generalize hAe : va_A [(o8, .inr (8, [.ref o7, .ref o4, .ref o0, .ref o1, .ref o3, .ref o2])), (o7, .inr (7, [.ref a7_0, .ref a7_1, .int v7_2])), (o4, .inr (4, [.ref a4_0, .ref a4_1, .int v4_2, .ref a4_3, .ref a4_4, .ref a4_5, .ref a4_6, .ref a4_7, .int v4_8])), (a4_0, .inl (cyI, 100, .inl g4_0)), (a4_1, .inl (cyI, 100, .inl g4_1))] s.heap.size = A at hD hAb ⊢
  have hA : ∀ q : Nat, s.heap.size ≤ q → A q := fun q h => by rw [← hAe]; exact Or.inr h
  have hP : va_P (dC, dI) vwCl [(o8, .inr (8, [.ref o7, .ref o4, .ref o0, .ref o1, .ref o3, .ref o2])), (o7, .inr (7, [.ref a7_0, .ref a7_1, .int v7_2])), (o4, .inr (4, [.ref a4_0, .ref a4_1, .int v4_2, .ref a4_3, .ref a4_4, .ref a4_5, .ref a4_6, .ref a4_7, .int v4_8])), (a4_0, .inl (cyI, 100, .inl g4_0)), (a4_1, .inl (cyI, 100, .inl g4_1))] s.heap := hP
  have hl := lv_entry ([.ref o8, .int p1, .int p2]) (n := 3) (Nat.le_of_ble_eq_true rfl)
  rw [lg_entry_eq]
  generalize (lg_sl ([.ref o8, .int p1, .int p2]) ++ List.replicate (3 - (lg_sl ([.ref o8, .int p1, .int p2])).length) Slot.unset).toArray = ls at hl ⊢
  have hl : lv_has ls 3 [(0, .ref o8), (1, .int p1), (2, .int p2)] := hl
  obtain ⟨H, hH⟩ : ∃ z, z = s.heap := ⟨_, rfl⟩
  refine x_here hH ?_
  have hP : va_P (dC, dI) vwCl [(o8, .inr (8, [.ref o7, .ref o4, .ref o0, .ref o1, .ref o3, .ref o2])), (o7, .inr (7, [.ref a7_0, .ref a7_1, .int v7_2])), (o4, .inr (4, [.ref a4_0, .ref a4_1, .int v4_2, .ref a4_3, .ref a4_4, .ref a4_5, .ref a4_6, .ref a4_7, .int v4_8])), (a4_0, .inl (cyI, 100, .inl g4_0)), (a4_1, .inl (cyI, 100, .inl g4_1))] H := by rw [hH]; exact hP
  have hS : va_S A s.heap H [] := by rw [hH]; exact va_S.rf
  clear hH
  obtain ⟨locs, hlo⟩ : ∃ z : List Loc, z = [] := ⟨_, rfl⟩
  refine x_herl hlo ?_
  have hS : va_S A s.heap H locs := by rw [hlo]; exact hS
  clear hlo
  unfold f_X8_field at hf
  refine lv_aload_n hx hb dX8_field_0 rfl (lv_at hl 0 rfl) ?_
  refine va_get (D := (dC, dI)) (ci := 8) (v := .ref o7) (C := RX8) (T := TX8) (N := 6) hx hb hts i_X8_field_X8 hown hK hP 0 rfl rfl 0 (by decide) k_1 (fun _ h9 => h9) rfl dX8_field_1 ?_
  refine lv_iload_n hx hb dX8_field_4 rfl (lv_at hl 1 rfl) ?_
  obtain ⟨r_1, h_1, hf⟩ := x_bi hf
  have hPc := hP.sub (ws' := [(o7, .inr (7, [.ref a7_0, .ref a7_1, .int v7_2]))]) [1] rfl
  refine va_calli (va_runV (As := [.int p1]) (rest := []) ⟨hx, hb, hml, hown, hts⟩ (c_X7_isClass l dC dI cyI cyZ cyJ H.size o7 a7_0 a7_1 v7_2 p1 r_1 h_1) (cwV 1 hts gX8_field_X7_isClass rfl rfl rfl (by decide +kernel) ⟨Nat.le_of_ble_eq_true rfl, Nat.le_of_ble_eq_true rfl⟩) (x_pV hN hK hPc (ci := 7) (q0 := 0) rfl rfl) rfl rfl hl.1 rfl (lv_room (Nat.le_of_ble_eq_true rfl)) dX8_field_5 ⟨Nat.le_of_ble_eq_true rfl, Nat.le_of_ble_eq_true rfl⟩) hS x_nA (x_nf hA hS) (fun q_1 u t H1 locs ht hvm hw hB hz1 hk1 hS => ?_)
  have hP := x_kp hP hk1
  clear ht hvm hB hz1 hk1 t u hPc
  generalize H1 = H at hP hS ⊢
  obtain ⟨hw, b_1⟩ := hw
  obtain rfl := hw.symm
  refine lv_if_eq (tgt := 22) hx hb dX8_field_8 (by decide) (fun c_2 => ?_) (fun c_2 => ?_)
  · replace hf := x_ip c_2 hf
    obtain rfl := Option.some.inj hf
    obtain ⟨sa, hsa⟩ := hG.2.2.1 (86, "no CLASS or no TYPE") (by decide)
    have hP9 := hP.sub (ws' := [(o8, .inr (8, [.ref o7, .ref o4, .ref o0, .ref o1, .ref o3, .ref o2])), (o7, .inr (7, [.ref a7_0, .ref a7_1, .int v7_2])), (o4, .inr (4, [.ref a4_0, .ref a4_1, .int v4_2, .ref a4_3, .ref a4_4, .ref a4_5, .ref a4_6, .ref a4_7, .int v4_8])), (a4_0, .inl (cyI, 100, .inl g4_0)), (a4_1, .inl (cyI, 100, .inl g4_1))]) [0, 1, 2, 3, 4] rfl
    have hD9 := hD.sub (ws' := [(o8, .inr (8, [.ref o7, .ref o4, .ref o0, .ref o1, .ref o3, .ref o2])), (o7, .inr (7, [.ref a7_0, .ref a7_1, .int v7_2])), (o4, .inr (4, [.ref a4_0, .ref a4_1, .int v4_2, .ref a4_3, .ref a4_4, .ref a4_5, .ref a4_6, .ref a4_7, .int v4_8])), (a4_0, .inl (cyI, 100, .inl g4_0)), (a4_1, .inl (cyI, 100, .inl g4_1))]) [0, 1, 2, 3, 4] (by decide) rfl
    refine vx_throwS (cls := "java/lang/IllegalArgumentException") (names := ["java/lang/RuntimeException", "java/lang/Exception"]) hx hb hl9 hown (by decide +kernel) (by decide +kernel) k_2 k_3 hsa (x_at1 hG.2.2.2 hts_1) (by decide +kernel) (hG.1.narrow hAb) (hG.2.1.narrow hAb) hS (hl.1.trans hml.symm) dX8_field_22 dX8_field_25 dX8_field_26 dX8_field_28 dX8_field_31 (fun z hz => (hno z hz).elim) (Nat.le_of_ble_eq_true rfl) (Nat.le_of_ble_eq_true rfl) (Nat.le_of_ble_eq_true rfl) (Nat.le_of_ble_eq_true rfl) hlocks (fun t ha h1 h2 => ⟨(), trivial, ⟨x_thr1, x_kp hP9 (fun q h _ => h2 q h), va_K.moved ha hK, hD9⟩, x_mv hS h1 h2⟩) hS.2.2 (Nat.le_of_ble_eq_true rfl) (Nat.le_of_ble_eq_true rfl)
  · replace hf := x_in c_2 hf
    refine lv_aload_n hx hb dX8_field_11 rfl (lv_at hl 0 rfl) ?_
    refine va_get (D := (dC, dI)) (ci := 8) (v := .ref o7) (C := RX8) (T := TX8) (N := 6) hx hb hts i_X8_field_X8 hown hK hP 0 rfl rfl 0 (by decide) k_1 (fun _ h9 => h9) rfl dX8_field_12 ?_
    refine lv_iload_n hx hb dX8_field_15 rfl (lv_at hl 2 rfl) ?_
    obtain ⟨r_3, h_3, hf⟩ := x_bi hf
    have hPc := hP.sub (ws' := [(o7, .inr (7, [.ref a7_0, .ref a7_1, .int v7_2]))]) [1] rfl
    refine va_calli (va_runV (As := [.int p2]) (rest := []) ⟨hx, hb, hml, hown, hts⟩ (c_X7_isType l dC dI cyI cyZ cyJ H.size o7 a7_0 a7_1 v7_2 p2 r_3 h_3) (cwV 1 hts gX8_field_X7_isType rfl rfl rfl (by decide +kernel) ⟨Nat.le_of_ble_eq_true rfl, Nat.le_of_ble_eq_true rfl⟩) (x_pV hN hK hPc (ci := 7) (q0 := 0) rfl rfl) rfl rfl hl.1 rfl (lv_room (Nat.le_of_ble_eq_true rfl)) dX8_field_16 ⟨Nat.le_of_ble_eq_true rfl, Nat.le_of_ble_eq_true rfl⟩) hS x_nA (x_nf hA hS) (fun q_3 u t H1 locs ht hvm hw hB hz1 hk1 hS => ?_)
    have hP := x_kp hP hk1
    clear ht hvm hB hz1 hk1 t u hPc
    generalize H1 = H at hP hS ⊢
    obtain ⟨hw, b_3⟩ := hw
    obtain rfl := hw.symm
    refine lv_if_ne (tgt := 32) hx hb dX8_field_19 (by decide) (fun c_4 => ?_) (fun c_4 => ?_)
    · replace hf := x_in c_4 hf
      refine lv_aload_n hx hb dX8_field_32 rfl (lv_at hl 0 rfl) ?_
      refine va_get (D := (dC, dI)) (ci := 8) (v := .ref o4) (C := RX8) (T := TX8) (N := 6) hx hb hts i_X8_field_X8 hown hK hP 0 rfl rfl 1 (by decide) k_4 (fun _ h9 => h9) rfl dX8_field_33 ?_
      refine va_getN (D := (dC, dI)) (ci := 4) (v := .int v4_2) (C := RX4) (T := TX4) (N := 9) hx hb hts i_X8_field_X4 hown hK hP 2 rfl rfl 2 (by decide) ((hN.1 ("FlowJudge", 88, "FlowJudge$Members", "fieldCount", "I") (List.mem_of_getElem? (i := 2) rfl)).use rfl) (fun _ h9 => h9) rfl dX8_field_36 ?_
      refine lv_bipush (v := 100) hx hb dX8_field_39 (by decide) ?_
      refine lv_icmp_lt (tgt := 54) hx hb dX8_field_41 (by decide) (fun c_5 => ?_) (fun c_5 => ?_)
      · replace hf := x_ip c_5 hf
        refine lv_aload_n hx hb dX8_field_54 rfl (lv_at hl 0 rfl) ?_
        refine va_get (D := (dC, dI)) (ci := 8) (v := .ref o4) (C := RX8) (T := TX8) (N := 6) hx hb hts i_X8_field_X8 hown hK hP 0 rfl rfl 1 (by decide) k_4 (fun _ h9 => h9) rfl dX8_field_55 ?_
        refine lv_iload_n hx hb dX8_field_58 rfl (lv_at hl 1 rfl) ?_
        refine lv_iload_n hx hb dX8_field_59 rfl (lv_at hl 2 rfl) ?_
        obtain ⟨r_6, h_6, hf⟩ := x_bi hf
        have hPc := hP.sub (ws' := [(o4, .inr (4, [.ref a4_0, .ref a4_1, .int v4_2, .ref a4_3, .ref a4_4, .ref a4_5, .ref a4_6, .ref a4_7, .int v4_8])), (a4_0, .inl (cyI, 100, .inl g4_0)), (a4_1, .inl (cyI, 100, .inl g4_1))]) [2, 3, 4] rfl
        have hDc := hD.sub (ws' := [(o4, .inr (4, [.ref a4_0, .ref a4_1, .int v4_2, .ref a4_3, .ref a4_4, .ref a4_5, .ref a4_6, .ref a4_7, .int v4_8])), (a4_0, .inl (cyI, 100, .inl g4_0)), (a4_1, .inl (cyI, 100, .inl g4_1))]) [2, 3, 4] (by decide) rfl
        have hFc := va_free (wc := [(o4, .inr (4, [.ref a4_0, .ref a4_1, .int v4_2, .ref a4_3, .ref a4_4, .ref a4_5, .ref a4_6, .ref a4_7, .int v4_8])), (a4_0, .inl (cyI, 100, .inl g4_0)), (a4_1, .inl (cyI, 100, .inl g4_1))]) hD hS hA [2, 3, 4] rfl
        refine va_calli (va_runV (As := [.int p1, .int p2]) (rest := []) ⟨hx, hb, hml, hown, hts⟩ (c_X4_enterField l dC dI cyI cyZ cyJ H.size o4 a4_0 a4_1 v4_2 a4_3 a4_4 a4_5 a4_6 a4_7 v4_8 g4_0 g4_1 p1 p2 r_6 h_6) (cwV 2 hts gX8_field_X4_enterField rfl rfl rfl (by decide +kernel) ⟨Nat.le_of_ble_eq_true rfl, Nat.le_of_ble_eq_true rfl⟩) (x_pVD hN hK hPc hDc (ci := 4) (q0 := 0) rfl rfl) rfl rfl hl.1 rfl (lv_room (Nat.le_of_ble_eq_true rfl)) dX8_field_60 ⟨Nat.le_of_ble_eq_true rfl, Nat.le_of_ble_eq_true rfl⟩) hS (fun q _ h => hFc q h) hFc (fun q_6 u t H1 locs ht hvm hw hB hz1 hk1 hS => ?_)
        obtain ⟨hP1, hK1, hD1⟩ := hB
        rw [ht] at hP1
        obtain ⟨hP, hD⟩ := va_join (wr := [(o8, .inr (8, [.ref o7, .ref o4, .ref o0, .ref o1, .ref o3, .ref o2])), (o7, .inr (7, [.ref a7_0, .ref a7_1, .int v7_2]))]) (w1 := [(o4, .inr (4, [.ref a4_0, .ref a4_1, .int (r_6.2.1), .ref a4_3, .ref a4_4, .ref a4_5, .ref a4_6, .ref a4_7, .int v4_8])), (a4_0, .inl (cyI, 100, .inl r_6.2.2.1)), (a4_1, .inl (cyI, 100, .inl r_6.2.2.2))]) hP hD [2, 3, 4] [0, 1] rfl rfl (by decide) (by decide) hk1 hFc hP1 hD1
        clear hz1 hk1 hPc hDc hFc hP1 hK1 hD1 ht hvm t u
        generalize H1 = H at hP hS ⊢
        have hP : va_P (dC, dI) vwCl [(o8, .inr (8, [.ref o7, .ref o4, .ref o0, .ref o1, .ref o3, .ref o2])), (o7, .inr (7, [.ref a7_0, .ref a7_1, .int v7_2])), (o4, .inr (4, [.ref a4_0, .ref a4_1, .int (r_6.2.1), .ref a4_3, .ref a4_4, .ref a4_5, .ref a4_6, .ref a4_7, .int v4_8])), (a4_0, .inl (cyI, 100, .inl r_6.2.2.1)), (a4_1, .inl (cyI, 100, .inl r_6.2.2.2))] H := hP
        have hD : va_D A [(o8, .inr (8, [.ref o7, .ref o4, .ref o0, .ref o1, .ref o3, .ref o2])), (o7, .inr (7, [.ref a7_0, .ref a7_1, .int v7_2])), (o4, .inr (4, [.ref a4_0, .ref a4_1, .int (r_6.2.1), .ref a4_3, .ref a4_4, .ref a4_5, .ref a4_6, .ref a4_7, .int v4_8])), (a4_0, .inl (cyI, 100, .inl r_6.2.2.1)), (a4_1, .inl (cyI, 100, .inl r_6.2.2.2))] := hD
        obtain rfl := hw.symm
        obtain rfl := Option.some.inj hf
        have hP9 := hP.sub (ws' := [(o8, .inr (8, [.ref o7, .ref o4, .ref o0, .ref o1, .ref o3, .ref o2])), (o7, .inr (7, [.ref a7_0, .ref a7_1, .int v7_2])), (o4, .inr (4, [.ref a4_0, .ref a4_1, .int (r_6.2.1), .ref a4_3, .ref a4_4, .ref a4_5, .ref a4_6, .ref a4_7, .int v4_8])), (a4_0, .inl (cyI, 100, .inl r_6.2.2.1)), (a4_1, .inl (cyI, 100, .inl r_6.2.2.2))]) [0, 1, 2, 3, 4] rfl
        have hD9 := hD.sub (ws' := [(o8, .inr (8, [.ref o7, .ref o4, .ref o0, .ref o1, .ref o3, .ref o2])), (o7, .inr (7, [.ref a7_0, .ref a7_1, .int v7_2])), (o4, .inr (4, [.ref a4_0, .ref a4_1, .int (r_6.2.1), .ref a4_3, .ref a4_4, .ref a4_5, .ref a4_6, .ref a4_7, .int v4_8])), (a4_0, .inl (cyI, 100, .inl r_6.2.2.1)), (a4_1, .inl (cyI, 100, .inl r_6.2.2.2))]) [0, 1, 2, 3, 4] (by decide) rfl
        refine vx_ret ?_
        refine W.widen (k := 1) (n := 6) (Nat.le_of_ble_eq_true rfl) (Nat.le_of_ble_eq_true rfl) ?_
        exact W.iret hx hb hr (fun t ht hW => ⟨⟨_, (), rfl, ⟨rfl, rfl⟩, by rw [ht]; exact hP9, va_K.moved hW.alike hK, hD9⟩, hS.F ht⟩) hS.2.2 dX8_field_63
      · replace hf := x_in c_5 hf
        obtain rfl := Option.some.inj hf
        obtain ⟨sa, hsa⟩ := hG.2.2.1 (91, "no more FIELDS") (by decide)
        have hP9 := hP.sub (ws' := [(o8, .inr (8, [.ref o7, .ref o4, .ref o0, .ref o1, .ref o3, .ref o2])), (o7, .inr (7, [.ref a7_0, .ref a7_1, .int v7_2])), (o4, .inr (4, [.ref a4_0, .ref a4_1, .int v4_2, .ref a4_3, .ref a4_4, .ref a4_5, .ref a4_6, .ref a4_7, .int v4_8])), (a4_0, .inl (cyI, 100, .inl g4_0)), (a4_1, .inl (cyI, 100, .inl g4_1))]) [0, 1, 2, 3, 4] rfl
        have hD9 := hD.sub (ws' := [(o8, .inr (8, [.ref o7, .ref o4, .ref o0, .ref o1, .ref o3, .ref o2])), (o7, .inr (7, [.ref a7_0, .ref a7_1, .int v7_2])), (o4, .inr (4, [.ref a4_0, .ref a4_1, .int v4_2, .ref a4_3, .ref a4_4, .ref a4_5, .ref a4_6, .ref a4_7, .int v4_8])), (a4_0, .inl (cyI, 100, .inl g4_0)), (a4_1, .inl (cyI, 100, .inl g4_1))]) [0, 1, 2, 3, 4] (by decide) rfl
        refine vx_throwS (cls := "java/lang/IllegalStateException") (names := ["java/lang/RuntimeException", "java/lang/Exception"]) hx hb hl9 hown (by decide +kernel) (by decide +kernel) k_5 k_6 hsa (x_at2 hG.2.2.2 hts_2) (by decide +kernel) (hG.1.narrow hAb) (hG.2.1.narrow hAb) hS (hl.1.trans hml.symm) dX8_field_44 dX8_field_47 dX8_field_48 dX8_field_50 dX8_field_53 (fun z hz => (hno z hz).elim) (Nat.le_of_ble_eq_true rfl) (Nat.le_of_ble_eq_true rfl) (Nat.le_of_ble_eq_true rfl) (Nat.le_of_ble_eq_true rfl) hlocks (fun t ha h1 h2 => ⟨(), trivial, ⟨x_thr2, x_kp hP9 (fun q h _ => h2 q h), va_K.moved ha hK, hD9⟩, x_mv hS h1 h2⟩) hS.2.2 (Nat.le_of_ble_eq_true rfl) (Nat.le_of_ble_eq_true rfl)
    · replace hf := x_ip c_4 hf
      obtain rfl := Option.some.inj hf
      obtain ⟨sa, hsa⟩ := hG.2.2.1 (86, "no CLASS or no TYPE") (by decide)
      have hP9 := hP.sub (ws' := [(o8, .inr (8, [.ref o7, .ref o4, .ref o0, .ref o1, .ref o3, .ref o2])), (o7, .inr (7, [.ref a7_0, .ref a7_1, .int v7_2])), (o4, .inr (4, [.ref a4_0, .ref a4_1, .int v4_2, .ref a4_3, .ref a4_4, .ref a4_5, .ref a4_6, .ref a4_7, .int v4_8])), (a4_0, .inl (cyI, 100, .inl g4_0)), (a4_1, .inl (cyI, 100, .inl g4_1))]) [0, 1, 2, 3, 4] rfl
      have hD9 := hD.sub (ws' := [(o8, .inr (8, [.ref o7, .ref o4, .ref o0, .ref o1, .ref o3, .ref o2])), (o7, .inr (7, [.ref a7_0, .ref a7_1, .int v7_2])), (o4, .inr (4, [.ref a4_0, .ref a4_1, .int v4_2, .ref a4_3, .ref a4_4, .ref a4_5, .ref a4_6, .ref a4_7, .int v4_8])), (a4_0, .inl (cyI, 100, .inl g4_0)), (a4_1, .inl (cyI, 100, .inl g4_1))]) [0, 1, 2, 3, 4] (by decide) rfl
      refine vx_throwS (cls := "java/lang/IllegalArgumentException") (names := ["java/lang/RuntimeException", "java/lang/Exception"]) hx hb hl9 hown (by decide +kernel) (by decide +kernel) k_2 k_3 hsa (x_at1 hG.2.2.2 hts_1) (by decide +kernel) (hG.1.narrow hAb) (hG.2.1.narrow hAb) hS (hl.1.trans hml.symm) dX8_field_22 dX8_field_25 dX8_field_26 dX8_field_28 dX8_field_31 (fun z hz => (hno z hz).elim) (Nat.le_of_ble_eq_true rfl) (Nat.le_of_ble_eq_true rfl) (Nat.le_of_ble_eq_true rfl) (Nat.le_of_ble_eq_true rfl) hlocks (fun t ha h1 h2 => ⟨(), trivial, ⟨x_thr1, x_kp hP9 (fun q h _ => h2 q h), va_K.moved ha hK, hD9⟩, x_mv hS h1 h2⟩) hS.2.2 (Nat.le_of_ble_eq_true rfl) (Nat.le_of_ble_eq_true rfl)

theorem i_X8_shape_X4 : ∀ w ∈ wsX40, w ∈ wsX8_shape := fun _ h => List.mem_cons_of_mem _ (List.mem_append_left _ (List.mem_append_left _ (List.mem_append_right _ h)))
theorem i_X8_shape_X7 : ∀ w ∈ wsX70, w ∈ wsX8_shape := fun _ h => List.mem_cons_of_mem _ (List.mem_append_left _ (List.mem_append_left _ (List.mem_append_left _ (List.mem_append_right _ h))))
theorem i_X8_shape_X8 : ∀ w ∈ wsX80, w ∈ wsX8_shape := fun _ h => List.mem_cons_of_mem _ (List.mem_append_left _ (List.mem_append_left _ (List.mem_append_left _ (List.mem_append_left _ (List.mem_append_right _ h)))))
theorem u_X8_shape_1 : ∀ w ∈ (vx_atS RX8 67 "java/lang/IllegalArgumentException" ["java/lang/RuntimeException", "java/lang/Exception"]).filter goodWord, w ∈ wsX8_shape := by decide +kernel
theorem u_X8_shape_2 : ∀ w ∈ (vx_atS RX8 78 "java/lang/IllegalStateException" ["java/lang/RuntimeException", "java/lang/Exception"]).filter goodWord, w ∈ wsX8_shape := by decide +kernel
set_option maxHeartbeats 4000000 in
set_option maxRecDepth 100000 in
theorem c_X8_shape (l : Launch) (hl9 : l.stackTraces = false) (dC : Nat → ClassId) (dI : Nat → Nat → Nat) (cyI cyZ cyJ : ClassId) (sz : Nat) (base : Nat) (o8 : Nat) (o7 : Nat) (o4 : Nat) (o0 : Nat) (o1 : Nat) (o3 : Nat) (o2 : Nat) (a7_0 : Nat) (a7_1 : Nat) (v7_2 : Int32) (g7_1 : Nat → Int32) (a4_0 : Nat) (a4_1 : Nat) (v4_2 : Int32) (a4_3 : Nat) (a4_4 : Nat) (a4_5 : Nat) (a4_6 : Nat) (a4_7 : Nat) (v4_8 : Int32) (g4_3 : Nat → Int32) (g4_4 : Nat → Int32) (g4_5 : Nat → Int32) (p1 : Int32) (p2 : Int32) (p3 : Int32) (R : Int32 × Int32 × Int32 × (Nat → Int32) × (Nat → Int32) × (Nat → Int32)) (hf : f_X8_shape v7_2 g7_1 v4_8 g4_3 g4_4 g4_5 p1 p2 p3 = some R) : vx_Met l yX8_shape wsX8_shape ({ frames := 6, cells := 1, slots := 6, locals := 90 }) (va_Pc [.ref o8, .int p1, .int p2, .int p3] (x_PreX (dC, dI) (x_T cyI cyZ cyJ) [(o8, .inr (8, [.ref o7, .ref o4, .ref o0, .ref o1, .ref o3, .ref o2])), (o7, .inr (7, [.ref a7_0, .ref a7_1, .int v7_2])), (a7_1, .inl (cyZ, 200, .inl g7_1)), (o4, .inr (4, [.ref a4_0, .ref a4_1, .int v4_2, .ref a4_3, .ref a4_4, .ref a4_5, .ref a4_6, .ref a4_7, .int v4_8])), (a4_3, .inl (cyI, 100, .inl g4_3)), (a4_4, .inl (cyI, 100, .inl g4_4)), (a4_5, .inl (cyZ, 100, .inl g4_5))] base sz)) (va_Qi (fun (r : Int32) (_ : Unit) => R.1 = 0 ∧ r = R.2.1) (fun (_ : Unit) (t : State) => va_P (dC, dI) vwCl [(o8, .inr (8, [.ref o7, .ref o4, .ref o0, .ref o1, .ref o3, .ref o2])), (o7, .inr (7, [.ref a7_0, .ref a7_1, .int v7_2])), (a7_1, .inl (cyZ, 200, .inl g7_1)), (o4, .inr (4, [.ref a4_0, .ref a4_1, .int v4_2, .ref a4_3, .ref a4_4, .ref a4_5, .ref a4_6, .ref a4_7, .int (R.2.2.1)])), (a4_3, .inl (cyI, 100, .inl R.2.2.2.1)), (a4_4, .inl (cyI, 100, .inl R.2.2.2.2.1)), (a4_5, .inl (cyZ, 100, .inl R.2.2.2.2.2))] t.heap ∧ va_K (dC, dI) vwCl (x_T cyI cyZ cyJ) t ∧ va_D (va_A [(o8, .inr (8, [.ref o7, .ref o4, .ref o0, .ref o1, .ref o3, .ref o2])), (o7, .inr (7, [.ref a7_0, .ref a7_1, .int v7_2])), (a7_1, .inl (cyZ, 200, .inl g7_1)), (o4, .inr (4, [.ref a4_0, .ref a4_1, .int v4_2, .ref a4_3, .ref a4_4, .ref a4_5, .ref a4_6, .ref a4_7, .int v4_8])), (a4_3, .inl (cyI, 100, .inl g4_3)), (a4_4, .inl (cyI, 100, .inl g4_4)), (a4_5, .inl (cyZ, 100, .inl g4_5))] sz) [(o8, .inr (8, [.ref o7, .ref o4, .ref o0, .ref o1, .ref o3, .ref o2])), (o7, .inr (7, [.ref a7_0, .ref a7_1, .int v7_2])), (a7_1, .inl (cyZ, 200, .inl g7_1)), (o4, .inr (4, [.ref a4_0, .ref a4_1, .int v4_2, .ref a4_3, .ref a4_4, .ref a4_5, .ref a4_6, .ref a4_7, .int (R.2.2.1)])), (a4_3, .inl (cyI, 100, .inl R.2.2.2.1)), (a4_4, .inl (cyI, 100, .inl R.2.2.2.2.1)), (a4_5, .inl (cyZ, 100, .inl R.2.2.2.2.2))]) (va_A [(o8, .inr (8, [.ref o7, .ref o4, .ref o0, .ref o1, .ref o3, .ref o2])), (o7, .inr (7, [.ref a7_0, .ref a7_1, .int v7_2])), (a7_1, .inl (cyZ, 200, .inl g7_1)), (o4, .inr (4, [.ref a4_0, .ref a4_1, .int v4_2, .ref a4_3, .ref a4_4, .ref a4_5, .ref a4_6, .ref a4_7, .int v4_8])), (a4_3, .inl (cyI, 100, .inl g4_3)), (a4_4, .inl (cyI, 100, .inl g4_4)), (a4_5, .inl (cyZ, 100, .inl g4_5))] sz)) (vx_X (fun _ : Unit => True) (fun (E : String) (_ : Unit) (t : State) => x_thr R.1 E ∧ (va_P (dC, dI) vwCl [(o8, .inr (8, [.ref o7, .ref o4, .ref o0, .ref o1, .ref o3, .ref o2])), (o7, .inr (7, [.ref a7_0, .ref a7_1, .int v7_2])), (a7_1, .inl (cyZ, 200, .inl g7_1)), (o4, .inr (4, [.ref a4_0, .ref a4_1, .int v4_2, .ref a4_3, .ref a4_4, .ref a4_5, .ref a4_6, .ref a4_7, .int (R.2.2.1)])), (a4_3, .inl (cyI, 100, .inl R.2.2.2.1)), (a4_4, .inl (cyI, 100, .inl R.2.2.2.2.1)), (a4_5, .inl (cyZ, 100, .inl R.2.2.2.2.2))] t.heap ∧ va_K (dC, dI) vwCl (x_T cyI cyZ cyJ) t ∧ va_D (va_A [(o8, .inr (8, [.ref o7, .ref o4, .ref o0, .ref o1, .ref o3, .ref o2])), (o7, .inr (7, [.ref a7_0, .ref a7_1, .int v7_2])), (a7_1, .inl (cyZ, 200, .inl g7_1)), (o4, .inr (4, [.ref a4_0, .ref a4_1, .int v4_2, .ref a4_3, .ref a4_4, .ref a4_5, .ref a4_6, .ref a4_7, .int v4_8])), (a4_3, .inl (cyI, 100, .inl g4_3)), (a4_4, .inl (cyI, 100, .inl g4_4)), (a4_5, .inl (cyZ, 100, .inl g4_5))] sz) [(o8, .inr (8, [.ref o7, .ref o4, .ref o0, .ref o1, .ref o3, .ref o2])), (o7, .inr (7, [.ref a7_0, .ref a7_1, .int v7_2])), (a7_1, .inl (cyZ, 200, .inl g7_1)), (o4, .inr (4, [.ref a4_0, .ref a4_1, .int v4_2, .ref a4_3, .ref a4_4, .ref a4_5, .ref a4_6, .ref a4_7, .int (R.2.2.1)])), (a4_3, .inl (cyI, 100, .inl R.2.2.2.1)), (a4_4, .inl (cyI, 100, .inl R.2.2.2.2.1)), (a4_5, .inl (cyZ, 100, .inl R.2.2.2.2.2))])) (va_A [(o8, .inr (8, [.ref o7, .ref o4, .ref o0, .ref o1, .ref o3, .ref o2])), (o7, .inr (7, [.ref a7_0, .ref a7_1, .int v7_2])), (a7_1, .inl (cyZ, 200, .inl g7_1)), (o4, .inr (4, [.ref a4_0, .ref a4_1, .int v4_2, .ref a4_3, .ref a4_4, .ref a4_5, .ref a4_6, .ref a4_7, .int v4_8])), (a4_3, .inl (cyI, 100, .inl g4_3)), (a4_4, .inl (cyI, 100, .inl g4_4)), (a4_5, .inl (cyZ, 100, .inl g4_5))] sz)) 1 6 (va_A [(o8, .inr (8, [.ref o7, .ref o4, .ref o0, .ref o1, .ref o3, .ref o2])), (o7, .inr (7, [.ref a7_0, .ref a7_1, .int v7_2])), (a7_1, .inl (cyZ, 200, .inl g7_1)), (o4, .inr (4, [.ref a4_0, .ref a4_1, .int v4_2, .ref a4_3, .ref a4_4, .ref a4_5, .ref a4_6, .ref a4_7, .int v4_8])), (a4_3, .inl (cyI, 100, .inl g4_3)), (a4_4, .inl (cyI, 100, .inl g4_4)), (a4_5, .inl (cyZ, 100, .inl g4_5))] sz) := by
  refine vx_ofW (cc := cX8_shape) (maxL := 4) (ret := (some .int)) (by decide) rfl ?_
  intro p e s m args below meth c s₁ B hml hno hv
  obtain ⟨rfl, ⟨⟨hsz, hP, hK, hN⟩, hD0⟩, hDb, hbz, hG⟩ := hv
  have hx := B.exec
  have hb := B.bytes
  have hr := B.returns
  have hts := atoms_spec (ws := wsX8_shape) B.pre
  have hown : s.vm.findClass RX8 = some m.cls := findClass_of_methodNamed B.named
  have hlocks := B.notSynchronized
  have hts_1 := fun w (h : w ∈ (vx_atS RX8 67 "java/lang/IllegalArgumentException" ["java/lang/RuntimeException", "java/lang/Exception"]).filter goodWord) => hts w (u_X8_shape_1 w h)
  have hts_2 := fun w (h : w ∈ (vx_atS RX8 78 "java/lang/IllegalStateException" ["java/lang/RuntimeException", "java/lang/Exception"]).filter goodWord) => hts w (u_X8_shape_2 w h)
  have k_1 := hts (.fieldLink RX8 10 "FlowJudge" "types" "LFlowJudge$Types;") (by decide +kernel)
  have k_2 := hts (.classLink RX8 63 "java/lang/IllegalArgumentException") (by decide +kernel)
  have k_3 := hts (.initialized "java/lang/IllegalArgumentException") (by decide +kernel)
  have k_4 := hts (.fieldLink RX8 19 "FlowJudge" "members" "LFlowJudge$Members;") (by decide +kernel)
  have k_5 := hts (.classLink RX8 74 "java/lang/IllegalStateException") (by decide +kernel)
  have k_6 := hts (.initialized "java/lang/IllegalStateException") (by decide +kernel)
  subst hsz
  have hAb : ∀ q, va_A [(o8, .inr (8, [.ref o7, .ref o4, .ref o0, .ref o1, .ref o3, .ref o2])), (o7, .inr (7, [.ref a7_0, .ref a7_1, .int v7_2])), (a7_1, .inl (cyZ, 200, .inl g7_1)), (o4, .inr (4, [.ref a4_0, .ref a4_1, .int v4_2, .ref a4_3, .ref a4_4, .ref a4_5, .ref a4_6, .ref a4_7, .int v4_8])), (a4_3, .inl (cyI, 100, .inl g4_3)), (a4_4, .inl (cyI, 100, .inl g4_4)), (a4_5, .inl (cyZ, 100, .inl g4_5))] s.heap.size q → x_new base q := x_Ab hDb hbz
  have hD := hD0.self (sz := s.heap.size)
  generalize hAe : va_A [(o8, .inr (8, [.ref o7, .ref o4, .ref o0, .ref o1, .ref o3, .ref o2])), (o7, .inr (7, [.ref a7_0, .ref a7_1, .int v7_2])), (a7_1, .inl (cyZ, 200, .inl g7_1)), (o4, .inr (4, [.ref a4_0, .ref a4_1, .int v4_2, .ref a4_3, .ref a4_4, .ref a4_5, .ref a4_6, .ref a4_7, .int v4_8])), (a4_3, .inl (cyI, 100, .inl g4_3)), (a4_4, .inl (cyI, 100, .inl g4_4)), (a4_5, .inl (cyZ, 100, .inl g4_5))] s.heap.size = A at hD hAb ⊢
  have hA : ∀ q : Nat, s.heap.size ≤ q → A q := fun q h => by rw [← hAe]; exact Or.inr h
  have hP : va_P (dC, dI) vwCl [(o8, .inr (8, [.ref o7, .ref o4, .ref o0, .ref o1, .ref o3, .ref o2])), (o7, .inr (7, [.ref a7_0, .ref a7_1, .int v7_2])), (a7_1, .inl (cyZ, 200, .inl g7_1)), (o4, .inr (4, [.ref a4_0, .ref a4_1, .int v4_2, .ref a4_3, .ref a4_4, .ref a4_5, .ref a4_6, .ref a4_7, .int v4_8])), (a4_3, .inl (cyI, 100, .inl g4_3)), (a4_4, .inl (cyI, 100, .inl g4_4)), (a4_5, .inl (cyZ, 100, .inl g4_5))] s.heap := hP
  have hl := lv_entry ([.ref o8, .int p1, .int p2, .int p3]) (n := 4) (Nat.le_of_ble_eq_true rfl)
  rw [lg_entry_eq]
  generalize (lg_sl ([.ref o8, .int p1, .int p2, .int p3]) ++ List.replicate (4 - (lg_sl ([.ref o8, .int p1, .int p2, .int p3])).length) Slot.unset).toArray = ls at hl ⊢
  have hl : lv_has ls 4 [(0, .ref o8), (1, .int p1), (2, .int p2), (3, .int p3)] := hl
  obtain ⟨H, hH⟩ : ∃ z, z = s.heap := ⟨_, rfl⟩
  refine x_here hH ?_
  have hP : va_P (dC, dI) vwCl [(o8, .inr (8, [.ref o7, .ref o4, .ref o0, .ref o1, .ref o3, .ref o2])), (o7, .inr (7, [.ref a7_0, .ref a7_1, .int v7_2])), (a7_1, .inl (cyZ, 200, .inl g7_1)), (o4, .inr (4, [.ref a4_0, .ref a4_1, .int v4_2, .ref a4_3, .ref a4_4, .ref a4_5, .ref a4_6, .ref a4_7, .int v4_8])), (a4_3, .inl (cyI, 100, .inl g4_3)), (a4_4, .inl (cyI, 100, .inl g4_4)), (a4_5, .inl (cyZ, 100, .inl g4_5))] H := by rw [hH]; exact hP
  have hS : va_S A s.heap H [] := by rw [hH]; exact va_S.rf
  clear hH
  obtain ⟨locs, hlo⟩ : ∃ z : List Loc, z = [] := ⟨_, rfl⟩
  refine x_herl hlo ?_
  have hS : va_S A s.heap H locs := by rw [hlo]; exact hS
  clear hlo
  unfold f_X8_shape at hf
  refine lv_aload_n hx hb dX8_shape_0 rfl (lv_at hl 0 rfl) ?_
  refine va_get (D := (dC, dI)) (ci := 8) (v := .ref o7) (C := RX8) (T := TX8) (N := 6) hx hb hts i_X8_shape_X8 hown hK hP 0 rfl rfl 0 (by decide) k_1 (fun _ h9 => h9) rfl dX8_shape_1 ?_
  refine lv_iload_n hx hb dX8_shape_4 rfl (lv_at hl 1 rfl) ?_
  obtain ⟨r_1, h_1, hf⟩ := x_bi hf
  have hPc := hP.sub (ws' := [(o7, .inr (7, [.ref a7_0, .ref a7_1, .int v7_2]))]) [1] rfl
  refine va_calli (va_runV (As := [.int p1]) (rest := []) ⟨hx, hb, hml, hown, hts⟩ (c_X7_isClass l dC dI cyI cyZ cyJ H.size o7 a7_0 a7_1 v7_2 p1 r_1 h_1) (cwV 1 hts gX8_shape_X7_isClass rfl rfl rfl (by decide +kernel) ⟨Nat.le_of_ble_eq_true rfl, Nat.le_of_ble_eq_true rfl⟩) (x_pV hN hK hPc (ci := 7) (q0 := 0) rfl rfl) rfl rfl hl.1 rfl (lv_room (Nat.le_of_ble_eq_true rfl)) dX8_shape_5 ⟨Nat.le_of_ble_eq_true rfl, Nat.le_of_ble_eq_true rfl⟩) hS x_nA (x_nf hA hS) (fun q_1 u t H1 locs ht hvm hw hB hz1 hk1 hS => ?_)
  have hP := x_kp hP hk1
  clear ht hvm hB hz1 hk1 t u hPc
  generalize H1 = H at hP hS ⊢
  obtain ⟨hw, b_1⟩ := hw
  obtain rfl := hw.symm
  refine lv_if_eq (tgt := 22) hx hb dX8_shape_8 (by decide) (fun c_2 => ?_) (fun c_2 => ?_)
  · replace hf := x_ip c_2 hf
    obtain rfl := Option.some.inj hf
    obtain ⟨sa, hsa⟩ := hG.2.2.1 (100, "no CLASS or no result") (by decide)
    have hP9 := hP.sub (ws' := [(o8, .inr (8, [.ref o7, .ref o4, .ref o0, .ref o1, .ref o3, .ref o2])), (o7, .inr (7, [.ref a7_0, .ref a7_1, .int v7_2])), (a7_1, .inl (cyZ, 200, .inl g7_1)), (o4, .inr (4, [.ref a4_0, .ref a4_1, .int v4_2, .ref a4_3, .ref a4_4, .ref a4_5, .ref a4_6, .ref a4_7, .int v4_8])), (a4_3, .inl (cyI, 100, .inl g4_3)), (a4_4, .inl (cyI, 100, .inl g4_4)), (a4_5, .inl (cyZ, 100, .inl g4_5))]) [0, 1, 2, 3, 4, 5, 6] rfl
    have hD9 := hD.sub (ws' := [(o8, .inr (8, [.ref o7, .ref o4, .ref o0, .ref o1, .ref o3, .ref o2])), (o7, .inr (7, [.ref a7_0, .ref a7_1, .int v7_2])), (a7_1, .inl (cyZ, 200, .inl g7_1)), (o4, .inr (4, [.ref a4_0, .ref a4_1, .int v4_2, .ref a4_3, .ref a4_4, .ref a4_5, .ref a4_6, .ref a4_7, .int v4_8])), (a4_3, .inl (cyI, 100, .inl g4_3)), (a4_4, .inl (cyI, 100, .inl g4_4)), (a4_5, .inl (cyZ, 100, .inl g4_5))]) [0, 1, 2, 3, 4, 5, 6] (by decide) rfl
    refine vx_throwS (cls := "java/lang/IllegalArgumentException") (names := ["java/lang/RuntimeException", "java/lang/Exception"]) hx hb hl9 hown (by decide +kernel) (by decide +kernel) k_2 k_3 hsa (x_at1 hG.2.2.2 hts_1) (by decide +kernel) (hG.1.narrow hAb) (hG.2.1.narrow hAb) hS (hl.1.trans hml.symm) dX8_shape_22 dX8_shape_25 dX8_shape_26 dX8_shape_28 dX8_shape_31 (fun z hz => (hno z hz).elim) (Nat.le_of_ble_eq_true rfl) (Nat.le_of_ble_eq_true rfl) (Nat.le_of_ble_eq_true rfl) (Nat.le_of_ble_eq_true rfl) hlocks (fun t ha h1 h2 => ⟨(), trivial, ⟨x_thr1, x_kp hP9 (fun q h _ => h2 q h), va_K.moved ha hK, hD9⟩, x_mv hS h1 h2⟩) hS.2.2 (Nat.le_of_ble_eq_true rfl) (Nat.le_of_ble_eq_true rfl)
  · replace hf := x_in c_2 hf
    refine lv_aload_n hx hb dX8_shape_11 rfl (lv_at hl 0 rfl) ?_
    refine va_get (D := (dC, dI)) (ci := 8) (v := .ref o7) (C := RX8) (T := TX8) (N := 6) hx hb hts i_X8_shape_X8 hown hK hP 0 rfl rfl 0 (by decide) k_1 (fun _ h9 => h9) rfl dX8_shape_12 ?_
    refine lv_iload_n hx hb dX8_shape_15 rfl (lv_at hl 2 rfl) ?_
    obtain ⟨r_3, h_3, hf⟩ := x_bi hf
    have hPc := hP.sub (ws' := [(o7, .inr (7, [.ref a7_0, .ref a7_1, .int v7_2]))]) [1] rfl
    refine va_calli (va_runV (As := [.int p2]) (rest := []) ⟨hx, hb, hml, hown, hts⟩ (c_X7_isResult l dC dI cyI cyZ cyJ H.size o7 a7_0 a7_1 v7_2 p2 r_3 h_3) (cwV 1 hts gX8_shape_X7_isResult rfl rfl rfl (by decide +kernel) ⟨Nat.le_of_ble_eq_true rfl, Nat.le_of_ble_eq_true rfl⟩) (x_pV hN hK hPc (ci := 7) (q0 := 0) rfl rfl) rfl rfl hl.1 rfl (lv_room (Nat.le_of_ble_eq_true rfl)) dX8_shape_16 ⟨Nat.le_of_ble_eq_true rfl, Nat.le_of_ble_eq_true rfl⟩) hS x_nA (x_nf hA hS) (fun q_3 u t H1 locs ht hvm hw hB hz1 hk1 hS => ?_)
    have hP := x_kp hP hk1
    clear ht hvm hB hz1 hk1 t u hPc
    generalize H1 = H at hP hS ⊢
    obtain ⟨hw, b_3⟩ := hw
    obtain rfl := hw.symm
    refine lv_if_ne (tgt := 32) hx hb dX8_shape_19 (by decide) (fun c_4 => ?_) (fun c_4 => ?_)
    · replace hf := x_in c_4 hf
      refine lv_iload_n hx hb dX8_shape_32 rfl (lv_at hl 3 rfl) ?_
      refine lv_if_eq (tgt := 63) hx hb dX8_shape_33 (by decide) (fun c_5 => ?_) (fun c_5 => ?_)
      · replace hf := x_ip c_5 hf
        refine lv_aload_n hx hb dX8_shape_63 rfl (lv_at hl 0 rfl) ?_
        refine va_get (D := (dC, dI)) (ci := 8) (v := .ref o4) (C := RX8) (T := TX8) (N := 6) hx hb hts i_X8_shape_X8 hown hK hP 0 rfl rfl 1 (by decide) k_4 (fun _ h9 => h9) rfl dX8_shape_64 ?_
        refine va_getN (D := (dC, dI)) (ci := 4) (v := .int v4_8) (C := RX4) (T := TX4) (N := 9) hx hb hts i_X8_shape_X4 hown hK hP 3 rfl rfl 8 (by decide) ((hN.1 ("FlowJudge", 104, "FlowJudge$Members", "shapeCount", "I") (List.mem_of_getElem? (i := 3) rfl)).use rfl) (fun _ h9 => h9) rfl dX8_shape_67 ?_
        refine lv_bipush (v := 100) hx hb dX8_shape_70 (by decide) ?_
        refine lv_icmp_lt (tgt := 85) hx hb dX8_shape_72 (by decide) (fun c_6 => ?_) (fun c_6 => ?_)
        · replace hf := x_ip c_6 hf
          refine lv_aload_n hx hb dX8_shape_85 rfl (lv_at hl 0 rfl) ?_
          refine va_get (D := (dC, dI)) (ci := 8) (v := .ref o4) (C := RX8) (T := TX8) (N := 6) hx hb hts i_X8_shape_X8 hown hK hP 0 rfl rfl 1 (by decide) k_4 (fun _ h9 => h9) rfl dX8_shape_86 ?_
          refine lv_iload_n hx hb dX8_shape_89 rfl (lv_at hl 1 rfl) ?_
          refine lv_iload_n hx hb dX8_shape_90 rfl (lv_at hl 2 rfl) ?_
          refine lv_iload_n hx hb dX8_shape_91 rfl (lv_at hl 3 rfl) ?_
          obtain ⟨r_7, h_7, hf⟩ := x_bi hf
          have hPc := hP.sub (ws' := [(o4, .inr (4, [.ref a4_0, .ref a4_1, .int v4_2, .ref a4_3, .ref a4_4, .ref a4_5, .ref a4_6, .ref a4_7, .int v4_8])), (a4_3, .inl (cyI, 100, .inl g4_3)), (a4_4, .inl (cyI, 100, .inl g4_4)), (a4_5, .inl (cyZ, 100, .inl g4_5))]) [3, 4, 5, 6] rfl
          have hDc := hD.sub (ws' := [(o4, .inr (4, [.ref a4_0, .ref a4_1, .int v4_2, .ref a4_3, .ref a4_4, .ref a4_5, .ref a4_6, .ref a4_7, .int v4_8])), (a4_3, .inl (cyI, 100, .inl g4_3)), (a4_4, .inl (cyI, 100, .inl g4_4)), (a4_5, .inl (cyZ, 100, .inl g4_5))]) [3, 4, 5, 6] (by decide) rfl
          have hFc := va_free (wc := [(o4, .inr (4, [.ref a4_0, .ref a4_1, .int v4_2, .ref a4_3, .ref a4_4, .ref a4_5, .ref a4_6, .ref a4_7, .int v4_8])), (a4_3, .inl (cyI, 100, .inl g4_3)), (a4_4, .inl (cyI, 100, .inl g4_4)), (a4_5, .inl (cyZ, 100, .inl g4_5))]) hD hS hA [3, 4, 5, 6] rfl
          refine va_calli (va_runV (As := [.int p1, .int p2, .int p3]) (rest := []) ⟨hx, hb, hml, hown, hts⟩ (c_X4_enterShape l dC dI cyI cyZ cyJ H.size o4 a4_0 a4_1 v4_2 a4_3 a4_4 a4_5 a4_6 a4_7 v4_8 g4_3 g4_4 g4_5 p1 p2 p3 r_7 h_7) (cwV 3 hts gX8_shape_X4_enterShape rfl rfl rfl (by decide +kernel) ⟨Nat.le_of_ble_eq_true rfl, Nat.le_of_ble_eq_true rfl⟩) (x_pVD hN hK hPc hDc (ci := 4) (q0 := 0) rfl rfl) rfl rfl hl.1 rfl (lv_room (Nat.le_of_ble_eq_true rfl)) dX8_shape_92 ⟨Nat.le_of_ble_eq_true rfl, Nat.le_of_ble_eq_true rfl⟩) hS (fun q _ h => hFc q h) hFc (fun q_7 u t H1 locs ht hvm hw hB hz1 hk1 hS => ?_)
          obtain ⟨hP1, hK1, hD1⟩ := hB
          rw [ht] at hP1
          obtain ⟨hP, hD⟩ := va_join (wr := [(o8, .inr (8, [.ref o7, .ref o4, .ref o0, .ref o1, .ref o3, .ref o2])), (o7, .inr (7, [.ref a7_0, .ref a7_1, .int v7_2])), (a7_1, .inl (cyZ, 200, .inl g7_1))]) (w1 := [(o4, .inr (4, [.ref a4_0, .ref a4_1, .int v4_2, .ref a4_3, .ref a4_4, .ref a4_5, .ref a4_6, .ref a4_7, .int (r_7.2.1)])), (a4_3, .inl (cyI, 100, .inl r_7.2.2.1)), (a4_4, .inl (cyI, 100, .inl r_7.2.2.2.1)), (a4_5, .inl (cyZ, 100, .inl r_7.2.2.2.2))]) hP hD [3, 4, 5, 6] [0, 1, 2] rfl rfl (by decide) (by decide) hk1 hFc hP1 hD1
          clear hz1 hk1 hPc hDc hFc hP1 hK1 hD1 ht hvm t u
          generalize H1 = H at hP hS ⊢
          have hP : va_P (dC, dI) vwCl [(o8, .inr (8, [.ref o7, .ref o4, .ref o0, .ref o1, .ref o3, .ref o2])), (o7, .inr (7, [.ref a7_0, .ref a7_1, .int v7_2])), (a7_1, .inl (cyZ, 200, .inl g7_1)), (o4, .inr (4, [.ref a4_0, .ref a4_1, .int v4_2, .ref a4_3, .ref a4_4, .ref a4_5, .ref a4_6, .ref a4_7, .int (r_7.2.1)])), (a4_3, .inl (cyI, 100, .inl r_7.2.2.1)), (a4_4, .inl (cyI, 100, .inl r_7.2.2.2.1)), (a4_5, .inl (cyZ, 100, .inl r_7.2.2.2.2))] H := hP
          have hD : va_D A [(o8, .inr (8, [.ref o7, .ref o4, .ref o0, .ref o1, .ref o3, .ref o2])), (o7, .inr (7, [.ref a7_0, .ref a7_1, .int v7_2])), (a7_1, .inl (cyZ, 200, .inl g7_1)), (o4, .inr (4, [.ref a4_0, .ref a4_1, .int v4_2, .ref a4_3, .ref a4_4, .ref a4_5, .ref a4_6, .ref a4_7, .int (r_7.2.1)])), (a4_3, .inl (cyI, 100, .inl r_7.2.2.1)), (a4_4, .inl (cyI, 100, .inl r_7.2.2.2.1)), (a4_5, .inl (cyZ, 100, .inl r_7.2.2.2.2))] := hD
          obtain rfl := hw.symm
          obtain rfl := Option.some.inj hf
          have hP9 := hP.sub (ws' := [(o8, .inr (8, [.ref o7, .ref o4, .ref o0, .ref o1, .ref o3, .ref o2])), (o7, .inr (7, [.ref a7_0, .ref a7_1, .int v7_2])), (a7_1, .inl (cyZ, 200, .inl g7_1)), (o4, .inr (4, [.ref a4_0, .ref a4_1, .int v4_2, .ref a4_3, .ref a4_4, .ref a4_5, .ref a4_6, .ref a4_7, .int (r_7.2.1)])), (a4_3, .inl (cyI, 100, .inl r_7.2.2.1)), (a4_4, .inl (cyI, 100, .inl r_7.2.2.2.1)), (a4_5, .inl (cyZ, 100, .inl r_7.2.2.2.2))]) [0, 1, 2, 3, 4, 5, 6] rfl
          have hD9 := hD.sub (ws' := [(o8, .inr (8, [.ref o7, .ref o4, .ref o0, .ref o1, .ref o3, .ref o2])), (o7, .inr (7, [.ref a7_0, .ref a7_1, .int v7_2])), (a7_1, .inl (cyZ, 200, .inl g7_1)), (o4, .inr (4, [.ref a4_0, .ref a4_1, .int v4_2, .ref a4_3, .ref a4_4, .ref a4_5, .ref a4_6, .ref a4_7, .int (r_7.2.1)])), (a4_3, .inl (cyI, 100, .inl r_7.2.2.1)), (a4_4, .inl (cyI, 100, .inl r_7.2.2.2.1)), (a4_5, .inl (cyZ, 100, .inl r_7.2.2.2.2))]) [0, 1, 2, 3, 4, 5, 6] (by decide) rfl
          refine vx_ret ?_
          refine W.widen (k := 1) (n := 6) (Nat.le_of_ble_eq_true rfl) (Nat.le_of_ble_eq_true rfl) ?_
          exact W.iret hx hb hr (fun t ht hW => ⟨⟨_, (), rfl, ⟨rfl, rfl⟩, by rw [ht]; exact hP9, va_K.moved hW.alike hK, hD9⟩, hS.F ht⟩) hS.2.2 dX8_shape_95
        · replace hf := x_in c_6 hf
          obtain rfl := Option.some.inj hf
          obtain ⟨sa, hsa⟩ := hG.2.2.1 (107, "no more SHAPES") (by decide)
          have hP9 := hP.sub (ws' := [(o8, .inr (8, [.ref o7, .ref o4, .ref o0, .ref o1, .ref o3, .ref o2])), (o7, .inr (7, [.ref a7_0, .ref a7_1, .int v7_2])), (a7_1, .inl (cyZ, 200, .inl g7_1)), (o4, .inr (4, [.ref a4_0, .ref a4_1, .int v4_2, .ref a4_3, .ref a4_4, .ref a4_5, .ref a4_6, .ref a4_7, .int v4_8])), (a4_3, .inl (cyI, 100, .inl g4_3)), (a4_4, .inl (cyI, 100, .inl g4_4)), (a4_5, .inl (cyZ, 100, .inl g4_5))]) [0, 1, 2, 3, 4, 5, 6] rfl
          have hD9 := hD.sub (ws' := [(o8, .inr (8, [.ref o7, .ref o4, .ref o0, .ref o1, .ref o3, .ref o2])), (o7, .inr (7, [.ref a7_0, .ref a7_1, .int v7_2])), (a7_1, .inl (cyZ, 200, .inl g7_1)), (o4, .inr (4, [.ref a4_0, .ref a4_1, .int v4_2, .ref a4_3, .ref a4_4, .ref a4_5, .ref a4_6, .ref a4_7, .int v4_8])), (a4_3, .inl (cyI, 100, .inl g4_3)), (a4_4, .inl (cyI, 100, .inl g4_4)), (a4_5, .inl (cyZ, 100, .inl g4_5))]) [0, 1, 2, 3, 4, 5, 6] (by decide) rfl
          refine vx_throwS (cls := "java/lang/IllegalStateException") (names := ["java/lang/RuntimeException", "java/lang/Exception"]) hx hb hl9 hown (by decide +kernel) (by decide +kernel) k_5 k_6 hsa (x_at2 hG.2.2.2 hts_2) (by decide +kernel) (hG.1.narrow hAb) (hG.2.1.narrow hAb) hS (hl.1.trans hml.symm) dX8_shape_75 dX8_shape_78 dX8_shape_79 dX8_shape_81 dX8_shape_84 (fun z hz => (hno z hz).elim) (Nat.le_of_ble_eq_true rfl) (Nat.le_of_ble_eq_true rfl) (Nat.le_of_ble_eq_true rfl) (Nat.le_of_ble_eq_true rfl) hlocks (fun t ha h1 h2 => ⟨(), trivial, ⟨x_thr2, x_kp hP9 (fun q h _ => h2 q h), va_K.moved ha hK, hD9⟩, x_mv hS h1 h2⟩) hS.2.2 (Nat.le_of_ble_eq_true rfl) (Nat.le_of_ble_eq_true rfl)
      · replace hf := x_in c_5 hf
        refine lv_iload_n hx hb dX8_shape_36 rfl (lv_at hl 2 rfl) ?_
        refine lv_iconst (v := (-1)) hx hb dX8_shape_37 (by decide) ?_
        refine lv_icmp_ne (tgt := 53) hx hb dX8_shape_38 (by decide) (fun c_8 => ?_) (fun c_8 => ?_)
        · replace hf := x_in c_8 hf
          obtain rfl := Option.some.inj hf
          obtain ⟨sa, hsa⟩ := hG.2.2.1 (102, "no constructor is like this") (by decide)
          have hP9 := hP.sub (ws' := [(o8, .inr (8, [.ref o7, .ref o4, .ref o0, .ref o1, .ref o3, .ref o2])), (o7, .inr (7, [.ref a7_0, .ref a7_1, .int v7_2])), (a7_1, .inl (cyZ, 200, .inl g7_1)), (o4, .inr (4, [.ref a4_0, .ref a4_1, .int v4_2, .ref a4_3, .ref a4_4, .ref a4_5, .ref a4_6, .ref a4_7, .int v4_8])), (a4_3, .inl (cyI, 100, .inl g4_3)), (a4_4, .inl (cyI, 100, .inl g4_4)), (a4_5, .inl (cyZ, 100, .inl g4_5))]) [0, 1, 2, 3, 4, 5, 6] rfl
          have hD9 := hD.sub (ws' := [(o8, .inr (8, [.ref o7, .ref o4, .ref o0, .ref o1, .ref o3, .ref o2])), (o7, .inr (7, [.ref a7_0, .ref a7_1, .int v7_2])), (a7_1, .inl (cyZ, 200, .inl g7_1)), (o4, .inr (4, [.ref a4_0, .ref a4_1, .int v4_2, .ref a4_3, .ref a4_4, .ref a4_5, .ref a4_6, .ref a4_7, .int v4_8])), (a4_3, .inl (cyI, 100, .inl g4_3)), (a4_4, .inl (cyI, 100, .inl g4_4)), (a4_5, .inl (cyZ, 100, .inl g4_5))]) [0, 1, 2, 3, 4, 5, 6] (by decide) rfl
          refine vx_throwS (cls := "java/lang/IllegalArgumentException") (names := ["java/lang/RuntimeException", "java/lang/Exception"]) hx hb hl9 hown (by decide +kernel) (by decide +kernel) k_2 k_3 hsa (x_at1 hG.2.2.2 hts_1) (by decide +kernel) (hG.1.narrow hAb) (hG.2.1.narrow hAb) hS (hl.1.trans hml.symm) dX8_shape_53 dX8_shape_56 dX8_shape_57 dX8_shape_59 dX8_shape_62 (fun z hz => (hno z hz).elim) (Nat.le_of_ble_eq_true rfl) (Nat.le_of_ble_eq_true rfl) (Nat.le_of_ble_eq_true rfl) (Nat.le_of_ble_eq_true rfl) hlocks (fun t ha h1 h2 => ⟨(), trivial, ⟨x_thr1, x_kp hP9 (fun q h _ => h2 q h), va_K.moved ha hK, hD9⟩, x_mv hS h1 h2⟩) hS.2.2 (Nat.le_of_ble_eq_true rfl) (Nat.le_of_ble_eq_true rfl)
        · replace hf := x_ip c_8 hf
          refine lv_aload_n hx hb dX8_shape_41 rfl (lv_at hl 0 rfl) ?_
          refine va_get (D := (dC, dI)) (ci := 8) (v := .ref o7) (C := RX8) (T := TX8) (N := 6) hx hb hts i_X8_shape_X8 hown hK hP 0 rfl rfl 0 (by decide) k_1 (fun _ h9 => h9) rfl dX8_shape_42 ?_
          refine va_getN (D := (dC, dI)) (ci := 7) (v := .ref a7_1) (C := RX7) (T := TX7) (N := 3) hx hb hts i_X8_shape_X7 hown hK hP 1 rfl rfl 1 (by decide) ((hN.1 ("FlowJudge", 59, "FlowJudge$Types", "isInterface", "[Z") (List.mem_of_getElem? (i := 0) rfl)).use rfl) (fun _ h9 => h9) rfl dX8_shape_45 ?_
          refine lv_iload_n hx hb dX8_shape_48 rfl (lv_at hl 1 rfl) ?_
          obtain ⟨g_9, hf⟩ := x_gu hf
          refine va_zald hx hb hK hP 2 1 rfl rfl (x_gdin g_9) dX8_shape_49 ?_
          refine lv_if_eq (tgt := 63) hx hb dX8_shape_50 (by decide) (fun c_10 => ?_) (fun c_10 => ?_)
          · replace hf := x_ip c_10 hf
            refine lv_aload_n hx hb dX8_shape_63 rfl (lv_at hl 0 rfl) ?_
            refine va_get (D := (dC, dI)) (ci := 8) (v := .ref o4) (C := RX8) (T := TX8) (N := 6) hx hb hts i_X8_shape_X8 hown hK hP 0 rfl rfl 1 (by decide) k_4 (fun _ h9 => h9) rfl dX8_shape_64 ?_
            refine va_getN (D := (dC, dI)) (ci := 4) (v := .int v4_8) (C := RX4) (T := TX4) (N := 9) hx hb hts i_X8_shape_X4 hown hK hP 3 rfl rfl 8 (by decide) ((hN.1 ("FlowJudge", 104, "FlowJudge$Members", "shapeCount", "I") (List.mem_of_getElem? (i := 3) rfl)).use rfl) (fun _ h9 => h9) rfl dX8_shape_67 ?_
            refine lv_bipush (v := 100) hx hb dX8_shape_70 (by decide) ?_
            refine lv_icmp_lt (tgt := 85) hx hb dX8_shape_72 (by decide) (fun c_11 => ?_) (fun c_11 => ?_)
            · replace hf := x_ip c_11 hf
              refine lv_aload_n hx hb dX8_shape_85 rfl (lv_at hl 0 rfl) ?_
              refine va_get (D := (dC, dI)) (ci := 8) (v := .ref o4) (C := RX8) (T := TX8) (N := 6) hx hb hts i_X8_shape_X8 hown hK hP 0 rfl rfl 1 (by decide) k_4 (fun _ h9 => h9) rfl dX8_shape_86 ?_
              refine lv_iload_n hx hb dX8_shape_89 rfl (lv_at hl 1 rfl) ?_
              refine lv_iload_n hx hb dX8_shape_90 rfl (lv_at hl 2 rfl) ?_
              refine lv_iload_n hx hb dX8_shape_91 rfl (lv_at hl 3 rfl) ?_
              obtain ⟨r_12, h_12, hf⟩ := x_bi hf
              have hPc := hP.sub (ws' := [(o4, .inr (4, [.ref a4_0, .ref a4_1, .int v4_2, .ref a4_3, .ref a4_4, .ref a4_5, .ref a4_6, .ref a4_7, .int v4_8])), (a4_3, .inl (cyI, 100, .inl g4_3)), (a4_4, .inl (cyI, 100, .inl g4_4)), (a4_5, .inl (cyZ, 100, .inl g4_5))]) [3, 4, 5, 6] rfl
              have hDc := hD.sub (ws' := [(o4, .inr (4, [.ref a4_0, .ref a4_1, .int v4_2, .ref a4_3, .ref a4_4, .ref a4_5, .ref a4_6, .ref a4_7, .int v4_8])), (a4_3, .inl (cyI, 100, .inl g4_3)), (a4_4, .inl (cyI, 100, .inl g4_4)), (a4_5, .inl (cyZ, 100, .inl g4_5))]) [3, 4, 5, 6] (by decide) rfl
              have hFc := va_free (wc := [(o4, .inr (4, [.ref a4_0, .ref a4_1, .int v4_2, .ref a4_3, .ref a4_4, .ref a4_5, .ref a4_6, .ref a4_7, .int v4_8])), (a4_3, .inl (cyI, 100, .inl g4_3)), (a4_4, .inl (cyI, 100, .inl g4_4)), (a4_5, .inl (cyZ, 100, .inl g4_5))]) hD hS hA [3, 4, 5, 6] rfl
              refine va_calli (va_runV (As := [.int p1, .int p2, .int p3]) (rest := []) ⟨hx, hb, hml, hown, hts⟩ (c_X4_enterShape l dC dI cyI cyZ cyJ H.size o4 a4_0 a4_1 v4_2 a4_3 a4_4 a4_5 a4_6 a4_7 v4_8 g4_3 g4_4 g4_5 p1 p2 p3 r_12 h_12) (cwV 3 hts gX8_shape_X4_enterShape rfl rfl rfl (by decide +kernel) ⟨Nat.le_of_ble_eq_true rfl, Nat.le_of_ble_eq_true rfl⟩) (x_pVD hN hK hPc hDc (ci := 4) (q0 := 0) rfl rfl) rfl rfl hl.1 rfl (lv_room (Nat.le_of_ble_eq_true rfl)) dX8_shape_92 ⟨Nat.le_of_ble_eq_true rfl, Nat.le_of_ble_eq_true rfl⟩) hS (fun q _ h => hFc q h) hFc (fun q_12 u t H1 locs ht hvm hw hB hz1 hk1 hS => ?_)
              obtain ⟨hP1, hK1, hD1⟩ := hB
              rw [ht] at hP1
              obtain ⟨hP, hD⟩ := va_join (wr := [(o8, .inr (8, [.ref o7, .ref o4, .ref o0, .ref o1, .ref o3, .ref o2])), (o7, .inr (7, [.ref a7_0, .ref a7_1, .int v7_2])), (a7_1, .inl (cyZ, 200, .inl g7_1))]) (w1 := [(o4, .inr (4, [.ref a4_0, .ref a4_1, .int v4_2, .ref a4_3, .ref a4_4, .ref a4_5, .ref a4_6, .ref a4_7, .int (r_12.2.1)])), (a4_3, .inl (cyI, 100, .inl r_12.2.2.1)), (a4_4, .inl (cyI, 100, .inl r_12.2.2.2.1)), (a4_5, .inl (cyZ, 100, .inl r_12.2.2.2.2))]) hP hD [3, 4, 5, 6] [0, 1, 2] rfl rfl (by decide) (by decide) hk1 hFc hP1 hD1
              clear hz1 hk1 hPc hDc hFc hP1 hK1 hD1 ht hvm t u
              generalize H1 = H at hP hS ⊢
              have hP : va_P (dC, dI) vwCl [(o8, .inr (8, [.ref o7, .ref o4, .ref o0, .ref o1, .ref o3, .ref o2])), (o7, .inr (7, [.ref a7_0, .ref a7_1, .int v7_2])), (a7_1, .inl (cyZ, 200, .inl g7_1)), (o4, .inr (4, [.ref a4_0, .ref a4_1, .int v4_2, .ref a4_3, .ref a4_4, .ref a4_5, .ref a4_6, .ref a4_7, .int (r_12.2.1)])), (a4_3, .inl (cyI, 100, .inl r_12.2.2.1)), (a4_4, .inl (cyI, 100, .inl r_12.2.2.2.1)), (a4_5, .inl (cyZ, 100, .inl r_12.2.2.2.2))] H := hP
              have hD : va_D A [(o8, .inr (8, [.ref o7, .ref o4, .ref o0, .ref o1, .ref o3, .ref o2])), (o7, .inr (7, [.ref a7_0, .ref a7_1, .int v7_2])), (a7_1, .inl (cyZ, 200, .inl g7_1)), (o4, .inr (4, [.ref a4_0, .ref a4_1, .int v4_2, .ref a4_3, .ref a4_4, .ref a4_5, .ref a4_6, .ref a4_7, .int (r_12.2.1)])), (a4_3, .inl (cyI, 100, .inl r_12.2.2.1)), (a4_4, .inl (cyI, 100, .inl r_12.2.2.2.1)), (a4_5, .inl (cyZ, 100, .inl r_12.2.2.2.2))] := hD
              obtain rfl := hw.symm
              obtain rfl := Option.some.inj hf
              have hP9 := hP.sub (ws' := [(o8, .inr (8, [.ref o7, .ref o4, .ref o0, .ref o1, .ref o3, .ref o2])), (o7, .inr (7, [.ref a7_0, .ref a7_1, .int v7_2])), (a7_1, .inl (cyZ, 200, .inl g7_1)), (o4, .inr (4, [.ref a4_0, .ref a4_1, .int v4_2, .ref a4_3, .ref a4_4, .ref a4_5, .ref a4_6, .ref a4_7, .int (r_12.2.1)])), (a4_3, .inl (cyI, 100, .inl r_12.2.2.1)), (a4_4, .inl (cyI, 100, .inl r_12.2.2.2.1)), (a4_5, .inl (cyZ, 100, .inl r_12.2.2.2.2))]) [0, 1, 2, 3, 4, 5, 6] rfl
              have hD9 := hD.sub (ws' := [(o8, .inr (8, [.ref o7, .ref o4, .ref o0, .ref o1, .ref o3, .ref o2])), (o7, .inr (7, [.ref a7_0, .ref a7_1, .int v7_2])), (a7_1, .inl (cyZ, 200, .inl g7_1)), (o4, .inr (4, [.ref a4_0, .ref a4_1, .int v4_2, .ref a4_3, .ref a4_4, .ref a4_5, .ref a4_6, .ref a4_7, .int (r_12.2.1)])), (a4_3, .inl (cyI, 100, .inl r_12.2.2.1)), (a4_4, .inl (cyI, 100, .inl r_12.2.2.2.1)), (a4_5, .inl (cyZ, 100, .inl r_12.2.2.2.2))]) [0, 1, 2, 3, 4, 5, 6] (by decide) rfl
              refine vx_ret ?_
              refine W.widen (k := 1) (n := 6) (Nat.le_of_ble_eq_true rfl) (Nat.le_of_ble_eq_true rfl) ?_
              exact W.iret hx hb hr (fun t ht hW => ⟨⟨_, (), rfl, ⟨rfl, rfl⟩, by rw [ht]; exact hP9, va_K.moved hW.alike hK, hD9⟩, hS.F ht⟩) hS.2.2 dX8_shape_95
            · replace hf := x_in c_11 hf
              obtain rfl := Option.some.inj hf
              obtain ⟨sa, hsa⟩ := hG.2.2.1 (107, "no more SHAPES") (by decide)
              have hP9 := hP.sub (ws' := [(o8, .inr (8, [.ref o7, .ref o4, .ref o0, .ref o1, .ref o3, .ref o2])), (o7, .inr (7, [.ref a7_0, .ref a7_1, .int v7_2])), (a7_1, .inl (cyZ, 200, .inl g7_1)), (o4, .inr (4, [.ref a4_0, .ref a4_1, .int v4_2, .ref a4_3, .ref a4_4, .ref a4_5, .ref a4_6, .ref a4_7, .int v4_8])), (a4_3, .inl (cyI, 100, .inl g4_3)), (a4_4, .inl (cyI, 100, .inl g4_4)), (a4_5, .inl (cyZ, 100, .inl g4_5))]) [0, 1, 2, 3, 4, 5, 6] rfl
              have hD9 := hD.sub (ws' := [(o8, .inr (8, [.ref o7, .ref o4, .ref o0, .ref o1, .ref o3, .ref o2])), (o7, .inr (7, [.ref a7_0, .ref a7_1, .int v7_2])), (a7_1, .inl (cyZ, 200, .inl g7_1)), (o4, .inr (4, [.ref a4_0, .ref a4_1, .int v4_2, .ref a4_3, .ref a4_4, .ref a4_5, .ref a4_6, .ref a4_7, .int v4_8])), (a4_3, .inl (cyI, 100, .inl g4_3)), (a4_4, .inl (cyI, 100, .inl g4_4)), (a4_5, .inl (cyZ, 100, .inl g4_5))]) [0, 1, 2, 3, 4, 5, 6] (by decide) rfl
              refine vx_throwS (cls := "java/lang/IllegalStateException") (names := ["java/lang/RuntimeException", "java/lang/Exception"]) hx hb hl9 hown (by decide +kernel) (by decide +kernel) k_5 k_6 hsa (x_at2 hG.2.2.2 hts_2) (by decide +kernel) (hG.1.narrow hAb) (hG.2.1.narrow hAb) hS (hl.1.trans hml.symm) dX8_shape_75 dX8_shape_78 dX8_shape_79 dX8_shape_81 dX8_shape_84 (fun z hz => (hno z hz).elim) (Nat.le_of_ble_eq_true rfl) (Nat.le_of_ble_eq_true rfl) (Nat.le_of_ble_eq_true rfl) (Nat.le_of_ble_eq_true rfl) hlocks (fun t ha h1 h2 => ⟨(), trivial, ⟨x_thr2, x_kp hP9 (fun q h _ => h2 q h), va_K.moved ha hK, hD9⟩, x_mv hS h1 h2⟩) hS.2.2 (Nat.le_of_ble_eq_true rfl) (Nat.le_of_ble_eq_true rfl)
          · replace hf := x_in c_10 hf
            obtain rfl := Option.some.inj hf
            obtain ⟨sa, hsa⟩ := hG.2.2.1 (102, "no constructor is like this") (by decide)
            have hP9 := hP.sub (ws' := [(o8, .inr (8, [.ref o7, .ref o4, .ref o0, .ref o1, .ref o3, .ref o2])), (o7, .inr (7, [.ref a7_0, .ref a7_1, .int v7_2])), (a7_1, .inl (cyZ, 200, .inl g7_1)), (o4, .inr (4, [.ref a4_0, .ref a4_1, .int v4_2, .ref a4_3, .ref a4_4, .ref a4_5, .ref a4_6, .ref a4_7, .int v4_8])), (a4_3, .inl (cyI, 100, .inl g4_3)), (a4_4, .inl (cyI, 100, .inl g4_4)), (a4_5, .inl (cyZ, 100, .inl g4_5))]) [0, 1, 2, 3, 4, 5, 6] rfl
            have hD9 := hD.sub (ws' := [(o8, .inr (8, [.ref o7, .ref o4, .ref o0, .ref o1, .ref o3, .ref o2])), (o7, .inr (7, [.ref a7_0, .ref a7_1, .int v7_2])), (a7_1, .inl (cyZ, 200, .inl g7_1)), (o4, .inr (4, [.ref a4_0, .ref a4_1, .int v4_2, .ref a4_3, .ref a4_4, .ref a4_5, .ref a4_6, .ref a4_7, .int v4_8])), (a4_3, .inl (cyI, 100, .inl g4_3)), (a4_4, .inl (cyI, 100, .inl g4_4)), (a4_5, .inl (cyZ, 100, .inl g4_5))]) [0, 1, 2, 3, 4, 5, 6] (by decide) rfl
            refine vx_throwS (cls := "java/lang/IllegalArgumentException") (names := ["java/lang/RuntimeException", "java/lang/Exception"]) hx hb hl9 hown (by decide +kernel) (by decide +kernel) k_2 k_3 hsa (x_at1 hG.2.2.2 hts_1) (by decide +kernel) (hG.1.narrow hAb) (hG.2.1.narrow hAb) hS (hl.1.trans hml.symm) dX8_shape_53 dX8_shape_56 dX8_shape_57 dX8_shape_59 dX8_shape_62 (fun z hz => (hno z hz).elim) (Nat.le_of_ble_eq_true rfl) (Nat.le_of_ble_eq_true rfl) (Nat.le_of_ble_eq_true rfl) (Nat.le_of_ble_eq_true rfl) hlocks (fun t ha h1 h2 => ⟨(), trivial, ⟨x_thr1, x_kp hP9 (fun q h _ => h2 q h), va_K.moved ha hK, hD9⟩, x_mv hS h1 h2⟩) hS.2.2 (Nat.le_of_ble_eq_true rfl) (Nat.le_of_ble_eq_true rfl)
    · replace hf := x_ip c_4 hf
      obtain rfl := Option.some.inj hf
      obtain ⟨sa, hsa⟩ := hG.2.2.1 (100, "no CLASS or no result") (by decide)
      have hP9 := hP.sub (ws' := [(o8, .inr (8, [.ref o7, .ref o4, .ref o0, .ref o1, .ref o3, .ref o2])), (o7, .inr (7, [.ref a7_0, .ref a7_1, .int v7_2])), (a7_1, .inl (cyZ, 200, .inl g7_1)), (o4, .inr (4, [.ref a4_0, .ref a4_1, .int v4_2, .ref a4_3, .ref a4_4, .ref a4_5, .ref a4_6, .ref a4_7, .int v4_8])), (a4_3, .inl (cyI, 100, .inl g4_3)), (a4_4, .inl (cyI, 100, .inl g4_4)), (a4_5, .inl (cyZ, 100, .inl g4_5))]) [0, 1, 2, 3, 4, 5, 6] rfl
      have hD9 := hD.sub (ws' := [(o8, .inr (8, [.ref o7, .ref o4, .ref o0, .ref o1, .ref o3, .ref o2])), (o7, .inr (7, [.ref a7_0, .ref a7_1, .int v7_2])), (a7_1, .inl (cyZ, 200, .inl g7_1)), (o4, .inr (4, [.ref a4_0, .ref a4_1, .int v4_2, .ref a4_3, .ref a4_4, .ref a4_5, .ref a4_6, .ref a4_7, .int v4_8])), (a4_3, .inl (cyI, 100, .inl g4_3)), (a4_4, .inl (cyI, 100, .inl g4_4)), (a4_5, .inl (cyZ, 100, .inl g4_5))]) [0, 1, 2, 3, 4, 5, 6] (by decide) rfl
      refine vx_throwS (cls := "java/lang/IllegalArgumentException") (names := ["java/lang/RuntimeException", "java/lang/Exception"]) hx hb hl9 hown (by decide +kernel) (by decide +kernel) k_2 k_3 hsa (x_at1 hG.2.2.2 hts_1) (by decide +kernel) (hG.1.narrow hAb) (hG.2.1.narrow hAb) hS (hl.1.trans hml.symm) dX8_shape_22 dX8_shape_25 dX8_shape_26 dX8_shape_28 dX8_shape_31 (fun z hz => (hno z hz).elim) (Nat.le_of_ble_eq_true rfl) (Nat.le_of_ble_eq_true rfl) (Nat.le_of_ble_eq_true rfl) (Nat.le_of_ble_eq_true rfl) hlocks (fun t ha h1 h2 => ⟨(), trivial, ⟨x_thr1, x_kp hP9 (fun q h _ => h2 q h), va_K.moved ha hK, hD9⟩, x_mv hS h1 h2⟩) hS.2.2 (Nat.le_of_ble_eq_true rfl) (Nat.le_of_ble_eq_true rfl)

theorem i_X8_takes_X8 : ∀ w ∈ wsX80, w ∈ wsX8_takes := fun _ h => List.mem_cons_of_mem _ (List.mem_append_left _ (List.mem_append_left _ (List.mem_append_left _ (List.mem_append_left _ (List.mem_append_right _ h)))))
theorem u_X8_takes_1 : ∀ w ∈ (vx_atS RX8 67 "java/lang/IllegalArgumentException" ["java/lang/RuntimeException", "java/lang/Exception"]).filter goodWord, w ∈ wsX8_takes := by decide +kernel
theorem u_X8_takes_2 : ∀ w ∈ (vx_atS RX8 78 "java/lang/IllegalStateException" ["java/lang/RuntimeException", "java/lang/Exception"]).filter goodWord, w ∈ wsX8_takes := by decide +kernel
set_option maxHeartbeats 4000000 in
set_option maxRecDepth 100000 in
theorem c_X8_takes (l : Launch) (hl9 : l.stackTraces = false) (dC : Nat → ClassId) (dI : Nat → Nat → Nat) (cyI cyZ cyJ : ClassId) (sz : Nat) (base : Nat) (o8 : Nat) (o7 : Nat) (o4 : Nat) (o0 : Nat) (o1 : Nat) (o3 : Nat) (o2 : Nat) (a7_0 : Nat) (a7_1 : Nat) (v7_2 : Int32) (a4_0 : Nat) (a4_1 : Nat) (v4_2 : Int32) (a4_3 : Nat) (a4_4 : Nat) (a4_5 : Nat) (a4_6 : Nat) (a4_7 : Nat) (v4_8 : Int32) (g4_6 : Nat → Int32) (g4_7 : Nat → Int32) (p1 : Int32) (R : Int32 × Int32 × (Nat → Int32) × (Nat → Int32)) (hf : f_X8_takes v7_2 v4_8 g4_6 g4_7 p1 = some R) : vx_Met l yX8_takes wsX8_takes ({ frames := 6, cells := 1, slots := 6, locals := 90 }) (va_Pc [.ref o8, .int p1] (x_PreX (dC, dI) (x_T cyI cyZ cyJ) [(o8, .inr (8, [.ref o7, .ref o4, .ref o0, .ref o1, .ref o3, .ref o2])), (o7, .inr (7, [.ref a7_0, .ref a7_1, .int v7_2])), (o4, .inr (4, [.ref a4_0, .ref a4_1, .int v4_2, .ref a4_3, .ref a4_4, .ref a4_5, .ref a4_6, .ref a4_7, .int v4_8])), (a4_6, .inl (cyI, 2000, .inl g4_6)), (a4_7, .inl (cyI, 100, .inl g4_7))] base sz)) (va_Qi (fun (r : Int32) (_ : Unit) => R.1 = 0 ∧ r = R.2.1) (fun (_ : Unit) (t : State) => va_P (dC, dI) vwCl [(o8, .inr (8, [.ref o7, .ref o4, .ref o0, .ref o1, .ref o3, .ref o2])), (o7, .inr (7, [.ref a7_0, .ref a7_1, .int v7_2])), (o4, .inr (4, [.ref a4_0, .ref a4_1, .int v4_2, .ref a4_3, .ref a4_4, .ref a4_5, .ref a4_6, .ref a4_7, .int v4_8])), (a4_6, .inl (cyI, 2000, .inl R.2.2.1)), (a4_7, .inl (cyI, 100, .inl R.2.2.2))] t.heap ∧ va_K (dC, dI) vwCl (x_T cyI cyZ cyJ) t ∧ va_D (va_A [(o8, .inr (8, [.ref o7, .ref o4, .ref o0, .ref o1, .ref o3, .ref o2])), (o7, .inr (7, [.ref a7_0, .ref a7_1, .int v7_2])), (o4, .inr (4, [.ref a4_0, .ref a4_1, .int v4_2, .ref a4_3, .ref a4_4, .ref a4_5, .ref a4_6, .ref a4_7, .int v4_8])), (a4_6, .inl (cyI, 2000, .inl g4_6)), (a4_7, .inl (cyI, 100, .inl g4_7))] sz) [(o8, .inr (8, [.ref o7, .ref o4, .ref o0, .ref o1, .ref o3, .ref o2])), (o7, .inr (7, [.ref a7_0, .ref a7_1, .int v7_2])), (o4, .inr (4, [.ref a4_0, .ref a4_1, .int v4_2, .ref a4_3, .ref a4_4, .ref a4_5, .ref a4_6, .ref a4_7, .int v4_8])), (a4_6, .inl (cyI, 2000, .inl R.2.2.1)), (a4_7, .inl (cyI, 100, .inl R.2.2.2))]) (va_A [(o8, .inr (8, [.ref o7, .ref o4, .ref o0, .ref o1, .ref o3, .ref o2])), (o7, .inr (7, [.ref a7_0, .ref a7_1, .int v7_2])), (o4, .inr (4, [.ref a4_0, .ref a4_1, .int v4_2, .ref a4_3, .ref a4_4, .ref a4_5, .ref a4_6, .ref a4_7, .int v4_8])), (a4_6, .inl (cyI, 2000, .inl g4_6)), (a4_7, .inl (cyI, 100, .inl g4_7))] sz)) (vx_X (fun _ : Unit => True) (fun (E : String) (_ : Unit) (t : State) => x_thr R.1 E ∧ (va_P (dC, dI) vwCl [(o8, .inr (8, [.ref o7, .ref o4, .ref o0, .ref o1, .ref o3, .ref o2])), (o7, .inr (7, [.ref a7_0, .ref a7_1, .int v7_2])), (o4, .inr (4, [.ref a4_0, .ref a4_1, .int v4_2, .ref a4_3, .ref a4_4, .ref a4_5, .ref a4_6, .ref a4_7, .int v4_8])), (a4_6, .inl (cyI, 2000, .inl R.2.2.1)), (a4_7, .inl (cyI, 100, .inl R.2.2.2))] t.heap ∧ va_K (dC, dI) vwCl (x_T cyI cyZ cyJ) t ∧ va_D (va_A [(o8, .inr (8, [.ref o7, .ref o4, .ref o0, .ref o1, .ref o3, .ref o2])), (o7, .inr (7, [.ref a7_0, .ref a7_1, .int v7_2])), (o4, .inr (4, [.ref a4_0, .ref a4_1, .int v4_2, .ref a4_3, .ref a4_4, .ref a4_5, .ref a4_6, .ref a4_7, .int v4_8])), (a4_6, .inl (cyI, 2000, .inl g4_6)), (a4_7, .inl (cyI, 100, .inl g4_7))] sz) [(o8, .inr (8, [.ref o7, .ref o4, .ref o0, .ref o1, .ref o3, .ref o2])), (o7, .inr (7, [.ref a7_0, .ref a7_1, .int v7_2])), (o4, .inr (4, [.ref a4_0, .ref a4_1, .int v4_2, .ref a4_3, .ref a4_4, .ref a4_5, .ref a4_6, .ref a4_7, .int v4_8])), (a4_6, .inl (cyI, 2000, .inl R.2.2.1)), (a4_7, .inl (cyI, 100, .inl R.2.2.2))])) (va_A [(o8, .inr (8, [.ref o7, .ref o4, .ref o0, .ref o1, .ref o3, .ref o2])), (o7, .inr (7, [.ref a7_0, .ref a7_1, .int v7_2])), (o4, .inr (4, [.ref a4_0, .ref a4_1, .int v4_2, .ref a4_3, .ref a4_4, .ref a4_5, .ref a4_6, .ref a4_7, .int v4_8])), (a4_6, .inl (cyI, 2000, .inl g4_6)), (a4_7, .inl (cyI, 100, .inl g4_7))] sz)) 1 6 (va_A [(o8, .inr (8, [.ref o7, .ref o4, .ref o0, .ref o1, .ref o3, .ref o2])), (o7, .inr (7, [.ref a7_0, .ref a7_1, .int v7_2])), (o4, .inr (4, [.ref a4_0, .ref a4_1, .int v4_2, .ref a4_3, .ref a4_4, .ref a4_5, .ref a4_6, .ref a4_7, .int v4_8])), (a4_6, .inl (cyI, 2000, .inl g4_6)), (a4_7, .inl (cyI, 100, .inl g4_7))] sz) := by
  refine vx_ofW (cc := cX8_takes) (maxL := 2) (ret := (some .int)) (by decide) rfl ?_
  intro p e s m args below meth c s₁ B hml hno hv
  obtain ⟨rfl, ⟨⟨hsz, hP, hK, hN⟩, hD0⟩, hDb, hbz, hG⟩ := hv
  have hx := B.exec
  have hb := B.bytes
  have hr := B.returns
  have hts := atoms_spec (ws := wsX8_takes) B.pre
  have hown : s.vm.findClass RX8 = some m.cls := findClass_of_methodNamed B.named
  have hlocks := B.notSynchronized
  have hts_1 := fun w (h : w ∈ (vx_atS RX8 67 "java/lang/IllegalArgumentException" ["java/lang/RuntimeException", "java/lang/Exception"]).filter goodWord) => hts w (u_X8_takes_1 w h)
  have hts_2 := fun w (h : w ∈ (vx_atS RX8 78 "java/lang/IllegalStateException" ["java/lang/RuntimeException", "java/lang/Exception"]).filter goodWord) => hts w (u_X8_takes_2 w h)
  have k_1 := hts (.fieldLink RX8 10 "FlowJudge" "types" "LFlowJudge$Types;") (by decide +kernel)
  have k_2 := hts (.fieldLink RX8 19 "FlowJudge" "members" "LFlowJudge$Members;") (by decide +kernel)
  have k_3 := hts (.classLink RX8 74 "java/lang/IllegalStateException") (by decide +kernel)
  have k_4 := hts (.initialized "java/lang/IllegalStateException") (by decide +kernel)
  have k_5 := hts (.classLink RX8 63 "java/lang/IllegalArgumentException") (by decide +kernel)
  have k_6 := hts (.initialized "java/lang/IllegalArgumentException") (by decide +kernel)
  subst hsz
  have hAb : ∀ q, va_A [(o8, .inr (8, [.ref o7, .ref o4, .ref o0, .ref o1, .ref o3, .ref o2])), (o7, .inr (7, [.ref a7_0, .ref a7_1, .int v7_2])), (o4, .inr (4, [.ref a4_0, .ref a4_1, .int v4_2, .ref a4_3, .ref a4_4, .ref a4_5, .ref a4_6, .ref a4_7, .int v4_8])), (a4_6, .inl (cyI, 2000, .inl g4_6)), (a4_7, .inl (cyI, 100, .inl g4_7))] s.heap.size q → x_new base q := x_Ab hDb hbz
  have hD := hD0.self (sz := s.heap.size)
  generalize hAe : va_A [(o8, .inr (8, [.ref o7, .ref o4, .ref o0, .ref o1, .ref o3, .ref o2])), (o7, .inr (7, [.ref a7_0, .ref a7_1, .int v7_2])), (o4, .inr (4, [.ref a4_0, .ref a4_1, .int v4_2, .ref a4_3, .ref a4_4, .ref a4_5, .ref a4_6, .ref a4_7, .int v4_8])), (a4_6, .inl (cyI, 2000, .inl g4_6)), (a4_7, .inl (cyI, 100, .inl g4_7))] s.heap.size = A at hD hAb ⊢
  have hA : ∀ q : Nat, s.heap.size ≤ q → A q := fun q h => by rw [← hAe]; exact Or.inr h
  have hP : va_P (dC, dI) vwCl [(o8, .inr (8, [.ref o7, .ref o4, .ref o0, .ref o1, .ref o3, .ref o2])), (o7, .inr (7, [.ref a7_0, .ref a7_1, .int v7_2])), (o4, .inr (4, [.ref a4_0, .ref a4_1, .int v4_2, .ref a4_3, .ref a4_4, .ref a4_5, .ref a4_6, .ref a4_7, .int v4_8])), (a4_6, .inl (cyI, 2000, .inl g4_6)), (a4_7, .inl (cyI, 100, .inl g4_7))] s.heap := hP
  have hl := lv_entry ([.ref o8, .int p1]) (n := 2) (Nat.le_of_ble_eq_true rfl)
  rw [lg_entry_eq]
  generalize (lg_sl ([.ref o8, .int p1]) ++ List.replicate (2 - (lg_sl ([.ref o8, .int p1])).length) Slot.unset).toArray = ls at hl ⊢
  have hl : lv_has ls 2 [(0, .ref o8), (1, .int p1)] := hl
  obtain ⟨H, hH⟩ : ∃ z, z = s.heap := ⟨_, rfl⟩
  refine x_here hH ?_
  have hP : va_P (dC, dI) vwCl [(o8, .inr (8, [.ref o7, .ref o4, .ref o0, .ref o1, .ref o3, .ref o2])), (o7, .inr (7, [.ref a7_0, .ref a7_1, .int v7_2])), (o4, .inr (4, [.ref a4_0, .ref a4_1, .int v4_2, .ref a4_3, .ref a4_4, .ref a4_5, .ref a4_6, .ref a4_7, .int v4_8])), (a4_6, .inl (cyI, 2000, .inl g4_6)), (a4_7, .inl (cyI, 100, .inl g4_7))] H := by rw [hH]; exact hP
  have hS : va_S A s.heap H [] := by rw [hH]; exact va_S.rf
  clear hH
  obtain ⟨locs, hlo⟩ : ∃ z : List Loc, z = [] := ⟨_, rfl⟩
  refine x_herl hlo ?_
  have hS : va_S A s.heap H locs := by rw [hlo]; exact hS
  clear hlo
  unfold f_X8_takes at hf
  refine lv_aload_n hx hb dX8_takes_0 rfl (lv_at hl 0 rfl) ?_
  refine va_get (D := (dC, dI)) (ci := 8) (v := .ref o7) (C := RX8) (T := TX8) (N := 6) hx hb hts i_X8_takes_X8 hown hK hP 0 rfl rfl 0 (by decide) k_1 (fun _ h9 => h9) rfl dX8_takes_1 ?_
  refine lv_iload_n hx hb dX8_takes_4 rfl (lv_at hl 1 rfl) ?_
  obtain ⟨r_1, h_1, hf⟩ := x_bi hf
  have hPc := hP.sub (ws' := [(o7, .inr (7, [.ref a7_0, .ref a7_1, .int v7_2]))]) [1] rfl
  refine va_calli (va_runV (As := [.int p1]) (rest := []) ⟨hx, hb, hml, hown, hts⟩ (c_X7_isType l dC dI cyI cyZ cyJ H.size o7 a7_0 a7_1 v7_2 p1 r_1 h_1) (cwV 1 hts gX8_takes_X7_isType rfl rfl rfl (by decide +kernel) ⟨Nat.le_of_ble_eq_true rfl, Nat.le_of_ble_eq_true rfl⟩) (x_pV hN hK hPc (ci := 7) (q0 := 0) rfl rfl) rfl rfl hl.1 rfl (lv_room (Nat.le_of_ble_eq_true rfl)) dX8_takes_5 ⟨Nat.le_of_ble_eq_true rfl, Nat.le_of_ble_eq_true rfl⟩) hS x_nA (x_nf hA hS) (fun q_1 u t H1 locs ht hvm hw hB hz1 hk1 hS => ?_)
  have hP := x_kp hP hk1
  clear ht hvm hB hz1 hk1 t u hPc
  generalize H1 = H at hP hS ⊢
  obtain ⟨hw, b_1⟩ := hw
  obtain rfl := hw.symm
  refine lv_if_ne (tgt := 21) hx hb dX8_takes_8 (by decide) (fun c_2 => ?_) (fun c_2 => ?_)
  · replace hf := x_in c_2 hf
    refine lv_aload_n hx hb dX8_takes_21 rfl (lv_at hl 0 rfl) ?_
    refine va_get (D := (dC, dI)) (ci := 8) (v := .ref o4) (C := RX8) (T := TX8) (N := 6) hx hb hts i_X8_takes_X8 hown hK hP 0 rfl rfl 1 (by decide) k_2 (fun _ h9 => h9) rfl dX8_takes_22 ?_
    obtain ⟨r_3, h_3, hf⟩ := x_bi hf
    have hPc := hP.sub (ws' := [(o4, .inr (4, [.ref a4_0, .ref a4_1, .int v4_2, .ref a4_3, .ref a4_4, .ref a4_5, .ref a4_6, .ref a4_7, .int v4_8])), (a4_7, .inl (cyI, 100, .inl g4_7))]) [2, 4] rfl
    refine va_calli (va_runV (As := []) (rest := []) ⟨hx, hb, hml, hown, hts⟩ (c_X4_canTakeMore l dC dI cyI cyZ cyJ H.size o4 a4_0 a4_1 v4_2 a4_3 a4_4 a4_5 a4_6 a4_7 v4_8 g4_7 r_3 h_3) (cwV 0 hts gX8_takes_X4_canTakeMore rfl rfl rfl (by decide +kernel) ⟨Nat.le_of_ble_eq_true rfl, Nat.le_of_ble_eq_true rfl⟩) (x_pV hN hK hPc (ci := 4) (q0 := 0) rfl rfl) rfl rfl hl.1 rfl (lv_room (Nat.le_of_ble_eq_true rfl)) dX8_takes_25 ⟨Nat.le_of_ble_eq_true rfl, Nat.le_of_ble_eq_true rfl⟩) hS x_nA (x_nf hA hS) (fun q_3 u t H1 locs ht hvm hw hB hz1 hk1 hS => ?_)
    have hP := x_kp hP hk1
    clear ht hvm hB hz1 hk1 t u hPc
    generalize H1 = H at hP hS ⊢
    obtain ⟨hw, b_3⟩ := hw
    obtain rfl := hw.symm
    refine lv_if_ne (tgt := 41) hx hb dX8_takes_28 (by decide) (fun c_4 => ?_) (fun c_4 => ?_)
    · replace hf := x_in c_4 hf
      refine lv_aload_n hx hb dX8_takes_41 rfl (lv_at hl 0 rfl) ?_
      refine va_get (D := (dC, dI)) (ci := 8) (v := .ref o4) (C := RX8) (T := TX8) (N := 6) hx hb hts i_X8_takes_X8 hown hK hP 0 rfl rfl 1 (by decide) k_2 (fun _ h9 => h9) rfl dX8_takes_42 ?_
      refine lv_iload_n hx hb dX8_takes_45 rfl (lv_at hl 1 rfl) ?_
      obtain ⟨r_5, h_5, hf⟩ := x_bi hf
      have hPc := hP.sub (ws' := [(o4, .inr (4, [.ref a4_0, .ref a4_1, .int v4_2, .ref a4_3, .ref a4_4, .ref a4_5, .ref a4_6, .ref a4_7, .int v4_8])), (a4_6, .inl (cyI, 2000, .inl g4_6)), (a4_7, .inl (cyI, 100, .inl g4_7))]) [2, 3, 4] rfl
      have hDc := hD.sub (ws' := [(o4, .inr (4, [.ref a4_0, .ref a4_1, .int v4_2, .ref a4_3, .ref a4_4, .ref a4_5, .ref a4_6, .ref a4_7, .int v4_8])), (a4_6, .inl (cyI, 2000, .inl g4_6)), (a4_7, .inl (cyI, 100, .inl g4_7))]) [2, 3, 4] (by decide) rfl
      have hFc := va_free (wc := [(o4, .inr (4, [.ref a4_0, .ref a4_1, .int v4_2, .ref a4_3, .ref a4_4, .ref a4_5, .ref a4_6, .ref a4_7, .int v4_8])), (a4_6, .inl (cyI, 2000, .inl g4_6)), (a4_7, .inl (cyI, 100, .inl g4_7))]) hD hS hA [2, 3, 4] rfl
      refine va_calli (va_runV (As := [.int p1]) (rest := []) ⟨hx, hb, hml, hown, hts⟩ (c_X4_takeMore l dC dI cyI cyZ cyJ H.size o4 a4_0 a4_1 v4_2 a4_3 a4_4 a4_5 a4_6 a4_7 v4_8 g4_6 g4_7 p1 r_5 h_5) (cwV 1 hts gX8_takes_X4_takeMore rfl rfl rfl (by decide +kernel) ⟨Nat.le_of_ble_eq_true rfl, Nat.le_of_ble_eq_true rfl⟩) (x_pVD hN hK hPc hDc (ci := 4) (q0 := 0) rfl rfl) rfl rfl hl.1 rfl (lv_room (Nat.le_of_ble_eq_true rfl)) dX8_takes_46 ⟨Nat.le_of_ble_eq_true rfl, Nat.le_of_ble_eq_true rfl⟩) hS (fun q _ h => hFc q h) hFc (fun q_5 u t H1 locs ht hvm hw hB hz1 hk1 hS => ?_)
      obtain ⟨hP1, hK1, hD1⟩ := hB
      rw [ht] at hP1
      obtain ⟨hP, hD⟩ := va_join (wr := [(o8, .inr (8, [.ref o7, .ref o4, .ref o0, .ref o1, .ref o3, .ref o2])), (o7, .inr (7, [.ref a7_0, .ref a7_1, .int v7_2]))]) (w1 := [(o4, .inr (4, [.ref a4_0, .ref a4_1, .int v4_2, .ref a4_3, .ref a4_4, .ref a4_5, .ref a4_6, .ref a4_7, .int v4_8])), (a4_6, .inl (cyI, 2000, .inl r_5.2.1)), (a4_7, .inl (cyI, 100, .inl r_5.2.2))]) hP hD [2, 3, 4] [0, 1] rfl rfl (by decide) (by decide) hk1 hFc hP1 hD1
      clear hz1 hk1 hPc hDc hFc hP1 hK1 hD1 ht hvm t u
      generalize H1 = H at hP hS ⊢
      have hP : va_P (dC, dI) vwCl [(o8, .inr (8, [.ref o7, .ref o4, .ref o0, .ref o1, .ref o3, .ref o2])), (o7, .inr (7, [.ref a7_0, .ref a7_1, .int v7_2])), (o4, .inr (4, [.ref a4_0, .ref a4_1, .int v4_2, .ref a4_3, .ref a4_4, .ref a4_5, .ref a4_6, .ref a4_7, .int v4_8])), (a4_6, .inl (cyI, 2000, .inl r_5.2.1)), (a4_7, .inl (cyI, 100, .inl r_5.2.2))] H := hP
      have hD : va_D A [(o8, .inr (8, [.ref o7, .ref o4, .ref o0, .ref o1, .ref o3, .ref o2])), (o7, .inr (7, [.ref a7_0, .ref a7_1, .int v7_2])), (o4, .inr (4, [.ref a4_0, .ref a4_1, .int v4_2, .ref a4_3, .ref a4_4, .ref a4_5, .ref a4_6, .ref a4_7, .int v4_8])), (a4_6, .inl (cyI, 2000, .inl r_5.2.1)), (a4_7, .inl (cyI, 100, .inl r_5.2.2))] := hD
      obtain rfl := hw.symm
      obtain rfl := Option.some.inj hf
      have hP9 := hP.sub (ws' := [(o8, .inr (8, [.ref o7, .ref o4, .ref o0, .ref o1, .ref o3, .ref o2])), (o7, .inr (7, [.ref a7_0, .ref a7_1, .int v7_2])), (o4, .inr (4, [.ref a4_0, .ref a4_1, .int v4_2, .ref a4_3, .ref a4_4, .ref a4_5, .ref a4_6, .ref a4_7, .int v4_8])), (a4_6, .inl (cyI, 2000, .inl r_5.2.1)), (a4_7, .inl (cyI, 100, .inl r_5.2.2))]) [0, 1, 2, 3, 4] rfl
      have hD9 := hD.sub (ws' := [(o8, .inr (8, [.ref o7, .ref o4, .ref o0, .ref o1, .ref o3, .ref o2])), (o7, .inr (7, [.ref a7_0, .ref a7_1, .int v7_2])), (o4, .inr (4, [.ref a4_0, .ref a4_1, .int v4_2, .ref a4_3, .ref a4_4, .ref a4_5, .ref a4_6, .ref a4_7, .int v4_8])), (a4_6, .inl (cyI, 2000, .inl r_5.2.1)), (a4_7, .inl (cyI, 100, .inl r_5.2.2))]) [0, 1, 2, 3, 4] (by decide) rfl
      refine vx_ret ?_
      refine W.widen (k := 1) (n := 6) (Nat.le_of_ble_eq_true rfl) (Nat.le_of_ble_eq_true rfl) ?_
      exact W.iret hx hb hr (fun t ht hW => ⟨⟨_, (), rfl, ⟨rfl, rfl⟩, by rw [ht]; exact hP9, va_K.moved hW.alike hK, hD9⟩, hS.F ht⟩) hS.2.2 dX8_takes_49
    · replace hf := x_ip c_4 hf
      obtain rfl := Option.some.inj hf
      obtain ⟨sa, hsa⟩ := hG.2.2.1 (119, "no SHAPE, or no more arguments") (by decide)
      have hP9 := hP.sub (ws' := [(o8, .inr (8, [.ref o7, .ref o4, .ref o0, .ref o1, .ref o3, .ref o2])), (o7, .inr (7, [.ref a7_0, .ref a7_1, .int v7_2])), (o4, .inr (4, [.ref a4_0, .ref a4_1, .int v4_2, .ref a4_3, .ref a4_4, .ref a4_5, .ref a4_6, .ref a4_7, .int v4_8])), (a4_6, .inl (cyI, 2000, .inl g4_6)), (a4_7, .inl (cyI, 100, .inl g4_7))]) [0, 1, 2, 3, 4] rfl
      have hD9 := hD.sub (ws' := [(o8, .inr (8, [.ref o7, .ref o4, .ref o0, .ref o1, .ref o3, .ref o2])), (o7, .inr (7, [.ref a7_0, .ref a7_1, .int v7_2])), (o4, .inr (4, [.ref a4_0, .ref a4_1, .int v4_2, .ref a4_3, .ref a4_4, .ref a4_5, .ref a4_6, .ref a4_7, .int v4_8])), (a4_6, .inl (cyI, 2000, .inl g4_6)), (a4_7, .inl (cyI, 100, .inl g4_7))]) [0, 1, 2, 3, 4] (by decide) rfl
      refine vx_throwS (cls := "java/lang/IllegalStateException") (names := ["java/lang/RuntimeException", "java/lang/Exception"]) hx hb hl9 hown (by decide +kernel) (by decide +kernel) k_3 k_4 hsa (x_at2 hG.2.2.2 hts_2) (by decide +kernel) (hG.1.narrow hAb) (hG.2.1.narrow hAb) hS (hl.1.trans hml.symm) dX8_takes_31 dX8_takes_34 dX8_takes_35 dX8_takes_37 dX8_takes_40 (fun z hz => (hno z hz).elim) (Nat.le_of_ble_eq_true rfl) (Nat.le_of_ble_eq_true rfl) (Nat.le_of_ble_eq_true rfl) (Nat.le_of_ble_eq_true rfl) hlocks (fun t ha h1 h2 => ⟨(), trivial, ⟨x_thr2, x_kp hP9 (fun q h _ => h2 q h), va_K.moved ha hK, hD9⟩, x_mv hS h1 h2⟩) hS.2.2 (Nat.le_of_ble_eq_true rfl) (Nat.le_of_ble_eq_true rfl)
  · replace hf := x_ip c_2 hf
    obtain rfl := Option.some.inj hf
    obtain ⟨sa, hsa⟩ := hG.2.2.1 (113, "no TYPE") (by decide)
    have hP9 := hP.sub (ws' := [(o8, .inr (8, [.ref o7, .ref o4, .ref o0, .ref o1, .ref o3, .ref o2])), (o7, .inr (7, [.ref a7_0, .ref a7_1, .int v7_2])), (o4, .inr (4, [.ref a4_0, .ref a4_1, .int v4_2, .ref a4_3, .ref a4_4, .ref a4_5, .ref a4_6, .ref a4_7, .int v4_8])), (a4_6, .inl (cyI, 2000, .inl g4_6)), (a4_7, .inl (cyI, 100, .inl g4_7))]) [0, 1, 2, 3, 4] rfl
    have hD9 := hD.sub (ws' := [(o8, .inr (8, [.ref o7, .ref o4, .ref o0, .ref o1, .ref o3, .ref o2])), (o7, .inr (7, [.ref a7_0, .ref a7_1, .int v7_2])), (o4, .inr (4, [.ref a4_0, .ref a4_1, .int v4_2, .ref a4_3, .ref a4_4, .ref a4_5, .ref a4_6, .ref a4_7, .int v4_8])), (a4_6, .inl (cyI, 2000, .inl g4_6)), (a4_7, .inl (cyI, 100, .inl g4_7))]) [0, 1, 2, 3, 4] (by decide) rfl
    refine vx_throwS (cls := "java/lang/IllegalArgumentException") (names := ["java/lang/RuntimeException", "java/lang/Exception"]) hx hb hl9 hown (by decide +kernel) (by decide +kernel) k_5 k_6 hsa (x_at1 hG.2.2.2 hts_1) (by decide +kernel) (hG.1.narrow hAb) (hG.2.1.narrow hAb) hS (hl.1.trans hml.symm) dX8_takes_11 dX8_takes_14 dX8_takes_15 dX8_takes_17 dX8_takes_20 (fun z hz => (hno z hz).elim) (Nat.le_of_ble_eq_true rfl) (Nat.le_of_ble_eq_true rfl) (Nat.le_of_ble_eq_true rfl) (Nat.le_of_ble_eq_true rfl) hlocks (fun t ha h1 h2 => ⟨(), trivial, ⟨x_thr1, x_kp hP9 (fun q h _ => h2 q h), va_K.moved ha hK, hD9⟩, x_mv hS h1 h2⟩) hS.2.2 (Nat.le_of_ble_eq_true rfl) (Nat.le_of_ble_eq_true rfl)

