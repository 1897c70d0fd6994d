theorem x_cls {x : Int32} (h : ¬ f_X7_isClass x = 0) : vp_in x 200 := by
  unfold f_X7_isClass at h
  by_cases h1 : x < 0
  · rw [if_pos h1] at h; exact absurd rfl h
  · by_cases h2 : 4 ≤ x
    · rw [if_neg h1, if_pos h2] at h; exact absurd rfl h
    · exact x_in4n (x_ge0 h1) h2
theorem i_X8_context_X8 : ∀ w ∈ wsX80, w ∈ wsX8_context := by decide +kernel
set_option maxHeartbeats 4000000 in
set_option maxRecDepth 100000 in
theorem c_X8_context (l : Launch) (dC : Nat → ClassId) (dI : Nat → Nat → Nat) (cyI cyZ cyJ : ClassId) (sz : Nat) (h0 : Nat) (t0 : Nat) (m0 : Nat) (c0 : Nat) (x0 : Nat) (f0 : Nat) (w0 : Nat) (fa5 : Nat) (fa6 : Nat) (fa7 : Nat) (fa8 : Nat) (fa9 : Nat) (fa10 : Nat) (fa11 : Nat) (fa12 : Nat) (fa15 : Nat) (fa16 : Nat) (p0 : Int32) (p1 : Int32) : Met l yX8_context wsX8_context ({ frames := 1, cells := 0, slots := 0, locals := 23 }) (va_Pc [.ref h0, .int p0, .int p1] (x_Pre (dC, dI) (x_T cyI cyZ cyJ) [(h0, .inr (8, [.ref t0, .ref m0, .ref c0, .ref x0, .ref f0, .ref w0])), (f0, .inr (3, [.ref t0, .ref x0, .int 0, .int 0, .int 0, .ref fa5, .ref fa6, .ref fa7, .ref fa8, .ref fa9, .ref fa10, .ref fa11, .ref fa12, .int (-1), .int (-1), .ref fa15, .ref fa16]))] sz)) (va_Qi (fun (r : Int32) (_ : Unit) => r = (-1)) (fun _ _ => True) (x_new sz)) 0 0 (x_new sz) := by
  refine Met.ofW (cc := cX8_context) (maxL := 3) (ret := (some .int)) (by decide) rfl ?_
  intro p e s m args below meth c s₁ B hml hv
  obtain ⟨rfl, hsz, hP, hK, hN⟩ := hv
  have hx := B.exec
  have hb := B.bytes
  have hr := B.returns
  have hts := atoms_spec (ws := wsX8_context) B.pre
  have hown : s.vm.findClass RX8 = some m.cls := findClass_of_methodNamed B.named
  have hlocks := B.notSynchronized
  have k_1 := hts (.fieldLink RX8 42 "FlowJudge" "frames" "LFlowJudge$Frames;") (by decide +kernel)
  subst hsz
  have hA : ∀ q : Nat, s.heap.size ≤ q → x_new s.heap.size q := fun _ h => h
  have hS : va_S (x_new s.heap.size) s.heap s.heap [] := va_S.rf
  have hP : va_P (dC, dI) vwCl [(h0, .inr (8, [.ref t0, .ref m0, .ref c0, .ref x0, .ref f0, .ref w0])), (f0, .inr (3, [.ref t0, .ref x0, .int 0, .int 0, .int 0, .ref fa5, .ref fa6, .ref fa7, .ref fa8, .ref fa9, .ref fa10, .ref fa11, .ref fa12, .int (-1), .int (-1), .ref fa15, .ref fa16]))] s.heap := hP
  have hl := lv_entry ([.ref h0, .int p0, .int p1]) (n := 3) (Nat.le_of_ble_eq_true rfl)
  rw [lg_entry_eq]
  generalize (lg_sl ([.ref h0, .int p0, .int p1]) ++ List.replicate (3 - (lg_sl ([.ref h0, .int p0, .int p1])).length) Slot.unset).toArray = ls at hl ⊢
  have hl : lv_has ls 3 [(0, .ref h0), (1, .int p0), (2, .int p1)] := hl
  obtain ⟨H, hH⟩ : ∃ z, z = s.heap := ⟨_, rfl⟩
  refine x_here hH ?_
  have hP : va_P (dC, dI) vwCl [(h0, .inr (8, [.ref t0, .ref m0, .ref c0, .ref x0, .ref f0, .ref w0])), (f0, .inr (3, [.ref t0, .ref x0, .int 0, .int 0, .int 0, .ref fa5, .ref fa6, .ref fa7, .ref fa8, .ref fa9, .ref fa10, .ref fa11, .ref fa12, .int (-1), .int (-1), .ref fa15, .ref fa16]))] H := by rw [hH]; exact hP
  have hS : va_S (x_new s.heap.size) s.heap H [] := by rw [hH]; exact va_S.rf
  clear hH
  refine lv_aload_n hx hb dX8_context_0 rfl (lv_at hl 0 rfl) ?_
  refine va_get (D := (dC, dI)) (ci := 8) (v := .ref f0) (C := RX8) (T := TX8) (N := 6) hx hb hts i_X8_context_X8 hown hK hP 0 rfl rfl 4 (by decide) k_1 (fun _ h9 => h9) rfl dX8_context_1 ?_
  refine lv_iload_n hx hb dX8_context_4 rfl (lv_at hl 1 rfl) ?_
  refine lv_iload_n hx hb dX8_context_5 rfl (lv_at hl 2 rfl) ?_
  have hPc := hP.sub (ws' := [(f0, .inr (3, [.ref t0, .ref x0, .int 0, .int 0, .int 0, .ref fa5, .ref fa6, .ref fa7, .ref fa8, .ref fa9, .ref fa10, .ref fa11, .ref fa12, .int (-1), .int (-1), .ref fa15, .ref fa16]))]) [1] rfl
  refine va_calli (va_runV (As := [.int p0, .int p1]) (rest := []) ⟨hx, hb, hml, hown, hts⟩ (c_X3_addressOf l dC dI cyI cyZ cyJ H.size f0 t0 x0 fa5 fa6 fa7 fa8 fa9 fa10 fa11 fa12 fa15 fa16 p0 p1) (cwV 2 hts gX8_context_X3_addressOf rfl rfl rfl (by decide +kernel) ⟨Nat.le_of_ble_eq_true rfl, Nat.le_of_ble_eq_true rfl⟩) (x_pV hN hK hPc (ci := 3) (q0 := 0) rfl rfl) rfl rfl hl.1 rfl (lv_room (Nat.le_of_ble_eq_true rfl)) dX8_context_6 ⟨Nat.le_of_ble_eq_true rfl, Nat.le_of_ble_eq_true rfl⟩) hS x_nA (x_nf hA hS) (fun r_6 u t H1 locs ht hvm hw hB hz1 hk1 hS => ?_)
  have hP := x_kp hP hk1
  clear ht hvm hB hz1 hk1 t u hPc
  generalize H1 = H at hP hS ⊢
  obtain rfl := hw
  exact W.iret hx hb hr (fun t ht hW => ⟨⟨_, (), rfl, rfl, trivial⟩, hS.F ht⟩) hS.2.2 dX8_context_9

theorem i_X8_told_X8 : ∀ w ∈ wsX80, w ∈ wsX8_told := by decide +kernel
set_option maxHeartbeats 4000000 in
set_option maxRecDepth 100000 in
theorem c_X8_told (l : Launch) (dC : Nat → ClassId) (dI : Nat → Nat → Nat) (cyI cyZ cyJ : ClassId) (sz : Nat) (h0 : Nat) (t0 : Nat) (m0 : Nat) (c0 : Nat) (x0 : Nat) (f0 : Nat) (w0 : Nat) (fa5 : Nat) (fa6 : Nat) (fa7 : Nat) (fa8 : Nat) (fa9 : Nat) (fa10 : Nat) (fa11 : Nat) (fa12 : Nat) (fa15 : Nat) (fa16 : Nat) (p0 : Int32) (p1 : Int32) : Met l yX8_told wsX8_told ({ frames := 1, cells := 0, slots := 0, locals := 23 }) (va_Pc [.ref h0, .int p0, .int p1] (x_Pre (dC, dI) (x_T cyI cyZ cyJ) [(h0, .inr (8, [.ref t0, .ref m0, .ref c0, .ref x0, .ref f0, .ref w0])), (f0, .inr (3, [.ref t0, .ref x0, .int 0, .int 0, .int 0, .ref fa5, .ref fa6, .ref fa7, .ref fa8, .ref fa9, .ref fa10, .ref fa11, .ref fa12, .int (-1), .int (-1), .ref fa15, .ref fa16]))] sz)) (va_Qi (fun (r : Int32) (_ : Unit) => r = (-1)) (fun _ _ => True) (x_new sz)) 0 0 (x_new sz) := by
  refine Met.ofW (cc := cX8_told) (maxL := 3) (ret := (some .int)) (by decide) rfl ?_
  intro p e s m args below meth c s₁ B hml hv
  obtain ⟨rfl, hsz, hP, hK, hN⟩ := hv
  have hx := B.exec
  have hb := B.bytes
  have hr := B.returns
  have hts := atoms_spec (ws := wsX8_told) B.pre
  have hown : s.vm.findClass RX8 = some m.cls := findClass_of_methodNamed B.named
  have hlocks := B.notSynchronized
  have k_1 := hts (.fieldLink RX8 42 "FlowJudge" "frames" "LFlowJudge$Frames;") (by decide +kernel)
  subst hsz
  have hA : ∀ q : Nat, s.heap.size ≤ q → x_new s.heap.size q := fun _ h => h
  have hS : va_S (x_new s.heap.size) s.heap s.heap [] := va_S.rf
  have hP : va_P (dC, dI) vwCl [(h0, .inr (8, [.ref t0, .ref m0, .ref c0, .ref x0, .ref f0, .ref w0])), (f0, .inr (3, [.ref t0, .ref x0, .int 0, .int 0, .int 0, .ref fa5, .ref fa6, .ref fa7, .ref fa8, .ref fa9, .ref fa10, .ref fa11, .ref fa12, .int (-1), .int (-1), .ref fa15, .ref fa16]))] s.heap := hP
  have hl := lv_entry ([.ref h0, .int p0, .int p1]) (n := 3) (Nat.le_of_ble_eq_true rfl)
  rw [lg_entry_eq]
  generalize (lg_sl ([.ref h0, .int p0, .int p1]) ++ List.replicate (3 - (lg_sl ([.ref h0, .int p0, .int p1])).length) Slot.unset).toArray = ls at hl ⊢
  have hl : lv_has ls 3 [(0, .ref h0), (1, .int p0), (2, .int p1)] := hl
  obtain ⟨H, hH⟩ : ∃ z, z = s.heap := ⟨_, rfl⟩
  refine x_here hH ?_
  have hP : va_P (dC, dI) vwCl [(h0, .inr (8, [.ref t0, .ref m0, .ref c0, .ref x0, .ref f0, .ref w0])), (f0, .inr (3, [.ref t0, .ref x0, .int 0, .int 0, .int 0, .ref fa5, .ref fa6, .ref fa7, .ref fa8, .ref fa9, .ref fa10, .ref fa11, .ref fa12, .int (-1), .int (-1), .ref fa15, .ref fa16]))] H := by rw [hH]; exact hP
  have hS : va_S (x_new s.heap.size) s.heap H [] := by rw [hH]; exact va_S.rf
  clear hH
  refine lv_aload_n hx hb dX8_told_0 rfl (lv_at hl 0 rfl) ?_
  refine va_get (D := (dC, dI)) (ci := 8) (v := .ref f0) (C := RX8) (T := TX8) (N := 6) hx hb hts i_X8_told_X8 hown hK hP 0 rfl rfl 4 (by decide) k_1 (fun _ h9 => h9) rfl dX8_told_1 ?_
  refine lv_iload_n hx hb dX8_told_4 rfl (lv_at hl 1 rfl) ?_
  refine lv_iload_n hx hb dX8_told_5 rfl (lv_at hl 2 rfl) ?_
  have hPc := hP.sub (ws' := [(f0, .inr (3, [.ref t0, .ref x0, .int 0, .int 0, .int 0, .ref fa5, .ref fa6, .ref fa7, .ref fa8, .ref fa9, .ref fa10, .ref fa11, .ref fa12, .int (-1), .int (-1), .ref fa15, .ref fa16]))]) [1] rfl
  refine va_calli (va_runV (As := [.int p0, .int p1]) (rest := []) ⟨hx, hb, hml, hown, hts⟩ (c_X3_placeOf l dC dI cyI cyZ cyJ H.size f0 t0 x0 fa5 fa6 fa7 fa8 fa9 fa10 fa11 fa12 fa15 fa16 p0 p1) (cwV 2 hts gX8_told_X3_placeOf rfl rfl rfl (by decide +kernel) ⟨Nat.le_of_ble_eq_true rfl, Nat.le_of_ble_eq_true rfl⟩) (x_pV hN hK hPc (ci := 3) (q0 := 0) rfl rfl) rfl rfl hl.1 rfl (lv_room (Nat.le_of_ble_eq_true rfl)) dX8_told_6 ⟨Nat.le_of_ble_eq_true rfl, Nat.le_of_ble_eq_true rfl⟩) hS x_nA (x_nf hA hS) (fun r_6 u t H1 locs ht hvm hw hB hz1 hk1 hS => ?_)
  have hP := x_kp hP hk1
  clear ht hvm hB hz1 hk1 t u hPc
  generalize H1 = H at hP hS ⊢
  obtain rfl := hw
  exact W.iret hx hb hr (fun t ht hW => ⟨⟨_, (), rfl, rfl, trivial⟩, hS.F ht⟩) hS.2.2 dX8_told_9

theorem i_X8_digest_X3 : ∀ w ∈ wsX30, w ∈ wsX8_digest := by decide +kernel
theorem i_X8_digest_X8 : ∀ w ∈ wsX80, w ∈ wsX8_digest := by decide +kernel
set_option maxHeartbeats 4000000 in
set_option maxRecDepth 100000 in
theorem c_X8_digest (l : Launch) (dC : Nat → ClassId) (dI : Nat → Nat → Nat) (cyI cyZ cyJ : ClassId) (sz : Nat) (h0 : Nat) (t0 : Nat) (m0 : Nat) (c0 : Nat) (x0 : Nat) (f0 : Nat) (w0 : Nat) (fa5 : Nat) (fa6 : Nat) (fa7 : Nat) (fa8 : Nat) (fa9 : Nat) (fa10 : Nat) (fa11 : Nat) (fa12 : Nat) (fa15 : Nat) (fa16 : Nat) : Met l yX8_digest wsX8_digest ({ frames := 0, cells := 0, slots := 0, locals := 0 }) (va_Pc [.ref h0] (x_Pre (dC, dI) (x_T cyI cyZ cyJ) [(h0, .inr (8, [.ref t0, .ref m0, .ref c0, .ref x0, .ref f0, .ref w0])), (f0, .inr (3, [.ref t0, .ref x0, .int 0, .int 0, .int 0, .ref fa5, .ref fa6, .ref fa7, .ref fa8, .ref fa9, .ref fa10, .ref fa11, .ref fa12, .int (-1), .int (-1), .ref fa15, .ref fa16]))] sz)) (va_Ql (fun (r : Int64) (_ : Unit) => r = 7) (fun _ _ => True) (x_new sz)) 0 0 (x_new sz) := by
  refine Met.ofW (cc := cX8_digest) (maxL := 6) (ret := (some .long)) (by decide) rfl ?_
  intro p e s m args below meth c s₁ B hml hv
  obtain ⟨rfl, hsz, hP, hK, hN⟩ := hv
  have hx := B.exec
  have hb := B.bytes
  have hr := B.returns
  have hts := atoms_spec (ws := wsX8_digest) B.pre
  have hown : s.vm.findClass RX8 = some m.cls := findClass_of_methodNamed B.named
  have hlocks := B.notSynchronized
  have k_1 := hts (.constantLong RX8 221 (7)) (by decide +kernel)
  have k_2 := hts (.fieldLink RX8 42 "FlowJudge" "frames" "LFlowJudge$Frames;") (by decide +kernel)
  subst hsz
  have hA : ∀ q : Nat, s.heap.size ≤ q → x_new s.heap.size q := fun _ h => h
  have hS : va_S (x_new s.heap.size) s.heap s.heap [] := va_S.rf
  have hP : va_P (dC, dI) vwCl [(h0, .inr (8, [.ref t0, .ref m0, .ref c0, .ref x0, .ref f0, .ref w0])), (f0, .inr (3, [.ref t0, .ref x0, .int 0, .int 0, .int 0, .ref fa5, .ref fa6, .ref fa7, .ref fa8, .ref fa9, .ref fa10, .ref fa11, .ref fa12, .int (-1), .int (-1), .ref fa15, .ref fa16]))] s.heap := hP
  have hl := lv_entry ([.ref h0]) (n := 6) (Nat.le_of_ble_eq_true rfl)
  rw [lg_entry_eq]
  generalize (lg_sl ([.ref h0]) ++ List.replicate (6 - (lg_sl ([.ref h0])).length) Slot.unset).toArray = ls at hl ⊢
  have hl : lv_has ls 6 [(0, .ref h0)] := hl
  obtain ⟨H, hH⟩ : ∃ z, z = s.heap := ⟨_, rfl⟩
  refine x_here hH ?_
  have hP : va_P (dC, dI) vwCl [(h0, .inr (8, [.ref t0, .ref m0, .ref c0, .ref x0, .ref f0, .ref w0])), (f0, .inr (3, [.ref t0, .ref x0, .int 0, .int 0, .int 0, .ref fa5, .ref fa6, .ref fa7, .ref fa8, .ref fa9, .ref fa10, .ref fa11, .ref fa12, .int (-1), .int (-1), .ref fa15, .ref fa16]))] H := by rw [hH]; exact hP
  have hS : va_S (x_new s.heap.size) s.heap H [] := by rw [hH]; exact va_S.rf
  clear hH
  refine lv_ldc2 (v := 7) hx hb hown k_1 dX8_digest_0 ?_
  refine lv_lstore_n (lv' := [(1, .long 7), (0, .ref h0)]) hx hb dX8_digest_3 rfl hl (by decide) rfl (fun ls hl => ?_)
  refine lv_iconst (v := 0) hx hb dX8_digest_4 (by decide) ?_
  refine lv_istore_n (lv' := [(3, .int 0), (1, .long 7), (0, .ref h0)]) hx hb dX8_digest_5 rfl hl (by decide) rfl (fun ls hl => ?_)
  refine lv_iload_n hx hb dX8_digest_6 rfl (lv_at hl 0 rfl) ?_
  refine lv_aload_n hx hb dX8_digest_7 rfl (lv_at hl 2 rfl) ?_
  refine va_get (D := (dC, dI)) (ci := 8) (v := .ref f0) (C := RX8) (T := TX8) (N := 6) hx hb hts i_X8_digest_X8 hown hK hP 0 rfl rfl 4 (by decide) k_2 (fun _ h9 => h9) rfl dX8_digest_8 ?_
  refine va_getN (D := (dC, dI)) (ci := 3) (v := .int 0) (C := RX3) (T := TX3) (N := 17) hx hb hts i_X8_digest_X3 hown hK hP 1 rfl rfl 4 (by decide) ((hN.1 (206, "FlowJudge$Frames", "count", "I") (by decide)).use rfl) (fun _ h9 => h9) rfl dX8_digest_11 ?_
  refine lv_icmp_ge (tgt := 109) hx hb dX8_digest_14 (by decide) (fun _ => ?_) (fun c_1 => absurd (by decide) c_1)
  refine lv_lload_n hx hb dX8_digest_109 rfl (lv_at hl 1 rfl) ?_
  exact W.lret hx hb hr (fun t ht hW => ⟨⟨_, (), rfl, rfl, trivial⟩, hS.F ht⟩) hS.2.2 dX8_digest_110

def f_X8_isOperand (p0 : Int32) (p1 : Int32) : Int32 := if p0 = (16 : Int32) then 1 else if p0 = (17 : Int32) then 1 else if p0 = (18 : Int32) then if (f_X7_isType p1) = (0 : Int32) then 0 else if (f_X7_widthOf p1) = (1 : Int32) then 1 else 0 else if p0 = (20 : Int32) then if (f_X7_isType p1) = (0 : Int32) then 0 else if (f_X7_widthOf p1) = (2 : Int32) then 1 else 0 else if p0 = (178 : Int32) then if p1 < (0 : Int32) then 0 else if (0 : Int32) ≤ p1 then 0 else 1 else if p0 = (179 : Int32) then if p1 < (0 : Int32) then 0 else if (0 : Int32) ≤ p1 then 0 else 1 else if p0 = (180 : Int32) then if p1 < (0 : Int32) then 0 else if (0 : Int32) ≤ p1 then 0 else 1 else if p0 = (181 : Int32) then if p1 < (0 : Int32) then 0 else if (0 : Int32) ≤ p1 then 0 else 1 else if p0 = (182 : Int32) then if p1 < (0 : Int32) then 0 else if (0 : Int32) ≤ p1 then 0 else 1 else if p0 = (183 : Int32) then if p1 < (0 : Int32) then 0 else if (0 : Int32) ≤ p1 then 0 else 1 else if p0 = (184 : Int32) then if p1 < (0 : Int32) then 0 else if (0 : Int32) ≤ p1 then 0 else 1 else if p0 = (185 : Int32) then if p1 < (0 : Int32) then 0 else if (0 : Int32) ≤ p1 then 0 else 1 else if p0 = (186 : Int32) then if p1 < (0 : Int32) then 0 else if (0 : Int32) ≤ p1 then 0 else 1 else if p0 = (187 : Int32) then (f_X7_isClass p1) else if p0 = (188 : Int32) then if p1 < (0 : Int32) then 0 else if (7 : Int32) < p1 then 0 else 1 else if p0 = (189 : Int32) then if (f_X7_isReference p1) = (0 : Int32) then 0 else if (255 : Int32) ≤ (f_X7_dimensionsOf p1) then 0 else 1 else if p0 = (192 : Int32) then (f_X7_isReference p1) else if p0 = (193 : Int32) then (f_X7_isReference p1) else if (f_X0_isOpcode p0) = (0 : Int32) then 0 else if p1 = (0 : Int32) then 1 else if p1 ≤ (0 : Int32) then 0 else if (f_X0_isOfLocal p0) = (0 : Int32) then if (f_X0_isJump p0) = (0 : Int32) then 0 else 1 else 1
theorem b_X8_isOperand (p0 : Int32) (p1 : Int32) : x_nb (f_X8_isOperand p0 p1) := (x_ite rfl (x_ite rfl (x_ite (x_ite rfl (x_ite rfl rfl)) (x_ite (x_ite rfl (x_ite rfl rfl)) (x_ite (x_ite rfl (x_ite rfl rfl)) (x_ite (x_ite rfl (x_ite rfl rfl)) (x_ite (x_ite rfl (x_ite rfl rfl)) (x_ite (x_ite rfl (x_ite rfl rfl)) (x_ite (x_ite rfl (x_ite rfl rfl)) (x_ite (x_ite rfl (x_ite rfl rfl)) (x_ite (x_ite rfl (x_ite rfl rfl)) (x_ite (x_ite rfl (x_ite rfl rfl)) (x_ite (x_ite rfl (x_ite rfl rfl)) (x_ite (b_X7_isClass p1) (x_ite (x_ite rfl (x_ite rfl rfl)) (x_ite (x_ite rfl (x_ite rfl rfl)) (x_ite (b_X7_isReference p1) (x_ite (b_X7_isReference p1) (x_ite rfl (x_ite rfl (x_ite rfl (x_ite (x_ite rfl rfl) rfl))))))))))))))))))))))
theorem i_X8_isOperand_X4 : ∀ w ∈ wsX40, w ∈ wsX8_isOperand := by decide +kernel
theorem i_X8_isOperand_X8 : ∀ w ∈ wsX80, w ∈ wsX8_isOperand := by decide +kernel
set_option maxHeartbeats 4000000 in
set_option maxRecDepth 100000 in
theorem c_X8_isOperand (l : Launch) (dC : Nat → ClassId) (dI : Nat → Nat → Nat) (cyI cyZ cyJ : ClassId) (sz : Nat) (h0 : Nat) (t0 : Nat) (m0 : Nat) (c0 : Nat) (x0 : Nat) (f0 : Nat) (w0 : Nat) (th1 : Nat) (th2 : Nat) (ma0 : Nat) (ma1 : Nat) (ma3 : Nat) (ma4 : Nat) (ma5 : Nat) (ma6 : Nat) (ma7 : Nat) (p0 : Int32) (p1 : Int32) : Met l yX8_isOperand wsX8_isOperand ({ frames := 3, cells := 0, slots := 0, locals := 63 }) (va_Pc [.ref h0, .int p0, .int p1] (x_Pre (dC, dI) (x_T cyI cyZ cyJ) [(h0, .inr (8, [.ref t0, .ref m0, .ref c0, .ref x0, .ref f0, .ref w0])), (t0, .inr (7, [.ref th1, .ref th2, .int 4])), (m0, .inr (4, [.ref ma0, .ref ma1, .int 0, .ref ma3, .ref ma4, .ref ma5, .ref ma6, .ref ma7, .int 0]))] sz)) (va_Qi (fun (r : Int32) (_ : Unit) => r = f_X8_isOperand p0 p1) (fun _ _ => True) (x_new sz)) 0 0 (x_new sz) := by
  refine Met.ofW (cc := cX8_isOperand) (maxL := 3) (ret := (some .boolean)) (by decide) rfl ?_
  intro p e s m args below meth c s₁ B hml hv
  obtain ⟨rfl, hsz, hP, hK, hN⟩ := hv
  have hx := B.exec
  have hb := B.bytes
  have hr := B.returns
  have hts := atoms_spec (ws := wsX8_isOperand) B.pre
  have hown : s.vm.findClass RX8 = some m.cls := findClass_of_methodNamed B.named
  have hlocks := B.notSynchronized
  have k_1 := hts (.fieldLink RX8 10 "FlowJudge" "types" "LFlowJudge$Types;") (by decide +kernel)
  have k_2 := hts (.fieldLink RX8 19 "FlowJudge" "members" "LFlowJudge$Members;") (by decide +kernel)
  subst hsz
  have hA : ∀ q : Nat, s.heap.size ≤ q → x_new s.heap.size q := fun _ h => h
  have hS : va_S (x_new s.heap.size) s.heap s.heap [] := va_S.rf
  have hP : va_P (dC, dI) vwCl [(h0, .inr (8, [.ref t0, .ref m0, .ref c0, .ref x0, .ref f0, .ref w0])), (t0, .inr (7, [.ref th1, .ref th2, .int 4])), (m0, .inr (4, [.ref ma0, .ref ma1, .int 0, .ref ma3, .ref ma4, .ref ma5, .ref ma6, .ref ma7, .int 0]))] s.heap := hP
  have hl := lv_entry ([.ref h0, .int p0, .int p1]) (n := 3) (Nat.le_of_ble_eq_true rfl)
  rw [lg_entry_eq]
  generalize (lg_sl ([.ref h0, .int p0, .int p1]) ++ List.replicate (3 - (lg_sl ([.ref h0, .int p0, .int p1])).length) Slot.unset).toArray = ls at hl ⊢
  have hl : lv_has ls 3 [(0, .ref h0), (1, .int p0), (2, .int p1)] := hl
  obtain ⟨H, hH⟩ : ∃ z, z = s.heap := ⟨_, rfl⟩
  refine x_here hH ?_
  have hP : va_P (dC, dI) vwCl [(h0, .inr (8, [.ref t0, .ref m0, .ref c0, .ref x0, .ref f0, .ref w0])), (t0, .inr (7, [.ref th1, .ref th2, .int 4])), (m0, .inr (4, [.ref ma0, .ref ma1, .int 0, .ref ma3, .ref ma4, .ref ma5, .ref ma6, .ref ma7, .int 0]))] H := by rw [hH]; exact hP
  have hS : va_S (x_new s.heap.size) s.heap H [] := by rw [hH]; exact va_S.rf
  clear hH
  refine lv_iload_n hx hb dX8_isOperand_0 rfl (lv_at hl 1 rfl) ?_
  rcases Classical.em (p0 = 16) with c_1 | c_1
  · refine lv_lookup (off := 155) (tgt := 156) hx hb dX8_isOperand_1 (by decide) (by rw [c_1]; decide) (by decide) ?_
    refine lv_iconst (v := 1) hx hb dX8_isOperand_156 (by decide) ?_
    exact W.zret (ty := .boolean) hx hb hr rfl (fun t ht hW => ⟨⟨_, (), rfl, by rw [f_X8_isOperand, if_pos c_1], trivial⟩, hS.F ht⟩) hS.2.2 dX8_isOperand_157
  rcases Classical.em (p0 = 17) with c_2 | c_2
  · refine lv_lookup (off := 155) (tgt := 156) hx hb dX8_isOperand_1 (by decide) (by rw [c_2]; decide) (by decide) ?_
    refine lv_iconst (v := 1) hx hb dX8_isOperand_156 (by decide) ?_
    exact W.zret (ty := .boolean) hx hb hr rfl (fun t ht hW => ⟨⟨_, (), rfl, by rw [f_X8_isOperand, if_neg c_1, if_pos c_2], trivial⟩, hS.F ht⟩) hS.2.2 dX8_isOperand_157
  rcases Classical.em (p0 = 18) with c_3 | c_3
  · refine lv_lookup (off := 157) (tgt := 158) hx hb dX8_isOperand_1 (by decide) (by rw [c_3]; decide) (by decide) ?_
    refine lv_aload_n hx hb dX8_isOperand_158 rfl (lv_at hl 0 rfl) ?_
    refine va_get (D := (dC, dI)) (ci := 8) (v := .ref t0) (C := RX8) (T := TX8) (N := 6) hx hb hts i_X8_isOperand_X8 hown hK hP 0 rfl rfl 0 (by decide) k_1 (fun _ h9 => h9) rfl dX8_isOperand_159 ?_
    refine lv_iload_n hx hb dX8_isOperand_162 rfl (lv_at hl 2 rfl) ?_
    have hPc := hP.sub (ws' := [(t0, .inr (7, [.ref th1, .ref th2, .int 4]))]) [1] rfl
    refine va_calli (va_runV (As := [.int p1]) (rest := []) ⟨hx, hb, hml, hown, hts⟩ (c_X7_isType l dC dI cyI cyZ cyJ H.size t0 th1 th2 p1) (cwV 1 hts gX8_isOperand_X7_isType rfl rfl rfl (by decide +kernel) ⟨Nat.le_of_ble_eq_true rfl, Nat.le_of_ble_eq_true rfl⟩) (x_pV hN hK hPc (ci := 7) (q0 := 0) rfl rfl) rfl rfl hl.1 rfl (lv_room (Nat.le_of_ble_eq_true rfl)) dX8_isOperand_163 ⟨Nat.le_of_ble_eq_true rfl, Nat.le_of_ble_eq_true rfl⟩) hS x_nA (x_nf hA hS) (fun r_163 u t H1 locs ht hvm hw hB hz1 hk1 hS => ?_)
    have hP := x_kp hP hk1
    clear ht hvm hB hz1 hk1 t u hPc
    generalize H1 = H at hP hS ⊢
    obtain rfl := hw
    refine lv_if_eq (tgt := 181) hx hb dX8_isOperand_166 (by decide) (fun c_4 => ?_) (fun c_4 => ?_)
    · skip
      refine lv_iconst (v := 0) hx hb dX8_isOperand_181 (by decide) ?_
      exact W.zret (ty := .boolean) hx hb hr rfl (fun t ht hW => ⟨⟨_, (), rfl, by rw [f_X8_isOperand, if_neg c_1, if_neg c_2, if_pos c_3, if_pos c_4], trivial⟩, hS.F ht⟩) hS.2.2 dX8_isOperand_182
    · skip
      refine lv_iload_n hx hb dX8_isOperand_169 rfl (lv_at hl 2 rfl) ?_
      have hPc := hP.sub (ws' := []) [] rfl
      refine va_calli (va_runS (As := [.int p1]) (rest := []) ⟨hx, hb, hml, hown, hts⟩ (c_X7_widthOf l dC dI cyI cyZ cyJ H.size p1) (va_cwS 1 hts gX8_isOperand_X7_widthOf rfl rfl rfl (by decide +kernel) ⟨Nat.le_of_ble_eq_true rfl, Nat.le_of_ble_eq_true rfl⟩) (x_pS hN hK hPc) rfl rfl hl.1 rfl (lv_room (Nat.le_of_ble_eq_true rfl)) dX8_isOperand_170 ⟨Nat.le_of_ble_eq_true rfl, Nat.le_of_ble_eq_true rfl⟩) hS x_nA (x_nf hA hS) (fun r_170 u t H1 locs ht hvm hw hB hz1 hk1 hS => ?_)
      have hP := x_kp hP hk1
      clear ht hvm hB hz1 hk1 t u hPc
      generalize H1 = H at hP hS ⊢
      obtain rfl := hw
      refine lv_iconst (v := 1) hx hb dX8_isOperand_173 (by decide) ?_
      refine lv_icmp_ne (tgt := 181) hx hb dX8_isOperand_174 (by decide) (fun c_5 => ?_) (fun c_5 => ?_)
      · skip
        refine lv_iconst (v := 0) hx hb dX8_isOperand_181 (by decide) ?_
        exact W.zret (ty := .boolean) hx hb hr rfl (fun t ht hW => ⟨⟨_, (), rfl, by rw [f_X8_isOperand, if_neg c_1, if_neg c_2, if_pos c_3, if_neg c_4, if_neg c_5], trivial⟩, hS.F ht⟩) hS.2.2 dX8_isOperand_182
      · skip
        refine lv_iconst (v := 1) hx hb dX8_isOperand_177 (by decide) ?_
        refine lv_goto (tgt := 182) hx hb dX8_isOperand_178 (by decide) ?_
        exact W.zret (ty := .boolean) hx hb hr rfl (fun t ht hW => ⟨⟨_, (), rfl, by rw [f_X8_isOperand, if_neg c_1, if_neg c_2, if_pos c_3, if_neg c_4, if_pos c_5], trivial⟩, hS.F ht⟩) hS.2.2 dX8_isOperand_182
  rcases Classical.em (p0 = 20) with c_6 | c_6
  · refine lv_lookup (off := 182) (tgt := 183) hx hb dX8_isOperand_1 (by decide) (by rw [c_6]; decide) (by decide) ?_
    refine lv_aload_n hx hb dX8_isOperand_183 rfl (lv_at hl 0 rfl) ?_
    refine va_get (D := (dC, dI)) (ci := 8) (v := .ref t0) (C := RX8) (T := TX8) (N := 6) hx hb hts i_X8_isOperand_X8 hown hK hP 0 rfl rfl 0 (by decide) k_1 (fun _ h9 => h9) rfl dX8_isOperand_184 ?_
    refine lv_iload_n hx hb dX8_isOperand_187 rfl (lv_at hl 2 rfl) ?_
    have hPc := hP.sub (ws' := [(t0, .inr (7, [.ref th1, .ref th2, .int 4]))]) [1] rfl
    refine va_calli (va_runV (As := [.int p1]) (rest := []) ⟨hx, hb, hml, hown, hts⟩ (c_X7_isType l dC dI cyI cyZ cyJ H.size t0 th1 th2 p1) (cwV 1 hts gX8_isOperand_X7_isType rfl rfl rfl (by decide +kernel) ⟨Nat.le_of_ble_eq_true rfl, Nat.le_of_ble_eq_true rfl⟩) (x_pV hN hK hPc (ci := 7) (q0 := 0) rfl rfl) rfl rfl hl.1 rfl (lv_room (Nat.le_of_ble_eq_true rfl)) dX8_isOperand_188 ⟨Nat.le_of_ble_eq_true rfl, Nat.le_of_ble_eq_true rfl⟩) hS x_nA (x_nf hA hS) (fun r_188 u t H1 locs ht hvm hw hB hz1 hk1 hS => ?_)
    have hP := x_kp hP hk1
    clear ht hvm hB hz1 hk1 t u hPc
    generalize H1 = H at hP hS ⊢
    obtain rfl := hw
    refine lv_if_eq (tgt := 206) hx hb dX8_isOperand_191 (by decide) (fun c_7 => ?_) (fun c_7 => ?_)
    · skip
      refine lv_iconst (v := 0) hx hb dX8_isOperand_206 (by decide) ?_
      exact W.zret (ty := .boolean) hx hb hr rfl (fun t ht hW => ⟨⟨_, (), rfl, by rw [f_X8_isOperand, if_neg c_1, if_neg c_2, if_neg c_3, if_pos c_6, if_pos c_7], trivial⟩, hS.F ht⟩) hS.2.2 dX8_isOperand_207
    · skip
      refine lv_iload_n hx hb dX8_isOperand_194 rfl (lv_at hl 2 rfl) ?_
      have hPc := hP.sub (ws' := []) [] rfl
      refine va_calli (va_runS (As := [.int p1]) (rest := []) ⟨hx, hb, hml, hown, hts⟩ (c_X7_widthOf l dC dI cyI cyZ cyJ H.size p1) (va_cwS 1 hts gX8_isOperand_X7_widthOf rfl rfl rfl (by decide +kernel) ⟨Nat.le_of_ble_eq_true rfl, Nat.le_of_ble_eq_true rfl⟩) (x_pS hN hK hPc) rfl rfl hl.1 rfl (lv_room (Nat.le_of_ble_eq_true rfl)) dX8_isOperand_195 ⟨Nat.le_of_ble_eq_true rfl, Nat.le_of_ble_eq_true rfl⟩) hS x_nA (x_nf hA hS) (fun r_195 u t H1 locs ht hvm hw hB hz1 hk1 hS => ?_)
      have hP := x_kp hP hk1
      clear ht hvm hB hz1 hk1 t u hPc
      generalize H1 = H at hP hS ⊢
      obtain rfl := hw
      refine lv_iconst (v := 2) hx hb dX8_isOperand_198 (by decide) ?_
      refine lv_icmp_ne (tgt := 206) hx hb dX8_isOperand_199 (by decide) (fun c_8 => ?_) (fun c_8 => ?_)
      · skip
        refine lv_iconst (v := 0) hx hb dX8_isOperand_206 (by decide) ?_
        exact W.zret (ty := .boolean) hx hb hr rfl (fun t ht hW => ⟨⟨_, (), rfl, by rw [f_X8_isOperand, if_neg c_1, if_neg c_2, if_neg c_3, if_pos c_6, if_neg c_7, if_neg c_8], trivial⟩, hS.F ht⟩) hS.2.2 dX8_isOperand_207
      · skip
        refine lv_iconst (v := 1) hx hb dX8_isOperand_202 (by decide) ?_
        refine lv_goto (tgt := 207) hx hb dX8_isOperand_203 (by decide) ?_
        exact W.zret (ty := .boolean) hx hb hr rfl (fun t ht hW => ⟨⟨_, (), rfl, by rw [f_X8_isOperand, if_neg c_1, if_neg c_2, if_neg c_3, if_pos c_6, if_neg c_7, if_pos c_8], trivial⟩, hS.F ht⟩) hS.2.2 dX8_isOperand_207
  rcases Classical.em (p0 = 178) with c_9 | c_9
  · refine lv_lookup (off := 207) (tgt := 208) hx hb dX8_isOperand_1 (by decide) (by rw [c_9]; decide) (by decide) ?_
    refine lv_iload_n hx hb dX8_isOperand_208 rfl (lv_at hl 2 rfl) ?_
    refine lv_if_lt (tgt := 227) hx hb dX8_isOperand_209 (by decide) (fun c_10 => ?_) (fun c_10 => ?_)
    · skip
      refine lv_iconst (v := 0) hx hb dX8_isOperand_227 (by decide) ?_
      exact W.zret (ty := .boolean) hx hb hr rfl (fun t ht hW => ⟨⟨_, (), rfl, by rw [f_X8_isOperand, if_neg c_1, if_neg c_2, if_neg c_3, if_neg c_6, if_pos c_9, if_pos c_10], trivial⟩, hS.F ht⟩) hS.2.2 dX8_isOperand_228
    · skip
      refine lv_iload_n hx hb dX8_isOperand_212 rfl (lv_at hl 2 rfl) ?_
      refine lv_aload_n hx hb dX8_isOperand_213 rfl (lv_at hl 0 rfl) ?_
      refine va_get (D := (dC, dI)) (ci := 8) (v := .ref m0) (C := RX8) (T := TX8) (N := 6) hx hb hts i_X8_isOperand_X8 hown hK hP 0 rfl rfl 1 (by decide) k_2 (fun _ h9 => h9) rfl dX8_isOperand_214 ?_
      refine va_getN (D := (dC, dI)) (ci := 4) (v := .int 0) (C := RX4) (T := TX4) (N := 9) hx hb hts i_X8_isOperand_X4 hown hK hP 2 rfl rfl 2 (by decide) ((hN.1 (88, "FlowJudge$Members", "fieldCount", "I") (by decide)).use rfl) (fun _ h9 => h9) rfl dX8_isOperand_217 ?_
      refine lv_icmp_ge (tgt := 227) hx hb dX8_isOperand_220 (by decide) (fun c_11 => ?_) (fun c_11 => ?_)
      · skip
        refine lv_iconst (v := 0) hx hb dX8_isOperand_227 (by decide) ?_
        exact W.zret (ty := .boolean) hx hb hr rfl (fun t ht hW => ⟨⟨_, (), rfl, by rw [f_X8_isOperand, if_neg c_1, if_neg c_2, if_neg c_3, if_neg c_6, if_pos c_9, if_neg c_10, if_pos c_11], trivial⟩, hS.F ht⟩) hS.2.2 dX8_isOperand_228
      · skip
        refine lv_iconst (v := 1) hx hb dX8_isOperand_223 (by decide) ?_
        refine lv_goto (tgt := 228) hx hb dX8_isOperand_224 (by decide) ?_
        exact W.zret (ty := .boolean) hx hb hr rfl (fun t ht hW => ⟨⟨_, (), rfl, by rw [f_X8_isOperand, if_neg c_1, if_neg c_2, if_neg c_3, if_neg c_6, if_pos c_9, if_neg c_10, if_neg c_11], trivial⟩, hS.F ht⟩) hS.2.2 dX8_isOperand_228
  rcases Classical.em (p0 = 179) with c_12 | c_12
  · refine lv_lookup (off := 207) (tgt := 208) hx hb dX8_isOperand_1 (by decide) (by rw [c_12]; decide) (by decide) ?_
    refine lv_iload_n hx hb dX8_isOperand_208 rfl (lv_at hl 2 rfl) ?_
    refine lv_if_lt (tgt := 227) hx hb dX8_isOperand_209 (by decide) (fun c_13 => ?_) (fun c_13 => ?_)
    · skip
      refine lv_iconst (v := 0) hx hb dX8_isOperand_227 (by decide) ?_
      exact W.zret (ty := .boolean) hx hb hr rfl (fun t ht hW => ⟨⟨_, (), rfl, by rw [f_X8_isOperand, if_neg c_1, if_neg c_2, if_neg c_3, if_neg c_6, if_neg c_9, if_pos c_12, if_pos c_13], trivial⟩, hS.F ht⟩) hS.2.2 dX8_isOperand_228
    · skip
      refine lv_iload_n hx hb dX8_isOperand_212 rfl (lv_at hl 2 rfl) ?_
      refine lv_aload_n hx hb dX8_isOperand_213 rfl (lv_at hl 0 rfl) ?_
      refine va_get (D := (dC, dI)) (ci := 8) (v := .ref m0) (C := RX8) (T := TX8) (N := 6) hx hb hts i_X8_isOperand_X8 hown hK hP 0 rfl rfl 1 (by decide) k_2 (fun _ h9 => h9) rfl dX8_isOperand_214 ?_
      refine va_getN (D := (dC, dI)) (ci := 4) (v := .int 0) (C := RX4) (T := TX4) (N := 9) hx hb hts i_X8_isOperand_X4 hown hK hP 2 rfl rfl 2 (by decide) ((hN.1 (88, "FlowJudge$Members", "fieldCount", "I") (by decide)).use rfl) (fun _ h9 => h9) rfl dX8_isOperand_217 ?_
      refine lv_icmp_ge (tgt := 227) hx hb dX8_isOperand_220 (by decide) (fun c_14 => ?_) (fun c_14 => ?_)
      · skip
        refine lv_iconst (v := 0) hx hb dX8_isOperand_227 (by decide) ?_
        exact W.zret (ty := .boolean) hx hb hr rfl (fun t ht hW => ⟨⟨_, (), rfl, by rw [f_X8_isOperand, if_neg c_1, if_neg c_2, if_neg c_3, if_neg c_6, if_neg c_9, if_pos c_12, if_neg c_13, if_pos c_14], trivial⟩, hS.F ht⟩) hS.2.2 dX8_isOperand_228
      · skip
        refine lv_iconst (v := 1) hx hb dX8_isOperand_223 (by decide) ?_
        refine lv_goto (tgt := 228) hx hb dX8_isOperand_224 (by decide) ?_
        exact W.zret (ty := .boolean) hx hb hr rfl (fun t ht hW => ⟨⟨_, (), rfl, by rw [f_X8_isOperand, if_neg c_1, if_neg c_2, if_neg c_3, if_neg c_6, if_neg c_9, if_pos c_12, if_neg c_13, if_neg c_14], trivial⟩, hS.F ht⟩) hS.2.2 dX8_isOperand_228
  rcases Classical.em (p0 = 180) with c_15 | c_15
  · refine lv_lookup (off := 207) (tgt := 208) hx hb dX8_isOperand_1 (by decide) (by rw [c_15]; decide) (by decide) ?_
    refine lv_iload_n hx hb dX8_isOperand_208 rfl (lv_at hl 2 rfl) ?_
    refine lv_if_lt (tgt := 227) hx hb dX8_isOperand_209 (by decide) (fun c_16 => ?_) (fun c_16 => ?_)
    · skip
      refine lv_iconst (v := 0) hx hb dX8_isOperand_227 (by decide) ?_
      exact W.zret (ty := .boolean) hx hb hr rfl (fun t ht hW => ⟨⟨_, (), rfl, by rw [f_X8_isOperand, if_neg c_1, if_neg c_2, if_neg c_3, if_neg c_6, if_neg c_9, if_neg c_12, if_pos c_15, if_pos c_16], trivial⟩, hS.F ht⟩) hS.2.2 dX8_isOperand_228
    · skip
      refine lv_iload_n hx hb dX8_isOperand_212 rfl (lv_at hl 2 rfl) ?_
      refine lv_aload_n hx hb dX8_isOperand_213 rfl (lv_at hl 0 rfl) ?_
      refine va_get (D := (dC, dI)) (ci := 8) (v := .ref m0) (C := RX8) (T := TX8) (N := 6) hx hb hts i_X8_isOperand_X8 hown hK hP 0 rfl rfl 1 (by decide) k_2 (fun _ h9 => h9) rfl dX8_isOperand_214 ?_
      refine va_getN (D := (dC, dI)) (ci := 4) (v := .int 0) (C := RX4) (T := TX4) (N := 9) hx hb hts i_X8_isOperand_X4 hown hK hP 2 rfl rfl 2 (by decide) ((hN.1 (88, "FlowJudge$Members", "fieldCount", "I") (by decide)).use rfl) (fun _ h9 => h9) rfl dX8_isOperand_217 ?_
      refine lv_icmp_ge (tgt := 227) hx hb dX8_isOperand_220 (by decide) (fun c_17 => ?_) (fun c_17 => ?_)
      · skip
        refine lv_iconst (v := 0) hx hb dX8_isOperand_227 (by decide) ?_
        exact W.zret (ty := .boolean) hx hb hr rfl (fun t ht hW => ⟨⟨_, (), rfl, by rw [f_X8_isOperand, if_neg c_1, if_neg c_2, if_neg c_3, if_neg c_6, if_neg c_9, if_neg c_12, if_pos c_15, if_neg c_16, if_pos c_17], trivial⟩, hS.F ht⟩) hS.2.2 dX8_isOperand_228
      · skip
        refine lv_iconst (v := 1) hx hb dX8_isOperand_223 (by decide) ?_
        refine lv_goto (tgt := 228) hx hb dX8_isOperand_224 (by decide) ?_
        exact W.zret (ty := .boolean) hx hb hr rfl (fun t ht hW => ⟨⟨_, (), rfl, by rw [f_X8_isOperand, if_neg c_1, if_neg c_2, if_neg c_3, if_neg c_6, if_neg c_9, if_neg c_12, if_pos c_15, if_neg c_16, if_neg c_17], trivial⟩, hS.F ht⟩) hS.2.2 dX8_isOperand_228
  rcases Classical.em (p0 = 181) with c_18 | c_18
  · refine lv_lookup (off := 207) (tgt := 208) hx hb dX8_isOperand_1 (by decide) (by rw [c_18]; decide) (by decide) ?_
    refine lv_iload_n hx hb dX8_isOperand_208 rfl (lv_at hl 2 rfl) ?_
    refine lv_if_lt (tgt := 227) hx hb dX8_isOperand_209 (by decide) (fun c_19 => ?_) (fun c_19 => ?_)
    · skip
      refine lv_iconst (v := 0) hx hb dX8_isOperand_227 (by decide) ?_
      exact W.zret (ty := .boolean) hx hb hr rfl (fun t ht hW => ⟨⟨_, (), rfl, by rw [f_X8_isOperand, if_neg c_1, if_neg c_2, if_neg c_3, if_neg c_6, if_neg c_9, if_neg c_12, if_neg c_15, if_pos c_18, if_pos c_19], trivial⟩, hS.F ht⟩) hS.2.2 dX8_isOperand_228
    · skip
      refine lv_iload_n hx hb dX8_isOperand_212 rfl (lv_at hl 2 rfl) ?_
      refine lv_aload_n hx hb dX8_isOperand_213 rfl (lv_at hl 0 rfl) ?_
      refine va_get (D := (dC, dI)) (ci := 8) (v := .ref m0) (C := RX8) (T := TX8) (N := 6) hx hb hts i_X8_isOperand_X8 hown hK hP 0 rfl rfl 1 (by decide) k_2 (fun _ h9 => h9) rfl dX8_isOperand_214 ?_
      refine va_getN (D := (dC, dI)) (ci := 4) (v := .int 0) (C := RX4) (T := TX4) (N := 9) hx hb hts i_X8_isOperand_X4 hown hK hP 2 rfl rfl 2 (by decide) ((hN.1 (88, "FlowJudge$Members", "fieldCount", "I") (by decide)).use rfl) (fun _ h9 => h9) rfl dX8_isOperand_217 ?_
      refine lv_icmp_ge (tgt := 227) hx hb dX8_isOperand_220 (by decide) (fun c_20 => ?_) (fun c_20 => ?_)
      · skip
        refine lv_iconst (v := 0) hx hb dX8_isOperand_227 (by decide) ?_
        exact W.zret (ty := .boolean) hx hb hr rfl (fun t ht hW => ⟨⟨_, (), rfl, by rw [f_X8_isOperand, if_neg c_1, if_neg c_2, if_neg c_3, if_neg c_6, if_neg c_9, if_neg c_12, if_neg c_15, if_pos c_18, if_neg c_19, if_pos c_20], trivial⟩, hS.F ht⟩) hS.2.2 dX8_isOperand_228
      · skip
        refine lv_iconst (v := 1) hx hb dX8_isOperand_223 (by decide) ?_
        refine lv_goto (tgt := 228) hx hb dX8_isOperand_224 (by decide) ?_
        exact W.zret (ty := .boolean) hx hb hr rfl (fun t ht hW => ⟨⟨_, (), rfl, by rw [f_X8_isOperand, if_neg c_1, if_neg c_2, if_neg c_3, if_neg c_6, if_neg c_9, if_neg c_12, if_neg c_15, if_pos c_18, if_neg c_19, if_neg c_20], trivial⟩, hS.F ht⟩) hS.2.2 dX8_isOperand_228
  rcases Classical.em (p0 = 182) with c_21 | c_21
  · refine lv_lookup (off := 228) (tgt := 229) hx hb dX8_isOperand_1 (by decide) (by rw [c_21]; decide) (by decide) ?_
    refine lv_iload_n hx hb dX8_isOperand_229 rfl (lv_at hl 2 rfl) ?_
    refine lv_if_lt (tgt := 248) hx hb dX8_isOperand_230 (by decide) (fun c_22 => ?_) (fun c_22 => ?_)
    · skip
      refine lv_iconst (v := 0) hx hb dX8_isOperand_248 (by decide) ?_
      exact W.zret (ty := .boolean) hx hb hr rfl (fun t ht hW => ⟨⟨_, (), rfl, by rw [f_X8_isOperand, if_neg c_1, if_neg c_2, if_neg c_3, if_neg c_6, if_neg c_9, if_neg c_12, if_neg c_15, if_neg c_18, if_pos c_21, if_pos c_22], trivial⟩, hS.F ht⟩) hS.2.2 dX8_isOperand_249
    · skip
      refine lv_iload_n hx hb dX8_isOperand_233 rfl (lv_at hl 2 rfl) ?_
      refine lv_aload_n hx hb dX8_isOperand_234 rfl (lv_at hl 0 rfl) ?_
      refine va_get (D := (dC, dI)) (ci := 8) (v := .ref m0) (C := RX8) (T := TX8) (N := 6) hx hb hts i_X8_isOperand_X8 hown hK hP 0 rfl rfl 1 (by decide) k_2 (fun _ h9 => h9) rfl dX8_isOperand_235 ?_
      refine va_getN (D := (dC, dI)) (ci := 4) (v := .int 0) (C := RX4) (T := TX4) (N := 9) hx hb hts i_X8_isOperand_X4 hown hK hP 2 rfl rfl 8 (by decide) ((hN.1 (104, "FlowJudge$Members", "shapeCount", "I") (by decide)).use rfl) (fun _ h9 => h9) rfl dX8_isOperand_238 ?_
      refine lv_icmp_ge (tgt := 248) hx hb dX8_isOperand_241 (by decide) (fun c_23 => ?_) (fun c_23 => ?_)
      · skip
        refine lv_iconst (v := 0) hx hb dX8_isOperand_248 (by decide) ?_
        exact W.zret (ty := .boolean) hx hb hr rfl (fun t ht hW => ⟨⟨_, (), rfl, by rw [f_X8_isOperand, if_neg c_1, if_neg c_2, if_neg c_3, if_neg c_6, if_neg c_9, if_neg c_12, if_neg c_15, if_neg c_18, if_pos c_21, if_neg c_22, if_pos c_23], trivial⟩, hS.F ht⟩) hS.2.2 dX8_isOperand_249
      · skip
        refine lv_iconst (v := 1) hx hb dX8_isOperand_244 (by decide) ?_
        refine lv_goto (tgt := 249) hx hb dX8_isOperand_245 (by decide) ?_
        exact W.zret (ty := .boolean) hx hb hr rfl (fun t ht hW => ⟨⟨_, (), rfl, by rw [f_X8_isOperand, if_neg c_1, if_neg c_2, if_neg c_3, if_neg c_6, if_neg c_9, if_neg c_12, if_neg c_15, if_neg c_18, if_pos c_21, if_neg c_22, if_neg c_23], trivial⟩, hS.F ht⟩) hS.2.2 dX8_isOperand_249
  rcases Classical.em (p0 = 183) with c_24 | c_24
  · refine lv_lookup (off := 228) (tgt := 229) hx hb dX8_isOperand_1 (by decide) (by rw [c_24]; decide) (by decide) ?_
    refine lv_iload_n hx hb dX8_isOperand_229 rfl (lv_at hl 2 rfl) ?_
    refine lv_if_lt (tgt := 248) hx hb dX8_isOperand_230 (by decide) (fun c_25 => ?_) (fun c_25 => ?_)
    · skip
      refine lv_iconst (v := 0) hx hb dX8_isOperand_248 (by decide) ?_
      exact W.zret (ty := .boolean) hx hb hr rfl (fun t ht hW => ⟨⟨_, (), rfl, by rw [f_X8_isOperand, if_neg c_1, if_neg c_2, if_neg c_3, if_neg c_6, if_neg c_9, if_neg c_12, if_neg c_15, if_neg c_18, if_neg c_21, if_pos c_24, if_pos c_25], trivial⟩, hS.F ht⟩) hS.2.2 dX8_isOperand_249
    · skip
      refine lv_iload_n hx hb dX8_isOperand_233 rfl (lv_at hl 2 rfl) ?_
      refine lv_aload_n hx hb dX8_isOperand_234 rfl (lv_at hl 0 rfl) ?_
      refine va_get (D := (dC, dI)) (ci := 8) (v := .ref m0) (C := RX8) (T := TX8) (N := 6) hx hb hts i_X8_isOperand_X8 hown hK hP 0 rfl rfl 1 (by decide) k_2 (fun _ h9 => h9) rfl dX8_isOperand_235 ?_
      refine va_getN (D := (dC, dI)) (ci := 4) (v := .int 0) (C := RX4) (T := TX4) (N := 9) hx hb hts i_X8_isOperand_X4 hown hK hP 2 rfl rfl 8 (by decide) ((hN.1 (104, "FlowJudge$Members", "shapeCount", "I") (by decide)).use rfl) (fun _ h9 => h9) rfl dX8_isOperand_238 ?_
      refine lv_icmp_ge (tgt := 248) hx hb dX8_isOperand_241 (by decide) (fun c_26 => ?_) (fun c_26 => ?_)
      · skip
        refine lv_iconst (v := 0) hx hb dX8_isOperand_248 (by decide) ?_
        exact W.zret (ty := .boolean) hx hb hr rfl (fun t ht hW => ⟨⟨_, (), rfl, by rw [f_X8_isOperand, if_neg c_1, if_neg c_2, if_neg c_3, if_neg c_6, if_neg c_9, if_neg c_12, if_neg c_15, if_neg c_18, if_neg c_21, if_pos c_24, if_neg c_25, if_pos c_26], trivial⟩, hS.F ht⟩) hS.2.2 dX8_isOperand_249
      · skip
        refine lv_iconst (v := 1) hx hb dX8_isOperand_244 (by decide) ?_
        refine lv_goto (tgt := 249) hx hb dX8_isOperand_245 (by decide) ?_
        exact W.zret (ty := .boolean) hx hb hr rfl (fun t ht hW => ⟨⟨_, (), rfl, by rw [f_X8_isOperand, if_neg c_1, if_neg c_2, if_neg c_3, if_neg c_6, if_neg c_9, if_neg c_12, if_neg c_15, if_neg c_18, if_neg c_21, if_pos c_24, if_neg c_25, if_neg c_26], trivial⟩, hS.F ht⟩) hS.2.2 dX8_isOperand_249
  rcases Classical.em (p0 = 184) with c_27 | c_27
  · refine lv_lookup (off := 228) (tgt := 229) hx hb dX8_isOperand_1 (by decide) (by rw [c_27]; decide) (by decide) ?_
    refine lv_iload_n hx hb dX8_isOperand_229 rfl (lv_at hl 2 rfl) ?_
    refine lv_if_lt (tgt := 248) hx hb dX8_isOperand_230 (by decide) (fun c_28 => ?_) (fun c_28 => ?_)
    · skip
      refine lv_iconst (v := 0) hx hb dX8_isOperand_248 (by decide) ?_
      exact W.zret (ty := .boolean) hx hb hr rfl (fun t ht hW => ⟨⟨_, (), rfl, by rw [f_X8_isOperand, if_neg c_1, if_neg c_2, if_neg c_3, if_neg c_6, if_neg c_9, if_neg c_12, if_neg c_15, if_neg c_18, if_neg c_21, if_neg c_24, if_pos c_27, if_pos c_28], trivial⟩, hS.F ht⟩) hS.2.2 dX8_isOperand_249
    · skip
      refine lv_iload_n hx hb dX8_isOperand_233 rfl (lv_at hl 2 rfl) ?_
      refine lv_aload_n hx hb dX8_isOperand_234 rfl (lv_at hl 0 rfl) ?_
      refine va_get (D := (dC, dI)) (ci := 8) (v := .ref m0) (C := RX8) (T := TX8) (N := 6) hx hb hts i_X8_isOperand_X8 hown hK hP 0 rfl rfl 1 (by decide) k_2 (fun _ h9 => h9) rfl dX8_isOperand_235 ?_
      refine va_getN (D := (dC, dI)) (ci := 4) (v := .int 0) (C := RX4) (T := TX4) (N := 9) hx hb hts i_X8_isOperand_X4 hown hK hP 2 rfl rfl 8 (by decide) ((hN.1 (104, "FlowJudge$Members", "shapeCount", "I") (by decide)).use rfl) (fun _ h9 => h9) rfl dX8_isOperand_238 ?_
      refine lv_icmp_ge (tgt := 248) hx hb dX8_isOperand_241 (by decide) (fun c_29 => ?_) (fun c_29 => ?_)
      · skip
        refine lv_iconst (v := 0) hx hb dX8_isOperand_248 (by decide) ?_
        exact W.zret (ty := .boolean) hx hb hr rfl (fun t ht hW => ⟨⟨_, (), rfl, by rw [f_X8_isOperand, if_neg c_1, if_neg c_2, if_neg c_3, if_neg c_6, if_neg c_9, if_neg c_12, if_neg c_15, if_neg c_18, if_neg c_21, if_neg c_24, if_pos c_27, if_neg c_28, if_pos c_29], trivial⟩, hS.F ht⟩) hS.2.2 dX8_isOperand_249
      · skip
        refine lv_iconst (v := 1) hx hb dX8_isOperand_244 (by decide) ?_
        refine lv_goto (tgt := 249) hx hb dX8_isOperand_245 (by decide) ?_
        exact W.zret (ty := .boolean) hx hb hr rfl (fun t ht hW => ⟨⟨_, (), rfl, by rw [f_X8_isOperand, if_neg c_1, if_neg c_2, if_neg c_3, if_neg c_6, if_neg c_9, if_neg c_12, if_neg c_15, if_neg c_18, if_neg c_21, if_neg c_24, if_pos c_27, if_neg c_28, if_neg c_29], trivial⟩, hS.F ht⟩) hS.2.2 dX8_isOperand_249
  rcases Classical.em (p0 = 185) with c_30 | c_30
  · refine lv_lookup (off := 228) (tgt := 229) hx hb dX8_isOperand_1 (by decide) (by rw [c_30]; decide) (by decide) ?_
    refine lv_iload_n hx hb dX8_isOperand_229 rfl (lv_at hl 2 rfl) ?_
    refine lv_if_lt (tgt := 248) hx hb dX8_isOperand_230 (by decide) (fun c_31 => ?_) (fun c_31 => ?_)
    · skip
      refine lv_iconst (v := 0) hx hb dX8_isOperand_248 (by decide) ?_
      exact W.zret (ty := .boolean) hx hb hr rfl (fun t ht hW => ⟨⟨_, (), rfl, by rw [f_X8_isOperand, if_neg c_1, if_neg c_2, if_neg c_3, if_neg c_6, if_neg c_9, if_neg c_12, if_neg c_15, if_neg c_18, if_neg c_21, if_neg c_24, if_neg c_27, if_pos c_30, if_pos c_31], trivial⟩, hS.F ht⟩) hS.2.2 dX8_isOperand_249
    · skip
      refine lv_iload_n hx hb dX8_isOperand_233 rfl (lv_at hl 2 rfl) ?_
      refine lv_aload_n hx hb dX8_isOperand_234 rfl (lv_at hl 0 rfl) ?_
      refine va_get (D := (dC, dI)) (ci := 8) (v := .ref m0) (C := RX8) (T := TX8) (N := 6) hx hb hts i_X8_isOperand_X8 hown hK hP 0 rfl rfl 1 (by decide) k_2 (fun _ h9 => h9) rfl dX8_isOperand_235 ?_
      refine va_getN (D := (dC, dI)) (ci := 4) (v := .int 0) (C := RX4) (T := TX4) (N := 9) hx hb hts i_X8_isOperand_X4 hown hK hP 2 rfl rfl 8 (by decide) ((hN.1 (104, "FlowJudge$Members", "shapeCount", "I") (by decide)).use rfl) (fun _ h9 => h9) rfl dX8_isOperand_238 ?_
      refine lv_icmp_ge (tgt := 248) hx hb dX8_isOperand_241 (by decide) (fun c_32 => ?_) (fun c_32 => ?_)
      · skip
        refine lv_iconst (v := 0) hx hb dX8_isOperand_248 (by decide) ?_
        exact W.zret (ty := .boolean) hx hb hr rfl (fun t ht hW => ⟨⟨_, (), rfl, by rw [f_X8_isOperand, if_neg c_1, if_neg c_2, if_neg c_3, if_neg c_6, if_neg c_9, if_neg c_12, if_neg c_15, if_neg c_18, if_neg c_21, if_neg c_24, if_neg c_27, if_pos c_30, if_neg c_31, if_pos c_32], trivial⟩, hS.F ht⟩) hS.2.2 dX8_isOperand_249
      · skip
        refine lv_iconst (v := 1) hx hb dX8_isOperand_244 (by decide) ?_
        refine lv_goto (tgt := 249) hx hb dX8_isOperand_245 (by decide) ?_
        exact W.zret (ty := .boolean) hx hb hr rfl (fun t ht hW => ⟨⟨_, (), rfl, by rw [f_X8_isOperand, if_neg c_1, if_neg c_2, if_neg c_3, if_neg c_6, if_neg c_9, if_neg c_12, if_neg c_15, if_neg c_18, if_neg c_21, if_neg c_24, if_neg c_27, if_pos c_30, if_neg c_31, if_neg c_32], trivial⟩, hS.F ht⟩) hS.2.2 dX8_isOperand_249
  rcases Classical.em (p0 = 186) with c_33 | c_33
  · refine lv_lookup (off := 228) (tgt := 229) hx hb dX8_isOperand_1 (by decide) (by rw [c_33]; decide) (by decide) ?_
    refine lv_iload_n hx hb dX8_isOperand_229 rfl (lv_at hl 2 rfl) ?_
    refine lv_if_lt (tgt := 248) hx hb dX8_isOperand_230 (by decide) (fun c_34 => ?_) (fun c_34 => ?_)
    · skip
      refine lv_iconst (v := 0) hx hb dX8_isOperand_248 (by decide) ?_
      exact W.zret (ty := .boolean) hx hb hr rfl (fun t ht hW => ⟨⟨_, (), rfl, by rw [f_X8_isOperand, if_neg c_1, if_neg c_2, if_neg c_3, if_neg c_6, if_neg c_9, if_neg c_12, if_neg c_15, if_neg c_18, if_neg c_21, if_neg c_24, if_neg c_27, if_neg c_30, if_pos c_33, if_pos c_34], trivial⟩, hS.F ht⟩) hS.2.2 dX8_isOperand_249
    · skip
      refine lv_iload_n hx hb dX8_isOperand_233 rfl (lv_at hl 2 rfl) ?_
      refine lv_aload_n hx hb dX8_isOperand_234 rfl (lv_at hl 0 rfl) ?_
      refine va_get (D := (dC, dI)) (ci := 8) (v := .ref m0) (C := RX8) (T := TX8) (N := 6) hx hb hts i_X8_isOperand_X8 hown hK hP 0 rfl rfl 1 (by decide) k_2 (fun _ h9 => h9) rfl dX8_isOperand_235 ?_
      refine va_getN (D := (dC, dI)) (ci := 4) (v := .int 0) (C := RX4) (T := TX4) (N := 9) hx hb hts i_X8_isOperand_X4 hown hK hP 2 rfl rfl 8 (by decide) ((hN.1 (104, "FlowJudge$Members", "shapeCount", "I") (by decide)).use rfl) (fun _ h9 => h9) rfl dX8_isOperand_238 ?_
      refine lv_icmp_ge (tgt := 248) hx hb dX8_isOperand_241 (by decide) (fun c_35 => ?_) (fun c_35 => ?_)
      · skip
        refine lv_iconst (v := 0) hx hb dX8_isOperand_248 (by decide) ?_
        exact W.zret (ty := .boolean) hx hb hr rfl (fun t ht hW => ⟨⟨_, (), rfl, by rw [f_X8_isOperand, if_neg c_1, if_neg c_2, if_neg c_3, if_neg c_6, if_neg c_9, if_neg c_12, if_neg c_15, if_neg c_18, if_neg c_21, if_neg c_24, if_neg c_27, if_neg c_30, if_pos c_33, if_neg c_34, if_pos c_35], trivial⟩, hS.F ht⟩) hS.2.2 dX8_isOperand_249
      · skip
        refine lv_iconst (v := 1) hx hb dX8_isOperand_244 (by decide) ?_
        refine lv_goto (tgt := 249) hx hb dX8_isOperand_245 (by decide) ?_
        exact W.zret (ty := .boolean) hx hb hr rfl (fun t ht hW => ⟨⟨_, (), rfl, by rw [f_X8_isOperand, if_neg c_1, if_neg c_2, if_neg c_3, if_neg c_6, if_neg c_9, if_neg c_12, if_neg c_15, if_neg c_18, if_neg c_21, if_neg c_24, if_neg c_27, if_neg c_30, if_pos c_33, if_neg c_34, if_neg c_35], trivial⟩, hS.F ht⟩) hS.2.2 dX8_isOperand_249
  rcases Classical.em (p0 = 187) with c_36 | c_36
  · refine lv_lookup (off := 249) (tgt := 250) hx hb dX8_isOperand_1 (by decide) (by rw [c_36]; decide) (by decide) ?_
    refine lv_aload_n hx hb dX8_isOperand_250 rfl (lv_at hl 0 rfl) ?_
    refine va_get (D := (dC, dI)) (ci := 8) (v := .ref t0) (C := RX8) (T := TX8) (N := 6) hx hb hts i_X8_isOperand_X8 hown hK hP 0 rfl rfl 0 (by decide) k_1 (fun _ h9 => h9) rfl dX8_isOperand_251 ?_
    refine lv_iload_n hx hb dX8_isOperand_254 rfl (lv_at hl 2 rfl) ?_
    have hPc := hP.sub (ws' := [(t0, .inr (7, [.ref th1, .ref th2, .int 4]))]) [1] rfl
    refine va_calli (va_runV (As := [.int p1]) (rest := []) ⟨hx, hb, hml, hown, hts⟩ (c_X7_isClass l dC dI cyI cyZ cyJ H.size t0 th1 th2 p1) (cwV 1 hts gX8_isOperand_X7_isClass rfl rfl rfl (by decide +kernel) ⟨Nat.le_of_ble_eq_true rfl, Nat.le_of_ble_eq_true rfl⟩) (x_pV hN hK hPc (ci := 7) (q0 := 0) rfl rfl) rfl rfl hl.1 rfl (lv_room (Nat.le_of_ble_eq_true rfl)) dX8_isOperand_255 ⟨Nat.le_of_ble_eq_true rfl, Nat.le_of_ble_eq_true rfl⟩) hS x_nA (x_nf hA hS) (fun r_255 u t H1 locs ht hvm hw hB hz1 hk1 hS => ?_)
    have hP := x_kp hP hk1
    clear ht hvm hB hz1 hk1 t u hPc
    generalize H1 = H at hP hS ⊢
    obtain rfl := hw
    exact W.zret (ty := .boolean) hx hb hr (b_X7_isClass p1) (fun t ht hW => ⟨⟨_, (), rfl, by rw [f_X8_isOperand, if_neg c_1, if_neg c_2, if_neg c_3, if_neg c_6, if_neg c_9, if_neg c_12, if_neg c_15, if_neg c_18, if_neg c_21, if_neg c_24, if_neg c_27, if_neg c_30, if_neg c_33, if_pos c_36], trivial⟩, hS.F ht⟩) hS.2.2 dX8_isOperand_258
  rcases Classical.em (p0 = 188) with c_37 | c_37
  · refine lv_lookup (off := 258) (tgt := 259) hx hb dX8_isOperand_1 (by decide) (by rw [c_37]; decide) (by decide) ?_
    refine lv_iload_n hx hb dX8_isOperand_259 rfl (lv_at hl 2 rfl) ?_
    refine lv_if_lt (tgt := 273) hx hb dX8_isOperand_260 (by decide) (fun c_38 => ?_) (fun c_38 => ?_)
    · skip
      refine lv_iconst (v := 0) hx hb dX8_isOperand_273 (by decide) ?_
      exact W.zret (ty := .boolean) hx hb hr rfl (fun t ht hW => ⟨⟨_, (), rfl, by rw [f_X8_isOperand, if_neg c_1, if_neg c_2, if_neg c_3, if_neg c_6, if_neg c_9, if_neg c_12, if_neg c_15, if_neg c_18, if_neg c_21, if_neg c_24, if_neg c_27, if_neg c_30, if_neg c_33, if_neg c_36, if_pos c_37, if_pos c_38], trivial⟩, hS.F ht⟩) hS.2.2 dX8_isOperand_274
    · skip
      refine lv_iload_n hx hb dX8_isOperand_263 rfl (lv_at hl 2 rfl) ?_
      refine lv_bipush (v := 7) hx hb dX8_isOperand_264 (by decide) ?_
      refine lv_icmp_gt (tgt := 273) hx hb dX8_isOperand_266 (by decide) (fun c_39 => ?_) (fun c_39 => ?_)
      · skip
        refine lv_iconst (v := 0) hx hb dX8_isOperand_273 (by decide) ?_
        exact W.zret (ty := .boolean) hx hb hr rfl (fun t ht hW => ⟨⟨_, (), rfl, by rw [f_X8_isOperand, if_neg c_1, if_neg c_2, if_neg c_3, if_neg c_6, if_neg c_9, if_neg c_12, if_neg c_15, if_neg c_18, if_neg c_21, if_neg c_24, if_neg c_27, if_neg c_30, if_neg c_33, if_neg c_36, if_pos c_37, if_neg c_38, if_pos c_39], trivial⟩, hS.F ht⟩) hS.2.2 dX8_isOperand_274
      · skip
        refine lv_iconst (v := 1) hx hb dX8_isOperand_269 (by decide) ?_
        refine lv_goto (tgt := 274) hx hb dX8_isOperand_270 (by decide) ?_
        exact W.zret (ty := .boolean) hx hb hr rfl (fun t ht hW => ⟨⟨_, (), rfl, by rw [f_X8_isOperand, if_neg c_1, if_neg c_2, if_neg c_3, if_neg c_6, if_neg c_9, if_neg c_12, if_neg c_15, if_neg c_18, if_neg c_21, if_neg c_24, if_neg c_27, if_neg c_30, if_neg c_33, if_neg c_36, if_pos c_37, if_neg c_38, if_neg c_39], trivial⟩, hS.F ht⟩) hS.2.2 dX8_isOperand_274
  rcases Classical.em (p0 = 189) with c_40 | c_40
  · refine lv_lookup (off := 274) (tgt := 275) hx hb dX8_isOperand_1 (by decide) (by rw [c_40]; decide) (by decide) ?_
    refine lv_aload_n hx hb dX8_isOperand_275 rfl (lv_at hl 0 rfl) ?_
    refine va_get (D := (dC, dI)) (ci := 8) (v := .ref t0) (C := RX8) (T := TX8) (N := 6) hx hb hts i_X8_isOperand_X8 hown hK hP 0 rfl rfl 0 (by decide) k_1 (fun _ h9 => h9) rfl dX8_isOperand_276 ?_
    refine lv_iload_n hx hb dX8_isOperand_279 rfl (lv_at hl 2 rfl) ?_
    have hPc := hP.sub (ws' := [(t0, .inr (7, [.ref th1, .ref th2, .int 4]))]) [1] rfl
    refine va_calli (va_runV (As := [.int p1]) (rest := []) ⟨hx, hb, hml, hown, hts⟩ (c_X7_isReference l dC dI cyI cyZ cyJ H.size t0 th1 th2 p1) (cwV 1 hts gX8_isOperand_X7_isReference rfl rfl rfl (by decide +kernel) ⟨Nat.le_of_ble_eq_true rfl, Nat.le_of_ble_eq_true rfl⟩) (x_pV hN hK hPc (ci := 7) (q0 := 0) rfl rfl) rfl rfl hl.1 rfl (lv_room (Nat.le_of_ble_eq_true rfl)) dX8_isOperand_280 ⟨Nat.le_of_ble_eq_true rfl, Nat.le_of_ble_eq_true rfl⟩) hS x_nA (x_nf hA hS) (fun r_280 u t H1 locs ht hvm hw hB hz1 hk1 hS => ?_)
    have hP := x_kp hP hk1
    clear ht hvm hB hz1 hk1 t u hPc
    generalize H1 = H at hP hS ⊢
    obtain rfl := hw
    refine lv_if_eq (tgt := 300) hx hb dX8_isOperand_283 (by decide) (fun c_41 => ?_) (fun c_41 => ?_)
    · skip
      refine lv_iconst (v := 0) hx hb dX8_isOperand_300 (by decide) ?_
      exact W.zret (ty := .boolean) hx hb hr rfl (fun t ht hW => ⟨⟨_, (), rfl, by rw [f_X8_isOperand, if_neg c_1, if_neg c_2, if_neg c_3, if_neg c_6, if_neg c_9, if_neg c_12, if_neg c_15, if_neg c_18, if_neg c_21, if_neg c_24, if_neg c_27, if_neg c_30, if_neg c_33, if_neg c_36, if_neg c_37, if_pos c_40, if_pos c_41], trivial⟩, hS.F ht⟩) hS.2.2 dX8_isOperand_301
    · skip
      refine lv_iload_n hx hb dX8_isOperand_286 rfl (lv_at hl 2 rfl) ?_
      have hPc := hP.sub (ws' := []) [] rfl
      refine va_calli (va_runS (As := [.int p1]) (rest := []) ⟨hx, hb, hml, hown, hts⟩ (c_X7_dimensionsOf l dC dI cyI cyZ cyJ H.size p1) (va_cwS 1 hts gX8_isOperand_X7_dimensionsOf rfl rfl rfl (by decide +kernel) ⟨Nat.le_of_ble_eq_true rfl, Nat.le_of_ble_eq_true rfl⟩) (x_pS hN hK hPc) rfl rfl hl.1 rfl (lv_room (Nat.le_of_ble_eq_true rfl)) dX8_isOperand_287 ⟨Nat.le_of_ble_eq_true rfl, Nat.le_of_ble_eq_true rfl⟩) hS x_nA (x_nf hA hS) (fun r_287 u t H1 locs ht hvm hw hB hz1 hk1 hS => ?_)
      have hP := x_kp hP hk1
      clear ht hvm hB hz1 hk1 t u hPc
      generalize H1 = H at hP hS ⊢
      obtain rfl := hw
      refine lv_sipush (v := 255) hx hb dX8_isOperand_290 (by decide) ?_
      refine lv_icmp_ge (tgt := 300) hx hb dX8_isOperand_293 (by decide) (fun c_42 => ?_) (fun c_42 => ?_)
      · skip
        refine lv_iconst (v := 0) hx hb dX8_isOperand_300 (by decide) ?_
        exact W.zret (ty := .boolean) hx hb hr rfl (fun t ht hW => ⟨⟨_, (), rfl, by rw [f_X8_isOperand, if_neg c_1, if_neg c_2, if_neg c_3, if_neg c_6, if_neg c_9, if_neg c_12, if_neg c_15, if_neg c_18, if_neg c_21, if_neg c_24, if_neg c_27, if_neg c_30, if_neg c_33, if_neg c_36, if_neg c_37, if_pos c_40, if_neg c_41, if_pos c_42], trivial⟩, hS.F ht⟩) hS.2.2 dX8_isOperand_301
      · skip
        refine lv_iconst (v := 1) hx hb dX8_isOperand_296 (by decide) ?_
        refine lv_goto (tgt := 301) hx hb dX8_isOperand_297 (by decide) ?_
        exact W.zret (ty := .boolean) hx hb hr rfl (fun t ht hW => ⟨⟨_, (), rfl, by rw [f_X8_isOperand, if_neg c_1, if_neg c_2, if_neg c_3, if_neg c_6, if_neg c_9, if_neg c_12, if_neg c_15, if_neg c_18, if_neg c_21, if_neg c_24, if_neg c_27, if_neg c_30, if_neg c_33, if_neg c_36, if_neg c_37, if_pos c_40, if_neg c_41, if_neg c_42], trivial⟩, hS.F ht⟩) hS.2.2 dX8_isOperand_301
  rcases Classical.em (p0 = 192) with c_43 | c_43
  · refine lv_lookup (off := 301) (tgt := 302) hx hb dX8_isOperand_1 (by decide) (by rw [c_43]; decide) (by decide) ?_
    refine lv_aload_n hx hb dX8_isOperand_302 rfl (lv_at hl 0 rfl) ?_
    refine va_get (D := (dC, dI)) (ci := 8) (v := .ref t0) (C := RX8) (T := TX8) (N := 6) hx hb hts i_X8_isOperand_X8 hown hK hP 0 rfl rfl 0 (by decide) k_1 (fun _ h9 => h9) rfl dX8_isOperand_303 ?_
    refine lv_iload_n hx hb dX8_isOperand_306 rfl (lv_at hl 2 rfl) ?_
    have hPc := hP.sub (ws' := [(t0, .inr (7, [.ref th1, .ref th2, .int 4]))]) [1] rfl
    refine va_calli (va_runV (As := [.int p1]) (rest := []) ⟨hx, hb, hml, hown, hts⟩ (c_X7_isReference l dC dI cyI cyZ cyJ H.size t0 th1 th2 p1) (cwV 1 hts gX8_isOperand_X7_isReference rfl rfl rfl (by decide +kernel) ⟨Nat.le_of_ble_eq_true rfl, Nat.le_of_ble_eq_true rfl⟩) (x_pV hN hK hPc (ci := 7) (q0 := 0) rfl rfl) rfl rfl hl.1 rfl (lv_room (Nat.le_of_ble_eq_true rfl)) dX8_isOperand_307 ⟨Nat.le_of_ble_eq_true rfl, Nat.le_of_ble_eq_true rfl⟩) hS x_nA (x_nf hA hS) (fun r_307 u t H1 locs ht hvm hw hB hz1 hk1 hS => ?_)
    have hP := x_kp hP hk1
    clear ht hvm hB hz1 hk1 t u hPc
    generalize H1 = H at hP hS ⊢
    obtain rfl := hw
    exact W.zret (ty := .boolean) hx hb hr (b_X7_isReference p1) (fun t ht hW => ⟨⟨_, (), rfl, by rw [f_X8_isOperand, if_neg c_1, if_neg c_2, if_neg c_3, if_neg c_6, if_neg c_9, if_neg c_12, if_neg c_15, if_neg c_18, if_neg c_21, if_neg c_24, if_neg c_27, if_neg c_30, if_neg c_33, if_neg c_36, if_neg c_37, if_neg c_40, if_pos c_43], trivial⟩, hS.F ht⟩) hS.2.2 dX8_isOperand_310
  rcases Classical.em (p0 = 193) with c_44 | c_44
  · refine lv_lookup (off := 301) (tgt := 302) hx hb dX8_isOperand_1 (by decide) (by rw [c_44]; decide) (by decide) ?_
    refine lv_aload_n hx hb dX8_isOperand_302 rfl (lv_at hl 0 rfl) ?_
    refine va_get (D := (dC, dI)) (ci := 8) (v := .ref t0) (C := RX8) (T := TX8) (N := 6) hx hb hts i_X8_isOperand_X8 hown hK hP 0 rfl rfl 0 (by decide) k_1 (fun _ h9 => h9) rfl dX8_isOperand_303 ?_
    refine lv_iload_n hx hb dX8_isOperand_306 rfl (lv_at hl 2 rfl) ?_
    have hPc := hP.sub (ws' := [(t0, .inr (7, [.ref th1, .ref th2, .int 4]))]) [1] rfl
    refine va_calli (va_runV (As := [.int p1]) (rest := []) ⟨hx, hb, hml, hown, hts⟩ (c_X7_isReference l dC dI cyI cyZ cyJ H.size t0 th1 th2 p1) (cwV 1 hts gX8_isOperand_X7_isReference rfl rfl rfl (by decide +kernel) ⟨Nat.le_of_ble_eq_true rfl, Nat.le_of_ble_eq_true rfl⟩) (x_pV hN hK hPc (ci := 7) (q0 := 0) rfl rfl) rfl rfl hl.1 rfl (lv_room (Nat.le_of_ble_eq_true rfl)) dX8_isOperand_307 ⟨Nat.le_of_ble_eq_true rfl, Nat.le_of_ble_eq_true rfl⟩) hS x_nA (x_nf hA hS) (fun r_307 u t H1 locs ht hvm hw hB hz1 hk1 hS => ?_)
    have hP := x_kp hP hk1
    clear ht hvm hB hz1 hk1 t u hPc
    generalize H1 = H at hP hS ⊢
    obtain rfl := hw
    exact W.zret (ty := .boolean) hx hb hr (b_X7_isReference p1) (fun t ht hW => ⟨⟨_, (), rfl, by rw [f_X8_isOperand, if_neg c_1, if_neg c_2, if_neg c_3, if_neg c_6, if_neg c_9, if_neg c_12, if_neg c_15, if_neg c_18, if_neg c_21, if_neg c_24, if_neg c_27, if_neg c_30, if_neg c_33, if_neg c_36, if_neg c_37, if_neg c_40, if_neg c_43, if_pos c_44], trivial⟩, hS.F ht⟩) hS.2.2 dX8_isOperand_310
  refine lv_lookup (off := 310) (tgt := 311) hx hb dX8_isOperand_1 (by decide) ((lv_osw (k := 16) c_1 (by decide)).trans ((lv_osw (k := 17) c_2 (by decide)).trans ((lv_osw (k := 18) c_3 (by decide)).trans ((lv_osw (k := 20) c_6 (by decide)).trans ((lv_osw (k := 178) c_9 (by decide)).trans ((lv_osw (k := 179) c_12 (by decide)).trans ((lv_osw (k := 180) c_15 (by decide)).trans ((lv_osw (k := 181) c_18 (by decide)).trans ((lv_osw (k := 182) c_21 (by decide)).trans ((lv_osw (k := 183) c_24 (by decide)).trans ((lv_osw (k := 184) c_27 (by decide)).trans ((lv_osw (k := 185) c_30 (by decide)).trans ((lv_osw (k := 186) c_33 (by decide)).trans ((lv_osw (k := 187) c_36 (by decide)).trans ((lv_osw (k := 188) c_37 (by decide)).trans ((lv_osw (k := 189) c_40 (by decide)).trans ((lv_osw (k := 192) c_43 (by decide)).trans ((lv_osw (k := 193) c_44 (by decide)).trans rfl)))))))))))))))))) (by decide) ?_
  refine lv_iload_n hx hb dX8_isOperand_311 rfl (lv_at hl 1 rfl) ?_
  have hPc := hP.sub (ws' := []) [] rfl
  refine va_calli (va_runS (As := [.int p0]) (rest := []) ⟨hx, hb, hml, hown, hts⟩ (c_X0_isOpcode l dC dI cyI cyZ cyJ H.size p0) (va_cwS 1 hts gX8_isOperand_X0_isOpcode rfl rfl rfl (by decide +kernel) ⟨Nat.le_of_ble_eq_true rfl, Nat.le_of_ble_eq_true rfl⟩) (x_pS hN hK hPc) rfl rfl hl.1 rfl (lv_room (Nat.le_of_ble_eq_true rfl)) dX8_isOperand_312 ⟨Nat.le_of_ble_eq_true rfl, Nat.le_of_ble_eq_true rfl⟩) hS x_nA (x_nf hA hS) (fun r_312 u t H1 locs ht hvm hw hB hz1 hk1 hS => ?_)
  have hP := x_kp hP hk1
  clear ht hvm hB hz1 hk1 t u hPc
  generalize H1 = H at hP hS ⊢
  obtain rfl := hw
  refine lv_if_eq (tgt := 344) hx hb dX8_isOperand_315 (by decide) (fun c_45 => ?_) (fun c_45 => ?_)
  · skip
    refine lv_iconst (v := 0) hx hb dX8_isOperand_344 (by decide) ?_
    exact W.zret (ty := .boolean) hx hb hr rfl (fun t ht hW => ⟨⟨_, (), rfl, by rw [f_X8_isOperand, if_neg c_1, if_neg c_2, if_neg c_3, if_neg c_6, if_neg c_9, if_neg c_12, if_neg c_15, if_neg c_18, if_neg c_21, if_neg c_24, if_neg c_27, if_neg c_30, if_neg c_33, if_neg c_36, if_neg c_37, if_neg c_40, if_neg c_43, if_neg c_44, if_pos c_45], trivial⟩, hS.F ht⟩) hS.2.2 dX8_isOperand_345
  · skip
    refine lv_iload_n hx hb dX8_isOperand_318 rfl (lv_at hl 2 rfl) ?_
    refine lv_if_eq (tgt := 340) hx hb dX8_isOperand_319 (by decide) (fun c_46 => ?_) (fun c_46 => ?_)
    · skip
      refine lv_iconst (v := 1) hx hb dX8_isOperand_340 (by decide) ?_
      refine lv_goto (tgt := 345) hx hb dX8_isOperand_341 (by decide) ?_
      exact W.zret (ty := .boolean) hx hb hr rfl (fun t ht hW => ⟨⟨_, (), rfl, by rw [f_X8_isOperand, if_neg c_1, if_neg c_2, if_neg c_3, if_neg c_6, if_neg c_9, if_neg c_12, if_neg c_15, if_neg c_18, if_neg c_21, if_neg c_24, if_neg c_27, if_neg c_30, if_neg c_33, if_neg c_36, if_neg c_37, if_neg c_40, if_neg c_43, if_neg c_44, if_neg c_45, if_pos c_46], trivial⟩, hS.F ht⟩) hS.2.2 dX8_isOperand_345
    · skip
      refine lv_iload_n hx hb dX8_isOperand_322 rfl (lv_at hl 2 rfl) ?_
      refine lv_if_le (tgt := 344) hx hb dX8_isOperand_323 (by decide) (fun c_47 => ?_) (fun c_47 => ?_)
      · skip
        refine lv_iconst (v := 0) hx hb dX8_isOperand_344 (by decide) ?_
        exact W.zret (ty := .boolean) hx hb hr rfl (fun t ht hW => ⟨⟨_, (), rfl, by rw [f_X8_isOperand, if_neg c_1, if_neg c_2, if_neg c_3, if_neg c_6, if_neg c_9, if_neg c_12, if_neg c_15, if_neg c_18, if_neg c_21, if_neg c_24, if_neg c_27, if_neg c_30, if_neg c_33, if_neg c_36, if_neg c_37, if_neg c_40, if_neg c_43, if_neg c_44, if_neg c_45, if_neg c_46, if_pos c_47], trivial⟩, hS.F ht⟩) hS.2.2 dX8_isOperand_345
      · skip
        refine lv_iload_n hx hb dX8_isOperand_326 rfl (lv_at hl 1 rfl) ?_
        have hPc := hP.sub (ws' := []) [] rfl
        refine va_calli (va_runS (As := [.int p0]) (rest := []) ⟨hx, hb, hml, hown, hts⟩ (c_X0_isOfLocal l dC dI cyI cyZ cyJ H.size p0) (va_cwS 1 hts gX8_isOperand_X0_isOfLocal rfl rfl rfl (by decide +kernel) ⟨Nat.le_of_ble_eq_true rfl, Nat.le_of_ble_eq_true rfl⟩) (x_pS hN hK hPc) rfl rfl hl.1 rfl (lv_room (Nat.le_of_ble_eq_true rfl)) dX8_isOperand_327 ⟨Nat.le_of_ble_eq_true rfl, Nat.le_of_ble_eq_true rfl⟩) hS x_nA (x_nf hA hS) (fun r_327 u t H1 locs ht hvm hw hB hz1 hk1 hS => ?_)
        have hP := x_kp hP hk1
        clear ht hvm hB hz1 hk1 t u hPc
        generalize H1 = H at hP hS ⊢
        obtain rfl := hw
        refine lv_if_ne (tgt := 340) hx hb dX8_isOperand_330 (by decide) (fun c_48 => ?_) (fun c_48 => ?_)
        · skip
          refine lv_iconst (v := 1) hx hb dX8_isOperand_340 (by decide) ?_
          refine lv_goto (tgt := 345) hx hb dX8_isOperand_341 (by decide) ?_
          exact W.zret (ty := .boolean) hx hb hr rfl (fun t ht hW => ⟨⟨_, (), rfl, by rw [f_X8_isOperand, if_neg c_1, if_neg c_2, if_neg c_3, if_neg c_6, if_neg c_9, if_neg c_12, if_neg c_15, if_neg c_18, if_neg c_21, if_neg c_24, if_neg c_27, if_neg c_30, if_neg c_33, if_neg c_36, if_neg c_37, if_neg c_40, if_neg c_43, if_neg c_44, if_neg c_45, if_neg c_46, if_neg c_47, if_neg c_48], trivial⟩, hS.F ht⟩) hS.2.2 dX8_isOperand_345
        · skip
          refine lv_iload_n hx hb dX8_isOperand_333 rfl (lv_at hl 1 rfl) ?_
          have hPc := hP.sub (ws' := []) [] rfl
          refine va_calli (va_runS (As := [.int p0]) (rest := []) ⟨hx, hb, hml, hown, hts⟩ (c_X0_isJump l dC dI cyI cyZ cyJ H.size p0) (va_cwS 1 hts gX8_isOperand_X0_isJump rfl rfl rfl (by decide +kernel) ⟨Nat.le_of_ble_eq_true rfl, Nat.le_of_ble_eq_true rfl⟩) (x_pS hN hK hPc) rfl rfl hl.1 rfl (lv_room (Nat.le_of_ble_eq_true rfl)) dX8_isOperand_334 ⟨Nat.le_of_ble_eq_true rfl, Nat.le_of_ble_eq_true rfl⟩) hS x_nA (x_nf hA hS) (fun r_334 u t H1 locs ht hvm hw hB hz1 hk1 hS => ?_)
          have hP := x_kp hP hk1
          clear ht hvm hB hz1 hk1 t u hPc
          generalize H1 = H at hP hS ⊢
          obtain rfl := hw
          refine lv_if_eq (tgt := 344) hx hb dX8_isOperand_337 (by decide) (fun c_49 => ?_) (fun c_49 => ?_)
          · skip
            refine lv_iconst (v := 0) hx hb dX8_isOperand_344 (by decide) ?_
            exact W.zret (ty := .boolean) hx hb hr rfl (fun t ht hW => ⟨⟨_, (), rfl, by rw [f_X8_isOperand, if_neg c_1, if_neg c_2, if_neg c_3, if_neg c_6, if_neg c_9, if_neg c_12, if_neg c_15, if_neg c_18, if_neg c_21, if_neg c_24, if_neg c_27, if_neg c_30, if_neg c_33, if_neg c_36, if_neg c_37, if_neg c_40, if_neg c_43, if_neg c_44, if_neg c_45, if_neg c_46, if_neg c_47, if_pos c_48, if_pos c_49], trivial⟩, hS.F ht⟩) hS.2.2 dX8_isOperand_345
          · skip
            refine lv_iconst (v := 1) hx hb dX8_isOperand_340 (by decide) ?_
            refine lv_goto (tgt := 345) hx hb dX8_isOperand_341 (by decide) ?_
            exact W.zret (ty := .boolean) hx hb hr rfl (fun t ht hW => ⟨⟨_, (), rfl, by rw [f_X8_isOperand, if_neg c_1, if_neg c_2, if_neg c_3, if_neg c_6, if_neg c_9, if_neg c_12, if_neg c_15, if_neg c_18, if_neg c_21, if_neg c_24, if_neg c_27, if_neg c_30, if_neg c_33, if_neg c_36, if_neg c_37, if_neg c_40, if_neg c_43, if_neg c_44, if_neg c_45, if_neg c_46, if_neg c_47, if_pos c_48, if_neg c_49], trivial⟩, hS.F ht⟩) hS.2.2 dX8_isOperand_345

def f_X8_isInstruction (p0 : Int32) (p1 : Int32) (p2 : Int32) : Int32 := if p0 = (132 : Int32) then if p1 < (0 : Int32) then 0 else 1 else if p0 = (197 : Int32) then if (f_X7_isReference p1) = (0 : Int32) then 0 else if p2 < (1 : Int32) then 0 else if (f_X7_dimensionsOf p1) < p2 then 0 else 1 else if p2 = (0 : Int32) then if (f_X8_isOperand p0 p1) = (0 : Int32) then 0 else 1 else 0
theorem b_X8_isInstruction (p0 : Int32) (p1 : Int32) (p2 : Int32) : x_nb (f_X8_isInstruction p0 p1 p2) := (x_ite (x_ite rfl rfl) (x_ite (x_ite rfl (x_ite rfl (x_ite rfl rfl))) (x_ite (x_ite rfl rfl) rfl)))
theorem i_X8_isInstruction_X8 : ∀ w ∈ wsX80, w ∈ wsX8_isInstruction := by decide +kernel
set_option maxHeartbeats 4000000 in
set_option maxRecDepth 100000 in
theorem c_X8_isInstruction (l : Launch) (dC : Nat → ClassId) (dI : Nat → Nat → Nat) (cyI cyZ cyJ : ClassId) (sz : Nat) (h0 : Nat) (t0 : Nat) (m0 : Nat) (c0 : Nat) (x0 : Nat) (f0 : Nat) (w0 : Nat) (th1 : Nat) (th2 : Nat) (ma0 : Nat) (ma1 : Nat) (ma3 : Nat) (ma4 : Nat) (ma5 : Nat) (ma6 : Nat) (ma7 : Nat) (p0 : Int32) (p1 : Int32) (p2 : Int32) : Met l yX8_isInstruction wsX8_isInstruction ({ frames := 4, cells := 0, slots := 0, locals := 85 }) (va_Pc [.ref h0, .int p0, .int p1, .int p2] (x_Pre (dC, dI) (x_T cyI cyZ cyJ) [(h0, .inr (8, [.ref t0, .ref m0, .ref c0, .ref x0, .ref f0, .ref w0])), (t0, .inr (7, [.ref th1, .ref th2, .int 4])), (m0, .inr (4, [.ref ma0, .ref ma1, .int 0, .ref ma3, .ref ma4, .ref ma5, .ref ma6, .ref ma7, .int 0]))] sz)) (va_Qi (fun (r : Int32) (_ : Unit) => r = f_X8_isInstruction p0 p1 p2) (fun _ _ => True) (x_new sz)) 0 0 (x_new sz) := by
  refine Met.ofW (cc := cX8_isInstruction) (maxL := 4) (ret := (some .boolean)) (by decide) rfl ?_
  intro p e s m args below meth c s₁ B hml hv
  obtain ⟨rfl, hsz, hP, hK, hN⟩ := hv
  have hx := B.exec
  have hb := B.bytes
  have hr := B.returns
  have hts := atoms_spec (ws := wsX8_isInstruction) B.pre
  have hown : s.vm.findClass RX8 = some m.cls := findClass_of_methodNamed B.named
  have hlocks := B.notSynchronized
  have k_1 := hts (.fieldLink RX8 10 "FlowJudge" "types" "LFlowJudge$Types;") (by decide +kernel)
  subst hsz
  have hA : ∀ q : Nat, s.heap.size ≤ q → x_new s.heap.size q := fun _ h => h
  have hS : va_S (x_new s.heap.size) s.heap s.heap [] := va_S.rf
  have hP : va_P (dC, dI) vwCl [(h0, .inr (8, [.ref t0, .ref m0, .ref c0, .ref x0, .ref f0, .ref w0])), (t0, .inr (7, [.ref th1, .ref th2, .int 4])), (m0, .inr (4, [.ref ma0, .ref ma1, .int 0, .ref ma3, .ref ma4, .ref ma5, .ref ma6, .ref ma7, .int 0]))] s.heap := hP
  have hl := lv_entry ([.ref h0, .int p0, .int p1, .int p2]) (n := 4) (Nat.le_of_ble_eq_true rfl)
  rw [lg_entry_eq]
  generalize (lg_sl ([.ref h0, .int p0, .int p1, .int p2]) ++ List.replicate (4 - (lg_sl ([.ref h0, .int p0, .int p1, .int p2])).length) Slot.unset).toArray = ls at hl ⊢
  have hl : lv_has ls 4 [(0, .ref h0), (1, .int p0), (2, .int p1), (3, .int p2)] := hl
  obtain ⟨H, hH⟩ : ∃ z, z = s.heap := ⟨_, rfl⟩
  refine x_here hH ?_
  have hP : va_P (dC, dI) vwCl [(h0, .inr (8, [.ref t0, .ref m0, .ref c0, .ref x0, .ref f0, .ref w0])), (t0, .inr (7, [.ref th1, .ref th2, .int 4])), (m0, .inr (4, [.ref ma0, .ref ma1, .int 0, .ref ma3, .ref ma4, .ref ma5, .ref ma6, .ref ma7, .int 0]))] H := by rw [hH]; exact hP
  have hS : va_S (x_new s.heap.size) s.heap H [] := by rw [hH]; exact va_S.rf
  clear hH
  refine lv_iload_n hx hb dX8_isInstruction_0 rfl (lv_at hl 1 rfl) ?_
  rcases Classical.em (p0 = 132) with c_1 | c_1
  · refine lv_lookup (off := 27) (tgt := 28) hx hb dX8_isInstruction_1 (by decide) (by rw [c_1]; decide) (by decide) ?_
    refine lv_iload_n hx hb dX8_isInstruction_28 rfl (lv_at hl 2 rfl) ?_
    refine lv_if_lt (tgt := 36) hx hb dX8_isInstruction_29 (by decide) (fun c_2 => ?_) (fun c_2 => ?_)
    · skip
      refine lv_iconst (v := 0) hx hb dX8_isInstruction_36 (by decide) ?_
      exact W.zret (ty := .boolean) hx hb hr rfl (fun t ht hW => ⟨⟨_, (), rfl, by rw [f_X8_isInstruction, if_pos c_1, if_pos c_2], trivial⟩, hS.F ht⟩) hS.2.2 dX8_isInstruction_37
    · skip
      refine lv_iconst (v := 1) hx hb dX8_isInstruction_32 (by decide) ?_
      refine lv_goto (tgt := 37) hx hb dX8_isInstruction_33 (by decide) ?_
      exact W.zret (ty := .boolean) hx hb hr rfl (fun t ht hW => ⟨⟨_, (), rfl, by rw [f_X8_isInstruction, if_pos c_1, if_neg c_2], trivial⟩, hS.F ht⟩) hS.2.2 dX8_isInstruction_37
  rcases Classical.em (p0 = 197) with c_3 | c_3
  · refine lv_lookup (off := 37) (tgt := 38) hx hb dX8_isInstruction_1 (by decide) (by rw [c_3]; decide) (by decide) ?_
    refine lv_aload_n hx hb dX8_isInstruction_38 rfl (lv_at hl 0 rfl) ?_
    refine va_get (D := (dC, dI)) (ci := 8) (v := .ref t0) (C := RX8) (T := TX8) (N := 6) hx hb hts i_X8_isInstruction_X8 hown hK hP 0 rfl rfl 0 (by decide) k_1 (fun _ h9 => h9) rfl dX8_isInstruction_39 ?_
    refine lv_iload_n hx hb dX8_isInstruction_42 rfl (lv_at hl 2 rfl) ?_
    have hPc := hP.sub (ws' := [(t0, .inr (7, [.ref th1, .ref th2, .int 4]))]) [1] rfl
    refine va_calli (va_runV (As := [.int p1]) (rest := []) ⟨hx, hb, hml, hown, hts⟩ (c_X7_isReference l dC dI cyI cyZ cyJ H.size t0 th1 th2 p1) (cwV 1 hts gX8_isInstruction_X7_isReference rfl rfl rfl (by decide +kernel) ⟨Nat.le_of_ble_eq_true rfl, Nat.le_of_ble_eq_true rfl⟩) (x_pV hN hK hPc (ci := 7) (q0 := 0) rfl rfl) rfl rfl hl.1 rfl (lv_room (Nat.le_of_ble_eq_true rfl)) dX8_isInstruction_43 ⟨Nat.le_of_ble_eq_true rfl, Nat.le_of_ble_eq_true rfl⟩) hS x_nA (x_nf hA hS) (fun r_43 u t H1 locs ht hvm hw hB hz1 hk1 hS => ?_)
    have hP := x_kp hP hk1
    clear ht hvm hB hz1 hk1 t u hPc
    generalize H1 = H at hP hS ⊢
    obtain rfl := hw
    refine lv_if_eq (tgt := 66) hx hb dX8_isInstruction_46 (by decide) (fun c_4 => ?_) (fun c_4 => ?_)
    · skip
      refine lv_iconst (v := 0) hx hb dX8_isInstruction_66 (by decide) ?_
      exact W.zret (ty := .boolean) hx hb hr rfl (fun t ht hW => ⟨⟨_, (), rfl, by rw [f_X8_isInstruction, if_neg c_1, if_pos c_3, if_pos c_4], trivial⟩, hS.F ht⟩) hS.2.2 dX8_isInstruction_67
    · skip
      refine lv_iload_n hx hb dX8_isInstruction_49 rfl (lv_at hl 3 rfl) ?_
      refine lv_iconst (v := 1) hx hb dX8_isInstruction_50 (by decide) ?_
      refine lv_icmp_lt (tgt := 66) hx hb dX8_isInstruction_51 (by decide) (fun c_5 => ?_) (fun c_5 => ?_)
      · skip
        refine lv_iconst (v := 0) hx hb dX8_isInstruction_66 (by decide) ?_
        exact W.zret (ty := .boolean) hx hb hr rfl (fun t ht hW => ⟨⟨_, (), rfl, by rw [f_X8_isInstruction, if_neg c_1, if_pos c_3, if_neg c_4, if_pos c_5], trivial⟩, hS.F ht⟩) hS.2.2 dX8_isInstruction_67
      · skip
        refine lv_iload_n hx hb dX8_isInstruction_54 rfl (lv_at hl 3 rfl) ?_
        refine lv_iload_n hx hb dX8_isInstruction_55 rfl (lv_at hl 2 rfl) ?_
        have hPc := hP.sub (ws' := []) [] rfl
        refine va_calli (va_runS (As := [.int p1]) (rest := [.int p2]) ⟨hx, hb, hml, hown, hts⟩ (c_X7_dimensionsOf l dC dI cyI cyZ cyJ H.size p1) (va_cwS 1 hts gX8_isInstruction_X7_dimensionsOf rfl rfl rfl (by decide +kernel) ⟨Nat.le_of_ble_eq_true rfl, Nat.le_of_ble_eq_true rfl⟩) (x_pS hN hK hPc) rfl rfl hl.1 rfl (lv_room (Nat.le_of_ble_eq_true rfl)) dX8_isInstruction_56 ⟨Nat.le_of_ble_eq_true rfl, Nat.le_of_ble_eq_true rfl⟩) hS x_nA (x_nf hA hS) (fun r_56 u t H1 locs ht hvm hw hB hz1 hk1 hS => ?_)
        have hP := x_kp hP hk1
        clear ht hvm hB hz1 hk1 t u hPc
        generalize H1 = H at hP hS ⊢
        obtain rfl := hw
        refine lv_icmp_gt (tgt := 66) hx hb dX8_isInstruction_59 (by decide) (fun c_6 => ?_) (fun c_6 => ?_)
        · skip
          refine lv_iconst (v := 0) hx hb dX8_isInstruction_66 (by decide) ?_
          exact W.zret (ty := .boolean) hx hb hr rfl (fun t ht hW => ⟨⟨_, (), rfl, by rw [f_X8_isInstruction, if_neg c_1, if_pos c_3, if_neg c_4, if_neg c_5, if_pos c_6], trivial⟩, hS.F ht⟩) hS.2.2 dX8_isInstruction_67
        · skip
          refine lv_iconst (v := 1) hx hb dX8_isInstruction_62 (by decide) ?_
          refine lv_goto (tgt := 67) hx hb dX8_isInstruction_63 (by decide) ?_
          exact W.zret (ty := .boolean) hx hb hr rfl (fun t ht hW => ⟨⟨_, (), rfl, by rw [f_X8_isInstruction, if_neg c_1, if_pos c_3, if_neg c_4, if_neg c_5, if_neg c_6], trivial⟩, hS.F ht⟩) hS.2.2 dX8_isInstruction_67
  refine lv_lookup (off := 67) (tgt := 68) hx hb dX8_isInstruction_1 (by decide) ((lv_osw (k := 132) c_1 (by decide)).trans ((lv_osw (k := 197) c_3 (by decide)).trans rfl)) (by decide) ?_
  refine lv_iload_n hx hb dX8_isInstruction_68 rfl (lv_at hl 3 rfl) ?_
  refine lv_if_ne (tgt := 85) hx hb dX8_isInstruction_69 (by decide) (fun c_7 => ?_) (fun c_7 => ?_)
  · skip
    refine lv_iconst (v := 0) hx hb dX8_isInstruction_85 (by decide) ?_
    exact W.zret (ty := .boolean) hx hb hr rfl (fun t ht hW => ⟨⟨_, (), rfl, by rw [f_X8_isInstruction, if_neg c_1, if_neg c_3, if_neg c_7], trivial⟩, hS.F ht⟩) hS.2.2 dX8_isInstruction_86
  · skip
    refine lv_aload_n hx hb dX8_isInstruction_72 rfl (lv_at hl 0 rfl) ?_
    refine lv_iload_n hx hb dX8_isInstruction_73 rfl (lv_at hl 1 rfl) ?_
    refine lv_iload_n hx hb dX8_isInstruction_74 rfl (lv_at hl 2 rfl) ?_
    have hPc := hP.sub (ws' := [(h0, .inr (8, [.ref t0, .ref m0, .ref c0, .ref x0, .ref f0, .ref w0])), (t0, .inr (7, [.ref th1, .ref th2, .int 4])), (m0, .inr (4, [.ref ma0, .ref ma1, .int 0, .ref ma3, .ref ma4, .ref ma5, .ref ma6, .ref ma7, .int 0]))]) [0, 1, 2] rfl
    refine va_calli (va_runV (As := [.int p0, .int p1]) (rest := []) ⟨hx, hb, hml, hown, hts⟩ (c_X8_isOperand l dC dI cyI cyZ cyJ H.size h0 t0 m0 c0 x0 f0 w0 th1 th2 ma0 ma1 ma3 ma4 ma5 ma6 ma7 p0 p1) (cwV 2 hts gX8_isInstruction_X8_isOperand rfl rfl rfl (by decide +kernel) ⟨Nat.le_of_ble_eq_true rfl, Nat.le_of_ble_eq_true rfl⟩) (x_pV hN hK hPc (ci := 8) (q0 := 0) rfl rfl) rfl rfl hl.1 rfl (lv_room (Nat.le_of_ble_eq_true rfl)) dX8_isInstruction_75 ⟨Nat.le_of_ble_eq_true rfl, Nat.le_of_ble_eq_true rfl⟩) hS x_nA (x_nf hA hS) (fun r_75 u t H1 locs ht hvm hw hB hz1 hk1 hS => ?_)
    have hP := x_kp hP hk1
    clear ht hvm hB hz1 hk1 t u hPc
    generalize H1 = H at hP hS ⊢
    obtain rfl := hw
    refine lv_if_eq (tgt := 85) hx hb dX8_isInstruction_78 (by decide) (fun c_8 => ?_) (fun c_8 => ?_)
    · skip
      refine lv_iconst (v := 0) hx hb dX8_isInstruction_85 (by decide) ?_
      exact W.zret (ty := .boolean) hx hb hr rfl (fun t ht hW => ⟨⟨_, (), rfl, by rw [f_X8_isInstruction, if_neg c_1, if_neg c_3, if_pos c_7, if_pos c_8], trivial⟩, hS.F ht⟩) hS.2.2 dX8_isInstruction_86
    · skip
      refine lv_iconst (v := 1) hx hb dX8_isInstruction_81 (by decide) ?_
      refine lv_goto (tgt := 86) hx hb dX8_isInstruction_82 (by decide) ?_
      exact W.zret (ty := .boolean) hx hb hr rfl (fun t ht hW => ⟨⟨_, (), rfl, by rw [f_X8_isInstruction, if_neg c_1, if_neg c_3, if_pos c_7, if_neg c_8], trivial⟩, hS.F ht⟩) hS.2.2 dX8_isInstruction_86

theorem i_X8_judge_X0 : ∀ w ∈ wsX00, w ∈ wsX8_judge := by decide +kernel
theorem i_X8_judge_X3 : ∀ w ∈ wsX30, w ∈ wsX8_judge := by decide +kernel
theorem i_X8_judge_X8 : ∀ w ∈ wsX80, w ∈ wsX8_judge := by decide +kernel
set_option maxHeartbeats 4000000 in
set_option maxRecDepth 100000 in
theorem c_X8_judge (l : Launch) (dC : Nat → ClassId) (dI : Nat → Nat → Nat) (cyI cyZ cyJ : ClassId) (sz : Nat) (h0 : Nat) (t0 : Nat) (m0 : Nat) (c0 : Nat) (x0 : Nat) (f0 : Nat) (w0 : Nat) (ca5 : Nat) (ca7 : Nat) (ca8 : Nat) (ca9 : Nat) (ca11 : Nat) (ca12 : Nat) (ca13 : Nat) (ca14 : Nat) (ca16 : Nat) (fa5 : Nat) (fa6 : Nat) (fa7 : Nat) (fa8 : Nat) (fa9 : Nat) (fa10 : Nat) (fa11 : Nat) (fa12 : Nat) (fa15 : Nat) (fa16 : Nat) (xa0 : Nat) (xa1 : Nat) (xa2 : Nat) (xa3 : Nat) (xa4 : Nat) (g0 : Nat → Int32) (g1 : Nat → Int32) : Met l yX8_judge wsX8_judge ({ frames := 2, cells := 0, slots := 0, locals := 45 }) (va_Pc [.ref h0] (x_PreD (dC, dI) (x_T cyI cyZ cyJ) [(h0, .inr (8, [.ref t0, .ref m0, .ref c0, .ref x0, .ref f0, .ref w0])), (c0, .inr (0, [.int 0, .int 0, .int (-1), .int 0, .int 0, .ref ca5, .int 0, .ref ca7, .ref ca8, .ref ca9, .int 0, .ref ca11, .ref ca12, .ref ca13, .ref ca14, .int 0, .ref ca16])), (f0, .inr (3, [.ref t0, .ref x0, .int 0, .int 0, .int 0, .ref fa5, .ref fa6, .ref fa7, .ref fa8, .ref fa9, .ref fa10, .ref fa11, .ref fa12, .int (-1), .int (-1), .ref fa15, .ref fa16])), (fa10, .inl (cyI, 256, .inl g0)), (x0, .inr (1, [.ref xa0, .ref xa1, .ref xa2, .ref xa3, .ref xa4, .int 1])), (xa3, .inl (cyI, 16, .inl g1))] sz)) (va_Qi (fun (r : Int32) (_ : Unit) => r = (-1)) (fun _ _ => True) (va_A [(h0, .inr (8, [.ref t0, .ref m0, .ref c0, .ref x0, .ref f0, .ref w0])), (c0, .inr (0, [.int 0, .int 0, .int (-1), .int 0, .int 0, .ref ca5, .int 0, .ref ca7, .ref ca8, .ref ca9, .int 0, .ref ca11, .ref ca12, .ref ca13, .ref ca14, .int 0, .ref ca16])), (f0, .inr (3, [.ref t0, .ref x0, .int 0, .int 0, .int 0, .ref fa5, .ref fa6, .ref fa7, .ref fa8, .ref fa9, .ref fa10, .ref fa11, .ref fa12, .int (-1), .int (-1), .ref fa15, .ref fa16])), (fa10, .inl (cyI, 256, .inl g0)), (x0, .inr (1, [.ref xa0, .ref xa1, .ref xa2, .ref xa3, .ref xa4, .int 1])), (xa3, .inl (cyI, 16, .inl g1))] sz)) 0 0 (va_A [(h0, .inr (8, [.ref t0, .ref m0, .ref c0, .ref x0, .ref f0, .ref w0])), (c0, .inr (0, [.int 0, .int 0, .int (-1), .int 0, .int 0, .ref ca5, .int 0, .ref ca7, .ref ca8, .ref ca9, .int 0, .ref ca11, .ref ca12, .ref ca13, .ref ca14, .int 0, .ref ca16])), (f0, .inr (3, [.ref t0, .ref x0, .int 0, .int 0, .int 0, .ref fa5, .ref fa6, .ref fa7, .ref fa8, .ref fa9, .ref fa10, .ref fa11, .ref fa12, .int (-1), .int (-1), .ref fa15, .ref fa16])), (fa10, .inl (cyI, 256, .inl g0)), (x0, .inr (1, [.ref xa0, .ref xa1, .ref xa2, .ref xa3, .ref xa4, .int 1])), (xa3, .inl (cyI, 16, .inl g1))] sz) := by
  refine Met.ofW (cc := cX8_judge) (maxL := 4) (ret := (some .int)) (by decide) rfl ?_
  intro p e s m args below meth c s₁ B hml hv
  obtain ⟨rfl, ⟨hsz, hP, hK, hN⟩, hD0⟩ := hv
  have hx := B.exec
  have hb := B.bytes
  have hr := B.returns
  have hts := atoms_spec (ws := wsX8_judge) B.pre
  have hown : s.vm.findClass RX8 = some m.cls := findClass_of_methodNamed B.named
  have hlocks := B.notSynchronized
  have k_1 := hts (.fieldLink RX8 26 "FlowJudge" "code" "LFlowJudge$Code;") (by decide +kernel)
  have k_2 := hts (.fieldLink RX8 42 "FlowJudge" "frames" "LFlowJudge$Frames;") (by decide +kernel)
  have k_3 := hts (.fieldLink RX8 33 "FlowJudge" "contexts" "LFlowJudge$Contexts;") (by decide +kernel)
  have k_4 := hts (.constant RX8 192 (12000000)) (by decide +kernel)
  subst hsz
  have hD := hD0.self (sz := s.heap.size)
  generalize hAe : va_A [(h0, .inr (8, [.ref t0, .ref m0, .ref c0, .ref x0, .ref f0, .ref w0])), (c0, .inr (0, [.int 0, .int 0, .int (-1), .int 0, .int 0, .ref ca5, .int 0, .ref ca7, .ref ca8, .ref ca9, .int 0, .ref ca11, .ref ca12, .ref ca13, .ref ca14, .int 0, .ref ca16])), (f0, .inr (3, [.ref t0, .ref x0, .int 0, .int 0, .int 0, .ref fa5, .ref fa6, .ref fa7, .ref fa8, .ref fa9, .ref fa10, .ref fa11, .ref fa12, .int (-1), .int (-1), .ref fa15, .ref fa16])), (fa10, .inl (cyI, 256, .inl g0)), (x0, .inr (1, [.ref xa0, .ref xa1, .ref xa2, .ref xa3, .ref xa4, .int 1])), (xa3, .inl (cyI, 16, .inl g1))] s.heap.size = A at hD ⊢
  have hA : ∀ q : Nat, s.heap.size ≤ q → A q := fun q h => by rw [← hAe]; exact Or.inr h
  have hS : va_S A s.heap s.heap [] := va_S.rf
  have hP : va_P (dC, dI) vwCl [(h0, .inr (8, [.ref t0, .ref m0, .ref c0, .ref x0, .ref f0, .ref w0])), (c0, .inr (0, [.int 0, .int 0, .int (-1), .int 0, .int 0, .ref ca5, .int 0, .ref ca7, .ref ca8, .ref ca9, .int 0, .ref ca11, .ref ca12, .ref ca13, .ref ca14, .int 0, .ref ca16])), (f0, .inr (3, [.ref t0, .ref x0, .int 0, .int 0, .int 0, .ref fa5, .ref fa6, .ref fa7, .ref fa8, .ref fa9, .ref fa10, .ref fa11, .ref fa12, .int (-1), .int (-1), .ref fa15, .ref fa16])), (fa10, .inl (cyI, 256, .inl g0)), (x0, .inr (1, [.ref xa0, .ref xa1, .ref xa2, .ref xa3, .ref xa4, .int 1])), (xa3, .inl (cyI, 16, .inl g1))] s.heap := hP
  have hl := lv_entry ([.ref h0]) (n := 4) (Nat.le_of_ble_eq_true rfl)
  rw [lg_entry_eq]
  generalize (lg_sl ([.ref h0]) ++ List.replicate (4 - (lg_sl ([.ref h0])).length) Slot.unset).toArray = ls at hl ⊢
  have hl : lv_has ls 4 [(0, .ref h0)] := hl
  obtain ⟨H, hH⟩ : ∃ z, z = s.heap := ⟨_, rfl⟩
  refine x_here hH ?_
  have hP : va_P (dC, dI) vwCl [(h0, .inr (8, [.ref t0, .ref m0, .ref c0, .ref x0, .ref f0, .ref w0])), (c0, .inr (0, [.int 0, .int 0, .int (-1), .int 0, .int 0, .ref ca5, .int 0, .ref ca7, .ref ca8, .ref ca9, .int 0, .ref ca11, .ref ca12, .ref ca13, .ref ca14, .int 0, .ref ca16])), (f0, .inr (3, [.ref t0, .ref x0, .int 0, .int 0, .int 0, .ref fa5, .ref fa6, .ref fa7, .ref fa8, .ref fa9, .ref fa10, .ref fa11, .ref fa12, .int (-1), .int (-1), .ref fa15, .ref fa16])), (fa10, .inl (cyI, 256, .inl g0)), (x0, .inr (1, [.ref xa0, .ref xa1, .ref xa2, .ref xa3, .ref xa4, .int 1])), (xa3, .inl (cyI, 16, .inl g1))] H := by rw [hH]; exact hP
  have hS : va_S A s.heap H [] := by rw [hH]; exact va_S.rf
  clear hH
  refine lv_aload_n hx hb dX8_judge_0 rfl (lv_at hl 0 rfl) ?_
  refine va_get (D := (dC, dI)) (ci := 8) (v := .ref c0) (C := RX8) (T := TX8) (N := 6) hx hb hts i_X8_judge_X8 hown hK hP 0 rfl rfl 2 (by decide) k_1 (fun _ h9 => h9) rfl dX8_judge_1 ?_
  have hPc := hP.sub (ws' := [(c0, .inr (0, [.int 0, .int 0, .int (-1), .int 0, .int 0, .ref ca5, .int 0, .ref ca7, .ref ca8, .ref ca9, .int 0, .ref ca11, .ref ca12, .ref ca13, .ref ca14, .int 0, .ref ca16]))]) [1] rfl
  refine va_calli (va_runV (As := []) (rest := []) ⟨hx, hb, hml, hown, hts⟩ (c_X0_isSound l dC dI cyI cyZ cyJ H.size c0 ca5 ca7 ca8 ca9 ca11 ca12 ca13 ca14 ca16) (cwV 0 hts gX8_judge_X0_isSound rfl rfl rfl (by decide +kernel) ⟨Nat.le_of_ble_eq_true rfl, Nat.le_of_ble_eq_true rfl⟩) (x_pV hN hK hPc (ci := 0) (q0 := 0) rfl rfl) rfl rfl hl.1 rfl (lv_room (Nat.le_of_ble_eq_true rfl)) dX8_judge_4 ⟨Nat.le_of_ble_eq_true rfl, Nat.le_of_ble_eq_true rfl⟩) hS x_nA (x_nf hA hS) (fun r_4 u t H1 locs ht hvm hw hB hz1 hk1 hS => ?_)
  have hP := x_kp hP hk1
  clear ht hvm hB hz1 hk1 t u hPc
  generalize H1 = H at hP hS ⊢
  obtain rfl := hw
  refine lv_istore_n (lv' := [(1, .int 0), (0, .ref h0)]) hx hb dX8_judge_7 rfl hl (by decide) rfl (fun ls hl => ?_)
  refine lv_aload_n hx hb dX8_judge_8 rfl (lv_at hl 1 rfl) ?_
  refine va_get (D := (dC, dI)) (ci := 8) (v := .ref f0) (C := RX8) (T := TX8) (N := 6) hx hb hts i_X8_judge_X8 hown hK hP 0 rfl rfl 4 (by decide) k_2 (fun _ h9 => h9) rfl dX8_judge_9 ?_
  refine lv_aload_n hx hb dX8_judge_12 rfl (lv_at hl 1 rfl) ?_
  refine va_get (D := (dC, dI)) (ci := 8) (v := .ref c0) (C := RX8) (T := TX8) (N := 6) hx hb hts i_X8_judge_X8 hown hK hP 0 rfl rfl 2 (by decide) k_1 (fun _ h9 => h9) rfl dX8_judge_13 ?_
  refine va_getN (D := (dC, dI)) (ci := 0) (v := .int 0) (C := RX0) (T := TX0) (N := 17) hx hb hts i_X8_judge_X0 hown hK hP 1 rfl rfl 3 (by decide) ((hN.1 (175, "FlowJudge$Code", "locals", "I") (by decide)).use rfl) (fun _ h9 => h9) rfl dX8_judge_16 ?_
  refine lv_aload_n hx hb dX8_judge_19 rfl (lv_at hl 1 rfl) ?_
  refine va_get (D := (dC, dI)) (ci := 8) (v := .ref c0) (C := RX8) (T := TX8) (N := 6) hx hb hts i_X8_judge_X8 hown hK hP 0 rfl rfl 2 (by decide) k_1 (fun _ h9 => h9) rfl dX8_judge_20 ?_
  refine va_getN (D := (dC, dI)) (ci := 0) (v := .int 0) (C := RX0) (T := TX0) (N := 17) hx hb hts i_X8_judge_X0 hown hK hP 1 rfl rfl 4 (by decide) ((hN.1 (178, "FlowJudge$Code", "stack", "I") (by decide)).use rfl) (fun _ h9 => h9) rfl dX8_judge_23 ?_
  have hPc := hP.sub (ws' := [(f0, .inr (3, [.ref t0, .ref x0, .int 0, .int 0, .int 0, .ref fa5, .ref fa6, .ref fa7, .ref fa8, .ref fa9, .ref fa10, .ref fa11, .ref fa12, .int (-1), .int (-1), .ref fa15, .ref fa16])), (fa10, .inl (cyI, 256, .inl g0))]) [2, 3] rfl
  have hDc := hD.sub (ws' := [(f0, .inr (3, [.ref t0, .ref x0, .int 0, .int 0, .int 0, .ref fa5, .ref fa6, .ref fa7, .ref fa8, .ref fa9, .ref fa10, .ref fa11, .ref fa12, .int (-1), .int (-1), .ref fa15, .ref fa16])), (fa10, .inl (cyI, 256, .inl g0))]) [2, 3] (by decide) rfl
  have hFc := va_free (wc := [(f0, .inr (3, [.ref t0, .ref x0, .int 0, .int 0, .int 0, .ref fa5, .ref fa6, .ref fa7, .ref fa8, .ref fa9, .ref fa10, .ref fa11, .ref fa12, .int (-1), .int (-1), .ref fa15, .ref fa16])), (fa10, .inl (cyI, 256, .inl g0))]) hD hS hA [2, 3] rfl
  refine va_callv (va_runV (As := [.int 0, .int 0]) (rest := []) ⟨hx, hb, hml, hown, hts⟩ (c_X3_clear l dC dI cyI cyZ cyJ H.size f0 t0 x0 fa5 fa6 fa7 fa8 fa9 fa10 fa11 fa12 fa15 fa16 g0) (cwV 2 hts gX8_judge_X3_clear rfl rfl rfl (by decide +kernel) ⟨Nat.le_of_ble_eq_true rfl, Nat.le_of_ble_eq_true rfl⟩) (x_pVD hN hK hPc hDc (ci := 3) (q0 := 0) rfl rfl) rfl rfl hl.1 rfl (lv_room (Nat.le_of_ble_eq_true rfl)) dX8_judge_26 ⟨Nat.le_of_ble_eq_true rfl, Nat.le_of_ble_eq_true rfl⟩) hS (fun q _ h => hFc q h) hFc (fun u t H1 locs ht hvm hw hB hz1 hk1 hS => ?_)
  obtain ⟨gn_1, hP1, hK1, hD1⟩ := hB
  rw [ht] at hP1
  obtain ⟨hP, hD⟩ := va_join (wr := [(h0, .inr (8, [.ref t0, .ref m0, .ref c0, .ref x0, .ref f0, .ref w0])), (c0, .inr (0, [.int 0, .int 0, .int (-1), .int 0, .int 0, .ref ca5, .int 0, .ref ca7, .ref ca8, .ref ca9, .int 0, .ref ca11, .ref ca12, .ref ca13, .ref ca14, .int 0, .ref ca16])), (x0, .inr (1, [.ref xa0, .ref xa1, .ref xa2, .ref xa3, .ref xa4, .int 1])), (xa3, .inl (cyI, 16, .inl g1))]) (w1 := [(f0, .inr (3, [.ref t0, .ref x0, .int 0, .int 0, .int 0, .ref fa5, .ref fa6, .ref fa7, .ref fa8, .ref fa9, .ref fa10, .ref fa11, .ref fa12, .int (-1), .int (-1), .ref fa15, .ref fa16])), (fa10, .inl (cyI, 256, .inl gn_1))]) hP hD [2, 3] [0, 1, 4, 5] rfl rfl (by decide) (by decide) hk1 hFc hP1 hD1
  clear hz1 hk1 hPc hDc hFc hP1 hK1 hD1 ht hvm t u
  generalize H1 = H at hP hS ⊢
  have hP : va_P (dC, dI) vwCl [(h0, .inr (8, [.ref t0, .ref m0, .ref c0, .ref x0, .ref f0, .ref w0])), (c0, .inr (0, [.int 0, .int 0, .int (-1), .int 0, .int 0, .ref ca5, .int 0, .ref ca7, .ref ca8, .ref ca9, .int 0, .ref ca11, .ref ca12, .ref ca13, .ref ca14, .int 0, .ref ca16])), (x0, .inr (1, [.ref xa0, .ref xa1, .ref xa2, .ref xa3, .ref xa4, .int 1])), (xa3, .inl (cyI, 16, .inl g1)), (f0, .inr (3, [.ref t0, .ref x0, .int 0, .int 0, .int 0, .ref fa5, .ref fa6, .ref fa7, .ref fa8, .ref fa9, .ref fa10, .ref fa11, .ref fa12, .int (-1), .int (-1), .ref fa15, .ref fa16])), (fa10, .inl (cyI, 256, .inl gn_1))] H := hP
  have hD : va_D A [(h0, .inr (8, [.ref t0, .ref m0, .ref c0, .ref x0, .ref f0, .ref w0])), (c0, .inr (0, [.int 0, .int 0, .int (-1), .int 0, .int 0, .ref ca5, .int 0, .ref ca7, .ref ca8, .ref ca9, .int 0, .ref ca11, .ref ca12, .ref ca13, .ref ca14, .int 0, .ref ca16])), (x0, .inr (1, [.ref xa0, .ref xa1, .ref xa2, .ref xa3, .ref xa4, .int 1])), (xa3, .inl (cyI, 16, .inl g1)), (f0, .inr (3, [.ref t0, .ref x0, .int 0, .int 0, .int 0, .ref fa5, .ref fa6, .ref fa7, .ref fa8, .ref fa9, .ref fa10, .ref fa11, .ref fa12, .int (-1), .int (-1), .ref fa15, .ref fa16])), (fa10, .inl (cyI, 256, .inl gn_1))] := hD
  refine lv_aload_n hx hb dX8_judge_29 rfl (lv_at hl 1 rfl) ?_
  refine va_get (D := (dC, dI)) (ci := 8) (v := .ref x0) (C := RX8) (T := TX8) (N := 6) hx hb hts i_X8_judge_X8 hown hK hP 0 rfl rfl 3 (by decide) k_3 (fun _ h9 => h9) rfl dX8_judge_30 ?_
  have hPc := hP.sub (ws' := [(x0, .inr (1, [.ref xa0, .ref xa1, .ref xa2, .ref xa3, .ref xa4, .int 1])), (xa3, .inl (cyI, 16, .inl g1))]) [2, 3] rfl
  have hDc := hD.sub (ws' := [(x0, .inr (1, [.ref xa0, .ref xa1, .ref xa2, .ref xa3, .ref xa4, .int 1])), (xa3, .inl (cyI, 16, .inl g1))]) [2, 3] (by decide) rfl
  have hFc := va_free (wc := [(x0, .inr (1, [.ref xa0, .ref xa1, .ref xa2, .ref xa3, .ref xa4, .int 1])), (xa3, .inl (cyI, 16, .inl g1))]) hD hS hA [2, 3] rfl
  refine va_callv (va_runV (As := []) (rest := []) ⟨hx, hb, hml, hown, hts⟩ (c_X1_clear l dC dI cyI cyZ cyJ H.size x0 xa0 xa1 xa2 xa3 xa4 g1) (cwV 0 hts gX8_judge_X1_clear rfl rfl rfl (by decide +kernel) ⟨Nat.le_of_ble_eq_true rfl, Nat.le_of_ble_eq_true rfl⟩) (x_pVD hN hK hPc hDc (ci := 1) (q0 := 0) rfl rfl) rfl rfl hl.1 rfl (lv_room (Nat.le_of_ble_eq_true rfl)) dX8_judge_33 ⟨Nat.le_of_ble_eq_true rfl, Nat.le_of_ble_eq_true rfl⟩) hS (fun q _ h => hFc q h) hFc (fun u t H1 locs ht hvm hw hB hz1 hk1 hS => ?_)
  obtain ⟨gn_2, hP1, hK1, hD1⟩ := hB
  rw [ht] at hP1
  obtain ⟨hP, hD⟩ := va_join (wr := [(h0, .inr (8, [.ref t0, .ref m0, .ref c0, .ref x0, .ref f0, .ref w0])), (c0, .inr (0, [.int 0, .int 0, .int (-1), .int 0, .int 0, .ref ca5, .int 0, .ref ca7, .ref ca8, .ref ca9, .int 0, .ref ca11, .ref ca12, .ref ca13, .ref ca14, .int 0, .ref ca16])), (f0, .inr (3, [.ref t0, .ref x0, .int 0, .int 0, .int 0, .ref fa5, .ref fa6, .ref fa7, .ref fa8, .ref fa9, .ref fa10, .ref fa11, .ref fa12, .int (-1), .int (-1), .ref fa15, .ref fa16])), (fa10, .inl (cyI, 256, .inl gn_1))]) (w1 := [(x0, .inr (1, [.ref xa0, .ref xa1, .ref xa2, .ref xa3, .ref xa4, .int 1])), (xa3, .inl (cyI, 16, .inl gn_2))]) hP hD [2, 3] [0, 1, 4, 5] rfl rfl (by decide) (by decide) hk1 hFc hP1 hD1
  clear hz1 hk1 hPc hDc hFc hP1 hK1 hD1 ht hvm t u
  generalize H1 = H at hP hS ⊢
  have hP : va_P (dC, dI) vwCl [(h0, .inr (8, [.ref t0, .ref m0, .ref c0, .ref x0, .ref f0, .ref w0])), (c0, .inr (0, [.int 0, .int 0, .int (-1), .int 0, .int 0, .ref ca5, .int 0, .ref ca7, .ref ca8, .ref ca9, .int 0, .ref ca11, .ref ca12, .ref ca13, .ref ca14, .int 0, .ref ca16])), (f0, .inr (3, [.ref t0, .ref x0, .int 0, .int 0, .int 0, .ref fa5, .ref fa6, .ref fa7, .ref fa8, .ref fa9, .ref fa10, .ref fa11, .ref fa12, .int (-1), .int (-1), .ref fa15, .ref fa16])), (fa10, .inl (cyI, 256, .inl gn_1)), (x0, .inr (1, [.ref xa0, .ref xa1, .ref xa2, .ref xa3, .ref xa4, .int 1])), (xa3, .inl (cyI, 16, .inl gn_2))] H := hP
  have hD : va_D A [(h0, .inr (8, [.ref t0, .ref m0, .ref c0, .ref x0, .ref f0, .ref w0])), (c0, .inr (0, [.int 0, .int 0, .int (-1), .int 0, .int 0, .ref ca5, .int 0, .ref ca7, .ref ca8, .ref ca9, .int 0, .ref ca11, .ref ca12, .ref ca13, .ref ca14, .int 0, .ref ca16])), (f0, .inr (3, [.ref t0, .ref x0, .int 0, .int 0, .int 0, .ref fa5, .ref fa6, .ref fa7, .ref fa8, .ref fa9, .ref fa10, .ref fa11, .ref fa12, .int (-1), .int (-1), .ref fa15, .ref fa16])), (fa10, .inl (cyI, 256, .inl gn_1)), (x0, .inr (1, [.ref xa0, .ref xa1, .ref xa2, .ref xa3, .ref xa4, .int 1])), (xa3, .inl (cyI, 16, .inl gn_2))] := hD
  refine lv_iload_n hx hb dX8_judge_36 rfl (lv_at hl 0 rfl) ?_
  refine lv_if_eq (tgt := 55) hx hb dX8_judge_37 (by decide) (fun _ => ?_) (fun c_3 => absurd (by decide) c_3)
  refine lv_iconst (v := 0) hx hb dX8_judge_55 (by decide) ?_
  refine lv_istore_n (lv' := [(2, .int 0), (1, .int 0), (0, .ref h0)]) hx hb dX8_judge_56 rfl hl (by decide) rfl (fun ls hl => ?_)
  refine lv_iload_n hx hb dX8_judge_57 rfl (lv_at hl 0 rfl) ?_
  refine lv_ldc (v := 12000000) hx hb hown k_4 dX8_judge_58 ?_
  refine lv_icmp_ge (tgt := 98) hx hb dX8_judge_60 (by decide) (fun c_4 => absurd c_4 (by decide)) (fun _ => ?_)
  refine lv_iload_n hx hb dX8_judge_63 rfl (lv_at hl 1 rfl) ?_
  refine lv_if_eq (tgt := 98) hx hb dX8_judge_64 (by decide) (fun _ => ?_) (fun c_5 => absurd (by decide) c_5)
  refine lv_iload_n hx hb dX8_judge_98 rfl (lv_at hl 1 rfl) ?_
  refine lv_if_eq (tgt := 116) hx hb dX8_judge_99 (by decide) (fun _ => ?_) (fun c_6 => absurd (by decide) c_6)
  refine lv_iconst (v := 0) hx hb dX8_judge_116 (by decide) ?_
  refine lv_istore_n (lv' := [(2, .int 0), (1, .int 0), (0, .ref h0)]) hx hb dX8_judge_117 rfl hl (by decide) rfl (fun ls hl => ?_)
  refine lv_iconst (v := 0) hx hb dX8_judge_118 (by decide) ?_
  refine lv_istore_n (lv' := [(3, .int 0), (2, .int 0), (1, .int 0), (0, .ref h0)]) hx hb dX8_judge_119 rfl hl (by decide) rfl (fun ls hl => ?_)
  refine lv_iload_n hx hb dX8_judge_120 rfl (lv_at hl 0 rfl) ?_
  refine lv_aload_n hx hb dX8_judge_121 rfl (lv_at hl 3 rfl) ?_
  refine va_get (D := (dC, dI)) (ci := 8) (v := .ref f0) (C := RX8) (T := TX8) (N := 6) hx hb hts i_X8_judge_X8 hown hK hP 0 rfl rfl 4 (by decide) k_2 (fun _ h9 => h9) rfl dX8_judge_122 ?_
  refine va_getN (D := (dC, dI)) (ci := 3) (v := .int 0) (C := RX3) (T := TX3) (N := 17) hx hb hts i_X8_judge_X3 hown hK hP 2 rfl rfl 4 (by decide) ((hN.1 (206, "FlowJudge$Frames", "count", "I") (by decide)).use rfl) (fun _ h9 => h9) rfl dX8_judge_125 ?_
  refine lv_icmp_ge (tgt := 154) hx hb dX8_judge_128 (by decide) (fun _ => ?_) (fun c_7 => absurd (by decide) c_7)
  refine lv_iload_n hx hb dX8_judge_154 rfl (lv_at hl 2 rfl) ?_
  refine lv_if_eq (tgt := 168) hx hb dX8_judge_155 (by decide) (fun _ => ?_) (fun c_8 => absurd (by decide) c_8)
  refine lv_aload_n hx hb dX8_judge_168 rfl (lv_at hl 3 rfl) ?_
  refine va_get (D := (dC, dI)) (ci := 8) (v := .ref f0) (C := RX8) (T := TX8) (N := 6) hx hb hts i_X8_judge_X8 hown hK hP 0 rfl rfl 4 (by decide) k_2 (fun _ h9 => h9) rfl dX8_judge_169 ?_
  refine lv_aload_n hx hb dX8_judge_172 rfl (lv_at hl 3 rfl) ?_
  refine va_get (D := (dC, dI)) (ci := 8) (v := .ref c0) (C := RX8) (T := TX8) (N := 6) hx hb hts i_X8_judge_X8 hown hK hP 0 rfl rfl 2 (by decide) k_1 (fun _ h9 => h9) rfl dX8_judge_173 ?_
  refine va_getN (D := (dC, dI)) (ci := 0) (v := .int 0) (C := RX0) (T := TX0) (N := 17) hx hb hts i_X8_judge_X0 hown hK hP 1 rfl rfl 3 (by decide) ((hN.1 (175, "FlowJudge$Code", "locals", "I") (by decide)).use rfl) (fun _ h9 => h9) rfl dX8_judge_176 ?_
  refine lv_aload_n hx hb dX8_judge_179 rfl (lv_at hl 3 rfl) ?_
  refine va_get (D := (dC, dI)) (ci := 8) (v := .ref c0) (C := RX8) (T := TX8) (N := 6) hx hb hts i_X8_judge_X8 hown hK hP 0 rfl rfl 2 (by decide) k_1 (fun _ h9 => h9) rfl dX8_judge_180 ?_
  refine va_getN (D := (dC, dI)) (ci := 0) (v := .int 0) (C := RX0) (T := TX0) (N := 17) hx hb hts i_X8_judge_X0 hown hK hP 1 rfl rfl 4 (by decide) ((hN.1 (178, "FlowJudge$Code", "stack", "I") (by decide)).use rfl) (fun _ h9 => h9) rfl dX8_judge_183 ?_
  have hPc := hP.sub (ws' := [(f0, .inr (3, [.ref t0, .ref x0, .int 0, .int 0, .int 0, .ref fa5, .ref fa6, .ref fa7, .ref fa8, .ref fa9, .ref fa10, .ref fa11, .ref fa12, .int (-1), .int (-1), .ref fa15, .ref fa16])), (fa10, .inl (cyI, 256, .inl gn_1))]) [2, 3] rfl
  have hDc := hD.sub (ws' := [(f0, .inr (3, [.ref t0, .ref x0, .int 0, .int 0, .int 0, .ref fa5, .ref fa6, .ref fa7, .ref fa8, .ref fa9, .ref fa10, .ref fa11, .ref fa12, .int (-1), .int (-1), .ref fa15, .ref fa16])), (fa10, .inl (cyI, 256, .inl gn_1))]) [2, 3] (by decide) rfl
  have hFc := va_free (wc := [(f0, .inr (3, [.ref t0, .ref x0, .int 0, .int 0, .int 0, .ref fa5, .ref fa6, .ref fa7, .ref fa8, .ref fa9, .ref fa10, .ref fa11, .ref fa12, .int (-1), .int (-1), .ref fa15, .ref fa16])), (fa10, .inl (cyI, 256, .inl gn_1))]) hD hS hA [2, 3] rfl
  refine va_callv (va_runV (As := [.int 0, .int 0]) (rest := []) ⟨hx, hb, hml, hown, hts⟩ (c_X3_clear l dC dI cyI cyZ cyJ H.size f0 t0 x0 fa5 fa6 fa7 fa8 fa9 fa10 fa11 fa12 fa15 fa16 gn_1) (cwV 2 hts gX8_judge_X3_clear rfl rfl rfl (by decide +kernel) ⟨Nat.le_of_ble_eq_true rfl, Nat.le_of_ble_eq_true rfl⟩) (x_pVD hN hK hPc hDc (ci := 3) (q0 := 0) rfl rfl) rfl rfl hl.1 rfl (lv_room (Nat.le_of_ble_eq_true rfl)) dX8_judge_186 ⟨Nat.le_of_ble_eq_true rfl, Nat.le_of_ble_eq_true rfl⟩) hS (fun q _ h => hFc q h) hFc (fun u t H1 locs ht hvm hw hB hz1 hk1 hS => ?_)
  obtain ⟨gn_9, hP1, hK1, hD1⟩ := hB
  rw [ht] at hP1
  obtain ⟨hP, hD⟩ := va_join (wr := [(h0, .inr (8, [.ref t0, .ref m0, .ref c0, .ref x0, .ref f0, .ref w0])), (c0, .inr (0, [.int 0, .int 0, .int (-1), .int 0, .int 0, .ref ca5, .int 0, .ref ca7, .ref ca8, .ref ca9, .int 0, .ref ca11, .ref ca12, .ref ca13, .ref ca14, .int 0, .ref ca16])), (x0, .inr (1, [.ref xa0, .ref xa1, .ref xa2, .ref xa3, .ref xa4, .int 1])), (xa3, .inl (cyI, 16, .inl gn_2))]) (w1 := [(f0, .inr (3, [.ref t0, .ref x0, .int 0, .int 0, .int 0, .ref fa5, .ref fa6, .ref fa7, .ref fa8, .ref fa9, .ref fa10, .ref fa11, .ref fa12, .int (-1), .int (-1), .ref fa15, .ref fa16])), (fa10, .inl (cyI, 256, .inl gn_9))]) hP hD [2, 3] [0, 1, 4, 5] rfl rfl (by decide) (by decide) hk1 hFc hP1 hD1
  clear hz1 hk1 hPc hDc hFc hP1 hK1 hD1 ht hvm t u
  generalize H1 = H at hP hS ⊢
  have hP : va_P (dC, dI) vwCl [(h0, .inr (8, [.ref t0, .ref m0, .ref c0, .ref x0, .ref f0, .ref w0])), (c0, .inr (0, [.int 0, .int 0, .int (-1), .int 0, .int 0, .ref ca5, .int 0, .ref ca7, .ref ca8, .ref ca9, .int 0, .ref ca11, .ref ca12, .ref ca13, .ref ca14, .int 0, .ref ca16])), (x0, .inr (1, [.ref xa0, .ref xa1, .ref xa2, .ref xa3, .ref xa4, .int 1])), (xa3, .inl (cyI, 16, .inl gn_2)), (f0, .inr (3, [.ref t0, .ref x0, .int 0, .int 0, .int 0, .ref fa5, .ref fa6, .ref fa7, .ref fa8, .ref fa9, .ref fa10, .ref fa11, .ref fa12, .int (-1), .int (-1), .ref fa15, .ref fa16])), (fa10, .inl (cyI, 256, .inl gn_9))] H := hP
  have hD : va_D A [(h0, .inr (8, [.ref t0, .ref m0, .ref c0, .ref x0, .ref f0, .ref w0])), (c0, .inr (0, [.int 0, .int 0, .int (-1), .int 0, .int 0, .ref ca5, .int 0, .ref ca7, .ref ca8, .ref ca9, .int 0, .ref ca11, .ref ca12, .ref ca13, .ref ca14, .int 0, .ref ca16])), (x0, .inr (1, [.ref xa0, .ref xa1, .ref xa2, .ref xa3, .ref xa4, .int 1])), (xa3, .inl (cyI, 16, .inl gn_2)), (f0, .inr (3, [.ref t0, .ref x0, .int 0, .int 0, .int 0, .ref fa5, .ref fa6, .ref fa7, .ref fa8, .ref fa9, .ref fa10, .ref fa11, .ref fa12, .int (-1), .int (-1), .ref fa15, .ref fa16])), (fa10, .inl (cyI, 256, .inl gn_9))] := hD
  refine lv_iconst (v := (-1)) hx hb dX8_judge_189 (by decide) ?_
  exact W.iret hx hb hr (fun t ht hW => ⟨⟨_, (), rfl, rfl, trivial⟩, hS.F ht⟩) hS.2.2 dX8_judge_190

def f_X8_add (p0 : Int32) (p1 : Int32) : Int32 × Int32 := if (f_X7_isClass p0) = (0 : Int32) then (1, 0) else if (x_face (Int32.toNatClampNeg p0)) = (0 : Int32) then if p1 = (0 : Int32) then (0, 4) else if p0 = (0 : Int32) then (0, 4) else (1, 0) else (1, 0)
theorem i_X8_add_X7 : ∀ w ∈ wsX70, w ∈ wsX8_add := by decide +kernel
theorem i_X8_add_X8 : ∀ w ∈ wsX80, w ∈ wsX8_add := by decide +kernel
theorem u_X8_add_1 : ∀ w ∈ (vx_atS RX8 67 "java/lang/IllegalArgumentException" ["java/lang/RuntimeException", "java/lang/Exception"]).filter goodWord, w ∈ wsX8_add := by decide +kernel
set_option maxHeartbeats 4000000 in
set_option maxRecDepth 100000 in
theorem c_X8_add (l : Launch) (hl9 : l.stackTraces = false) (dC : Nat → ClassId) (dI : Nat → Nat → Nat) (cyI cyZ cyJ : ClassId) (base : Nat) (sz : Nat) (h0 : Nat) (t0 : Nat) (m0 : Nat) (c0 : Nat) (x0 : Nat) (f0 : Nat) (w0 : Nat) (th1 : Nat) (th2 : Nat) (p0 : Int32) (p1 : Int32) : vx_Met l yX8_add wsX8_add ({ frames := 6, cells := 1, slots := 6, locals := 90 }) (va_Pc [.ref h0, .int p0, .int p1] (x_PreX (dC, dI) (x_T cyI cyZ cyJ) [(h0, .inr (8, [.ref t0, .ref m0, .ref c0, .ref x0, .ref f0, .ref w0])), (t0, .inr (7, [.ref th1, .ref th2, .int 4])), (th1, .inl (cyI, 200, .inl x_z0)), (th2, .inl (cyZ, 200, .inl x_face))] base sz)) (va_Qi (fun (r : Int32) (_ : Unit) => f_X8_add p0 p1 = (0, r)) (fun _ _ => True) (va_A [(h0, .inr (8, [.ref t0, .ref m0, .ref c0, .ref x0, .ref f0, .ref w0])), (t0, .inr (7, [.ref th1, .ref th2, .int 4])), (th1, .inl (cyI, 200, .inl x_z0)), (th2, .inl (cyZ, 200, .inl x_face))] sz)) (vx_X (fun _ : Unit => True) (fun E _ _ => x_thr (f_X8_add p0 p1).1 E) (va_A [(h0, .inr (8, [.ref t0, .ref m0, .ref c0, .ref x0, .ref f0, .ref w0])), (t0, .inr (7, [.ref th1, .ref th2, .int 4])), (th1, .inl (cyI, 200, .inl x_z0)), (th2, .inl (cyZ, 200, .inl x_face))] sz)) 1 6 (va_A [(h0, .inr (8, [.ref t0, .ref m0, .ref c0, .ref x0, .ref f0, .ref w0])), (t0, .inr (7, [.ref th1, .ref th2, .int 4])), (th1, .inl (cyI, 200, .inl x_z0)), (th2, .inl (cyZ, 200, .inl x_face))] sz) := by
  refine vx_ofW (cc := cX8_add) (maxL := 3) (ret := (some .int)) (by decide) rfl ?_
  intro p e s m args below meth c s₁ B hml hno hv
  obtain ⟨rfl, ⟨⟨hsz, hP, hK, hN⟩, hD0⟩, hDb, hbz, hG⟩ := hv
  have hx := B.exec
  have hb := B.bytes
  have hr := B.returns
  have hts := atoms_spec (ws := wsX8_add) B.pre
  have hown : s.vm.findClass RX8 = some m.cls := findClass_of_methodNamed B.named
  have hlocks := B.notSynchronized
  have k_1 := hts (.fieldLink RX8 10 "FlowJudge" "types" "LFlowJudge$Types;") (by decide +kernel)
  have k_2 := hts (.classLink RX8 63 "java/lang/IllegalArgumentException") (by decide +kernel)
  have k_3 := hts (.initialized "java/lang/IllegalArgumentException") (by decide +kernel)
  subst hsz
  have hAb : ∀ q, va_A [(h0, .inr (8, [.ref t0, .ref m0, .ref c0, .ref x0, .ref f0, .ref w0])), (t0, .inr (7, [.ref th1, .ref th2, .int 4])), (th1, .inl (cyI, 200, .inl x_z0)), (th2, .inl (cyZ, 200, .inl x_face))] s.heap.size q → x_new base q := x_Ab hDb hbz
  have hts_1 := fun w (h : w ∈ (vx_atS RX8 67 "java/lang/IllegalArgumentException" ["java/lang/RuntimeException", "java/lang/Exception"]).filter goodWord) => hts w (u_X8_add_1 w h)
  have hD := hD0.self (sz := s.heap.size)
  generalize hAe : va_A [(h0, .inr (8, [.ref t0, .ref m0, .ref c0, .ref x0, .ref f0, .ref w0])), (t0, .inr (7, [.ref th1, .ref th2, .int 4])), (th1, .inl (cyI, 200, .inl x_z0)), (th2, .inl (cyZ, 200, .inl x_face))] s.heap.size = A at hD hAb ⊢
  have hA : ∀ q : Nat, s.heap.size ≤ q → A q := fun q h => by rw [← hAe]; exact Or.inr h
  have hS : va_S A s.heap s.heap [] := va_S.rf
  have hP : va_P (dC, dI) vwCl [(h0, .inr (8, [.ref t0, .ref m0, .ref c0, .ref x0, .ref f0, .ref w0])), (t0, .inr (7, [.ref th1, .ref th2, .int 4])), (th1, .inl (cyI, 200, .inl x_z0)), (th2, .inl (cyZ, 200, .inl x_face))] s.heap := hP
  have hl := lv_entry ([.ref h0, .int p0, .int p1]) (n := 3) (Nat.le_of_ble_eq_true rfl)
  rw [lg_entry_eq]
  generalize (lg_sl ([.ref h0, .int p0, .int p1]) ++ List.replicate (3 - (lg_sl ([.ref h0, .int p0, .int p1])).length) Slot.unset).toArray = ls at hl ⊢
  have hl : lv_has ls 3 [(0, .ref h0), (1, .int p0), (2, .int p1)] := hl
  obtain ⟨H, hH⟩ : ∃ z, z = s.heap := ⟨_, rfl⟩
  refine x_here hH ?_
  have hP : va_P (dC, dI) vwCl [(h0, .inr (8, [.ref t0, .ref m0, .ref c0, .ref x0, .ref f0, .ref w0])), (t0, .inr (7, [.ref th1, .ref th2, .int 4])), (th1, .inl (cyI, 200, .inl x_z0)), (th2, .inl (cyZ, 200, .inl x_face))] H := by rw [hH]; exact hP
  have hS : va_S A s.heap H [] := by rw [hH]; exact va_S.rf
  clear hH
  refine lv_aload_n hx hb dX8_add_0 rfl (lv_at hl 0 rfl) ?_
  refine va_get (D := (dC, dI)) (ci := 8) (v := .ref t0) (C := RX8) (T := TX8) (N := 6) hx hb hts i_X8_add_X8 hown hK hP 0 rfl rfl 0 (by decide) k_1 (fun _ h9 => h9) rfl dX8_add_1 ?_
  refine lv_iload_n hx hb dX8_add_4 rfl (lv_at hl 1 rfl) ?_
  have hPc := hP.sub (ws' := [(t0, .inr (7, [.ref th1, .ref th2, .int 4]))]) [1] rfl
  refine va_calli (va_runV (As := [.int p0]) (rest := []) ⟨hx, hb, hml, hown, hts⟩ (c_X7_isClass l dC dI cyI cyZ cyJ H.size t0 th1 th2 p0) (cwV 1 hts gX8_add_X7_isClass rfl rfl rfl (by decide +kernel) ⟨Nat.le_of_ble_eq_true rfl, Nat.le_of_ble_eq_true rfl⟩) (x_pV hN hK hPc (ci := 7) (q0 := 0) rfl rfl) rfl rfl hl.1 rfl (lv_room (Nat.le_of_ble_eq_true rfl)) dX8_add_5 ⟨Nat.le_of_ble_eq_true rfl, Nat.le_of_ble_eq_true rfl⟩) hS x_nA (x_nf hA hS) (fun r_5 u t H1 locs ht hvm hw hB hz1 hk1 hS => ?_)
  have hP := x_kp hP hk1
  clear ht hvm hB hz1 hk1 t u hPc
  generalize H1 = H at hP hS ⊢
  obtain rfl := hw
  refine lv_if_eq (tgt := 31) hx hb dX8_add_8 (by decide) (fun c_1 => ?_) (fun c_1 => ?_)
  · skip
    obtain ⟨sa, hsa⟩ := hG.2.2.1 (65, "no CLASS that such a one can be below") (by decide)
    refine vx_throwS (cls := "java/lang/IllegalArgumentException") (names := ["java/lang/RuntimeException", "java/lang/Exception"]) hx hb hl9 hown (by decide +kernel) (by decide +kernel) k_2 k_3 hsa (x_at1 hG.2.2.2 hts_1) (by decide +kernel) (hG.1.narrow hAb) (hG.2.1.narrow hAb) hS (hl.1.trans hml.symm) dX8_add_31 dX8_add_34 dX8_add_35 dX8_add_37 dX8_add_40 (fun z hz => (hno z hz).elim) (Nat.le_of_ble_eq_true rfl) (Nat.le_of_ble_eq_true rfl) (Nat.le_of_ble_eq_true rfl) (Nat.le_of_ble_eq_true rfl) hlocks (fun t ha h1 h2 => ⟨(), trivial, (by rw [show f_X8_add p0 p1 = (1, 0) from by rw [f_X8_add, if_pos c_1]]; exact x_thr1), x_mv hS h1 h2⟩) hS.2.2 (Nat.le_of_ble_eq_true rfl) (Nat.le_of_ble_eq_true rfl)
  · skip
    refine lv_aload_n hx hb dX8_add_11 rfl (lv_at hl 0 rfl) ?_
    refine va_get (D := (dC, dI)) (ci := 8) (v := .ref t0) (C := RX8) (T := TX8) (N := 6) hx hb hts i_X8_add_X8 hown hK hP 0 rfl rfl 0 (by decide) k_1 (fun _ h9 => h9) rfl dX8_add_12 ?_
    refine va_getN (D := (dC, dI)) (ci := 7) (v := .ref th2) (C := RX7) (T := TX7) (N := 3) hx hb hts i_X8_add_X7 hown hK hP 1 rfl rfl 1 (by decide) ((hN.1 (59, "FlowJudge$Types", "isInterface", "[Z") (by decide)).use rfl) (fun _ h9 => h9) rfl dX8_add_15 ?_
    refine lv_iload_n hx hb dX8_add_18 rfl (lv_at hl 1 rfl) ?_
    refine va_zald hx hb hK hP 3 1 rfl rfl (x_cls (by assumption)) dX8_add_19 ?_
    refine lv_if_ne (tgt := 31) hx hb dX8_add_20 (by decide) (fun c_2 => ?_) (fun c_2 => ?_)
    · skip
      obtain ⟨sa, hsa⟩ := hG.2.2.1 (65, "no CLASS that such a one can be below") (by decide)
      refine vx_throwS (cls := "java/lang/IllegalArgumentException") (names := ["java/lang/RuntimeException", "java/lang/Exception"]) hx hb hl9 hown (by decide +kernel) (by decide +kernel) k_2 k_3 hsa (x_at1 hG.2.2.2 hts_1) (by decide +kernel) (hG.1.narrow hAb) (hG.2.1.narrow hAb) hS (hl.1.trans hml.symm) dX8_add_31 dX8_add_34 dX8_add_35 dX8_add_37 dX8_add_40 (fun z hz => (hno z hz).elim) (Nat.le_of_ble_eq_true rfl) (Nat.le_of_ble_eq_true rfl) (Nat.le_of_ble_eq_true rfl) (Nat.le_of_ble_eq_true rfl) hlocks (fun t ha h1 h2 => ⟨(), trivial, (by rw [show f_X8_add p0 p1 = (1, 0) from by rw [f_X8_add, if_neg c_1, if_neg c_2]]; exact x_thr1), x_mv hS h1 h2⟩) hS.2.2 (Nat.le_of_ble_eq_true rfl) (Nat.le_of_ble_eq_true rfl)
    · skip
      refine lv_iload_n hx hb dX8_add_23 rfl (lv_at hl 2 rfl) ?_
      refine lv_if_eq (tgt := 41) hx hb dX8_add_24 (by decide) (fun c_3 => ?_) (fun c_3 => ?_)
      · skip
        refine lv_aload_n hx hb dX8_add_41 rfl (lv_at hl 0 rfl) ?_
        refine va_get (D := (dC, dI)) (ci := 8) (v := .ref t0) (C := RX8) (T := TX8) (N := 6) hx hb hts i_X8_add_X8 hown hK hP 0 rfl rfl 0 (by decide) k_1 (fun _ h9 => h9) rfl dX8_add_42 ?_
        refine va_getN (D := (dC, dI)) (ci := 7) (v := .int 4) (C := RX7) (T := TX7) (N := 3) hx hb hts i_X8_add_X7 hown hK hP 1 rfl rfl 2 (by decide) ((hN.1 (70, "FlowJudge$Types", "count", "I") (by decide)).use rfl) (fun _ h9 => h9) rfl dX8_add_45 ?_
        refine lv_sipush (v := 200) hx hb dX8_add_48 (by decide) ?_
        refine lv_icmp_lt (tgt := 64) hx hb dX8_add_51 (by decide) (fun _ => ?_) (fun c_4 => absurd (by decide) c_4)
        refine lv_aload_n hx hb dX8_add_64 rfl (lv_at hl 0 rfl) ?_
        refine va_get (D := (dC, dI)) (ci := 8) (v := .ref t0) (C := RX8) (T := TX8) (N := 6) hx hb hts i_X8_add_X8 hown hK hP 0 rfl rfl 0 (by decide) k_1 (fun _ h9 => h9) rfl dX8_add_65 ?_
        refine lv_iload_n hx hb dX8_add_68 rfl (lv_at hl 1 rfl) ?_
        refine lv_iload_n hx hb dX8_add_69 rfl (lv_at hl 2 rfl) ?_
        have hPc := hP.sub (ws' := [(t0, .inr (7, [.ref th1, .ref th2, .int 4])), (th1, .inl (cyI, 200, .inl x_z0)), (th2, .inl (cyZ, 200, .inl x_face))]) [1, 2, 3] rfl
        have hDc := hD.sub (ws' := [(t0, .inr (7, [.ref th1, .ref th2, .int 4])), (th1, .inl (cyI, 200, .inl x_z0)), (th2, .inl (cyZ, 200, .inl x_face))]) [1, 2, 3] (by decide) rfl
        have hFc := va_free (wc := [(t0, .inr (7, [.ref th1, .ref th2, .int 4])), (th1, .inl (cyI, 200, .inl x_z0)), (th2, .inl (cyZ, 200, .inl x_face))]) hD hS hA [1, 2, 3] rfl
        refine va_calli (va_runV (As := [.int p0, .int p1]) (rest := []) ⟨hx, hb, hml, hown, hts⟩ (c_X7_enter l dC dI cyI cyZ cyJ H.size t0 th1 th2 p0 p1) (cwV 2 hts gX8_add_X7_enter rfl rfl rfl (by decide +kernel) ⟨Nat.le_of_ble_eq_true rfl, Nat.le_of_ble_eq_true rfl⟩) (x_pVD hN hK hPc hDc (ci := 7) (q0 := 0) rfl rfl) rfl rfl hl.1 rfl (lv_room (Nat.le_of_ble_eq_true rfl)) dX8_add_70 ⟨Nat.le_of_ble_eq_true rfl, Nat.le_of_ble_eq_true rfl⟩) hS (fun q _ h => hFc q h) hFc (fun r_70 u t H1 locs ht hvm hw hB hz1 hk1 hS => ?_)
        obtain ⟨hP, hD⟩ := va_join (wr := [(h0, .inr (8, [.ref t0, .ref m0, .ref c0, .ref x0, .ref f0, .ref w0]))]) (w1 := []) hP hD [1, 2, 3] [0] rfl rfl (by decide) (by decide) hk1 hFc x_P0 x_D0
        clear ht hvm hB hz1 hk1 t u hPc hDc hFc
        generalize H1 = H at hP hS ⊢
        have hP : va_P (dC, dI) vwCl [(h0, .inr (8, [.ref t0, .ref m0, .ref c0, .ref x0, .ref f0, .ref w0]))] H := hP
        have hD : va_D A [(h0, .inr (8, [.ref t0, .ref m0, .ref c0, .ref x0, .ref f0, .ref w0]))] := hD
        obtain rfl := hw
        refine vx_ret ?_
        refine W.widen (k := 1) (n := 6) (Nat.le_of_ble_eq_true rfl) (Nat.le_of_ble_eq_true rfl) ?_
        exact W.iret hx hb hr (fun t ht hW => ⟨⟨_, (), rfl, by rw [f_X8_add, if_neg c_1, if_pos c_2, if_pos c_3], trivial⟩, hS.F ht⟩) hS.2.2 dX8_add_73
      · skip
        refine lv_iload_n hx hb dX8_add_27 rfl (lv_at hl 1 rfl) ?_
        refine lv_if_eq (tgt := 41) hx hb dX8_add_28 (by decide) (fun c_5 => ?_) (fun c_5 => ?_)
        · skip
          refine lv_aload_n hx hb dX8_add_41 rfl (lv_at hl 0 rfl) ?_
          refine va_get (D := (dC, dI)) (ci := 8) (v := .ref t0) (C := RX8) (T := TX8) (N := 6) hx hb hts i_X8_add_X8 hown hK hP 0 rfl rfl 0 (by decide) k_1 (fun _ h9 => h9) rfl dX8_add_42 ?_
          refine va_getN (D := (dC, dI)) (ci := 7) (v := .int 4) (C := RX7) (T := TX7) (N := 3) hx hb hts i_X8_add_X7 hown hK hP 1 rfl rfl 2 (by decide) ((hN.1 (70, "FlowJudge$Types", "count", "I") (by decide)).use rfl) (fun _ h9 => h9) rfl dX8_add_45 ?_
          refine lv_sipush (v := 200) hx hb dX8_add_48 (by decide) ?_
          refine lv_icmp_lt (tgt := 64) hx hb dX8_add_51 (by decide) (fun _ => ?_) (fun c_6 => absurd (by decide) c_6)
          refine lv_aload_n hx hb dX8_add_64 rfl (lv_at hl 0 rfl) ?_
          refine va_get (D := (dC, dI)) (ci := 8) (v := .ref t0) (C := RX8) (T := TX8) (N := 6) hx hb hts i_X8_add_X8 hown hK hP 0 rfl rfl 0 (by decide) k_1 (fun _ h9 => h9) rfl dX8_add_65 ?_
          refine lv_iload_n hx hb dX8_add_68 rfl (lv_at hl 1 rfl) ?_
          refine lv_iload_n hx hb dX8_add_69 rfl (lv_at hl 2 rfl) ?_
          have hPc := hP.sub (ws' := [(t0, .inr (7, [.ref th1, .ref th2, .int 4])), (th1, .inl (cyI, 200, .inl x_z0)), (th2, .inl (cyZ, 200, .inl x_face))]) [1, 2, 3] rfl
          have hDc := hD.sub (ws' := [(t0, .inr (7, [.ref th1, .ref th2, .int 4])), (th1, .inl (cyI, 200, .inl x_z0)), (th2, .inl (cyZ, 200, .inl x_face))]) [1, 2, 3] (by decide) rfl
          have hFc := va_free (wc := [(t0, .inr (7, [.ref th1, .ref th2, .int 4])), (th1, .inl (cyI, 200, .inl x_z0)), (th2, .inl (cyZ, 200, .inl x_face))]) hD hS hA [1, 2, 3] rfl
          refine va_calli (va_runV (As := [.int p0, .int p1]) (rest := []) ⟨hx, hb, hml, hown, hts⟩ (c_X7_enter l dC dI cyI cyZ cyJ H.size t0 th1 th2 p0 p1) (cwV 2 hts gX8_add_X7_enter rfl rfl rfl (by decide +kernel) ⟨Nat.le_of_ble_eq_true rfl, Nat.le_of_ble_eq_true rfl⟩) (x_pVD hN hK hPc hDc (ci := 7) (q0 := 0) rfl rfl) rfl rfl hl.1 rfl (lv_room (Nat.le_of_ble_eq_true rfl)) dX8_add_70 ⟨Nat.le_of_ble_eq_true rfl, Nat.le_of_ble_eq_true rfl⟩) hS (fun q _ h => hFc q h) hFc (fun r_70 u t H1 locs ht hvm hw hB hz1 hk1 hS => ?_)
          obtain ⟨hP, hD⟩ := va_join (wr := [(h0, .inr (8, [.ref t0, .ref m0, .ref c0, .ref x0, .ref f0, .ref w0]))]) (w1 := []) hP hD [1, 2, 3] [0] rfl rfl (by decide) (by decide) hk1 hFc x_P0 x_D0
          clear ht hvm hB hz1 hk1 t u hPc hDc hFc
          generalize H1 = H at hP hS ⊢
          have hP : va_P (dC, dI) vwCl [(h0, .inr (8, [.ref t0, .ref m0, .ref c0, .ref x0, .ref f0, .ref w0]))] H := hP
          have hD : va_D A [(h0, .inr (8, [.ref t0, .ref m0, .ref c0, .ref x0, .ref f0, .ref w0]))] := hD
          obtain rfl := hw
          refine vx_ret ?_
          refine W.widen (k := 1) (n := 6) (Nat.le_of_ble_eq_true rfl) (Nat.le_of_ble_eq_true rfl) ?_
          exact W.iret hx hb hr (fun t ht hW => ⟨⟨_, (), rfl, by rw [f_X8_add, if_neg c_1, if_pos c_2, if_neg c_3, if_pos c_5], trivial⟩, hS.F ht⟩) hS.2.2 dX8_add_73
        · skip
          obtain ⟨sa, hsa⟩ := hG.2.2.1 (65, "no CLASS that such a one can be below") (by decide)
          refine vx_throwS (cls := "java/lang/IllegalArgumentException") (names := ["java/lang/RuntimeException", "java/lang/Exception"]) hx hb hl9 hown (by decide +kernel) (by decide +kernel) k_2 k_3 hsa (x_at1 hG.2.2.2 hts_1) (by decide +kernel) (hG.1.narrow hAb) (hG.2.1.narrow hAb) hS (hl.1.trans hml.symm) dX8_add_31 dX8_add_34 dX8_add_35 dX8_add_37 dX8_add_40 (fun z hz => (hno z hz).elim) (Nat.le_of_ble_eq_true rfl) (Nat.le_of_ble_eq_true rfl) (Nat.le_of_ble_eq_true rfl) (Nat.le_of_ble_eq_true rfl) hlocks (fun t ha h1 h2 => ⟨(), trivial, (by rw [show f_X8_add p0 p1 = (1, 0) from by rw [f_X8_add, if_neg c_1, if_pos c_2, if_neg c_3, if_neg c_5]]; exact x_thr1), x_mv hS h1 h2⟩) hS.2.2 (Nat.le_of_ble_eq_true rfl) (Nat.le_of_ble_eq_true rfl)

def f_X8_field (p0 : Int32) (p1 : Int32) : Int32 × Int32 := if (f_X7_isClass p0) = (0 : Int32) then (1, 0) else if (f_X7_isType p1) = (0 : Int32) then (1, 0) else (0, 0)
theorem i_X8_field_X4 : ∀ w ∈ wsX40, w ∈ wsX8_field := by decide +kernel
theorem i_X8_field_X8 : ∀ w ∈ wsX80, w ∈ wsX8_field := by decide +kernel
theorem u_X8_field_1 : ∀ w ∈ (vx_atS RX8 67 "java/lang/IllegalArgumentException" ["java/lang/RuntimeException", "java/lang/Exception"]).filter goodWord, w ∈ wsX8_field := by decide +kernel
set_option maxHeartbeats 4000000 in
set_option maxRecDepth 100000 in
theorem c_X8_field (l : Launch) (hl9 : l.stackTraces = false) (dC : Nat → ClassId) (dI : Nat → Nat → Nat) (cyI cyZ cyJ : ClassId) (base : Nat) (sz : Nat) (h0 : Nat) (t0 : Nat) (m0 : Nat) (c0 : Nat) (x0 : Nat) (f0 : Nat) (w0 : Nat) (th1 : Nat) (th2 : Nat) (ma0 : Nat) (ma1 : Nat) (ma3 : Nat) (ma4 : Nat) (ma5 : Nat) (ma6 : Nat) (ma7 : Nat) (g0 : Nat → Int32) (g1 : Nat → Int32) (p0 : Int32) (p1 : Int32) : vx_Met l yX8_field wsX8_field ({ frames := 6, cells := 1, slots := 6, locals := 90 }) (va_Pc [.ref h0, .int p0, .int p1] (x_PreX (dC, dI) (x_T cyI cyZ cyJ) [(h0, .inr (8, [.ref t0, .ref m0, .ref c0, .ref x0, .ref f0, .ref w0])), (t0, .inr (7, [.ref th1, .ref th2, .int 4])), (m0, .inr (4, [.ref ma0, .ref ma1, .int 0, .ref ma3, .ref ma4, .ref ma5, .ref ma6, .ref ma7, .int 0])), (ma0, .inl (cyI, 100, .inl g0)), (ma1, .inl (cyI, 100, .inl g1))] base sz)) (va_Qi (fun (r : Int32) (_ : Unit) => f_X8_field p0 p1 = (0, r)) (fun _ _ => True) (va_A [(h0, .inr (8, [.ref t0, .ref m0, .ref c0, .ref x0, .ref f0, .ref w0])), (t0, .inr (7, [.ref th1, .ref th2, .int 4])), (m0, .inr (4, [.ref ma0, .ref ma1, .int 0, .ref ma3, .ref ma4, .ref ma5, .ref ma6, .ref ma7, .int 0])), (ma0, .inl (cyI, 100, .inl g0)), (ma1, .inl (cyI, 100, .inl g1))] sz)) (vx_X (fun _ : Unit => True) (fun E _ _ => x_thr (f_X8_field p0 p1).1 E) (va_A [(h0, .inr (8, [.ref t0, .ref m0, .ref c0, .ref x0, .ref f0, .ref w0])), (t0, .inr (7, [.ref th1, .ref th2, .int 4])), (m0, .inr (4, [.ref ma0, .ref ma1, .int 0, .ref ma3, .ref ma4, .ref ma5, .ref ma6, .ref ma7, .int 0])), (ma0, .inl (cyI, 100, .inl g0)), (ma1, .inl (cyI, 100, .inl g1))] sz)) 1 6 (va_A [(h0, .inr (8, [.ref t0, .ref m0, .ref c0, .ref x0, .ref f0, .ref w0])), (t0, .inr (7, [.ref th1, .ref th2, .int 4])), (m0, .inr (4, [.ref ma0, .ref ma1, .int 0, .ref ma3, .ref ma4, .ref ma5, .ref ma6, .ref ma7, .int 0])), (ma0, .inl (cyI, 100, .inl g0)), (ma1, .inl (cyI, 100, .inl g1))] sz) := by
  refine vx_ofW (cc := cX8_field) (maxL := 3) (ret := (some .int)) (by decide) rfl ?_
  intro p e s m args below meth c s₁ B hml hno hv
  obtain ⟨rfl, ⟨⟨hsz, hP, hK, hN⟩, hD0⟩, hDb, hbz, hG⟩ := hv
  have hx := B.exec
  have hb := B.bytes
  have hr := B.returns
  have hts := atoms_spec (ws := wsX8_field) B.pre
  have hown : s.vm.findClass RX8 = some m.cls := findClass_of_methodNamed B.named
  have hlocks := B.notSynchronized
  have k_1 := hts (.fieldLink RX8 10 "FlowJudge" "types" "LFlowJudge$Types;") (by decide +kernel)
  have k_2 := hts (.classLink RX8 63 "java/lang/IllegalArgumentException") (by decide +kernel)
  have k_3 := hts (.initialized "java/lang/IllegalArgumentException") (by decide +kernel)
  have k_4 := hts (.fieldLink RX8 19 "FlowJudge" "members" "LFlowJudge$Members;") (by decide +kernel)
  subst hsz
  have hAb : ∀ q, va_A [(h0, .inr (8, [.ref t0, .ref m0, .ref c0, .ref x0, .ref f0, .ref w0])), (t0, .inr (7, [.ref th1, .ref th2, .int 4])), (m0, .inr (4, [.ref ma0, .ref ma1, .int 0, .ref ma3, .ref ma4, .ref ma5, .ref ma6, .ref ma7, .int 0])), (ma0, .inl (cyI, 100, .inl g0)), (ma1, .inl (cyI, 100, .inl g1))] s.heap.size q → x_new base q := x_Ab hDb hbz
  have hts_1 := fun w (h : w ∈ (vx_atS RX8 67 "java/lang/IllegalArgumentException" ["java/lang/RuntimeException", "java/lang/Exception"]).filter goodWord) => hts w (u_X8_field_1 w h)
  have hD := hD0.self (sz := s.heap.size)
  generalize hAe : va_A [(h0, .inr (8, [.ref t0, .ref m0, .ref c0, .ref x0, .ref f0, .ref w0])), (t0, .inr (7, [.ref th1, .ref th2, .int 4])), (m0, .inr (4, [.ref ma0, .ref ma1, .int 0, .ref ma3, .ref ma4, .ref ma5, .ref ma6, .ref ma7, .int 0])), (ma0, .inl (cyI, 100, .inl g0)), (ma1, .inl (cyI, 100, .inl g1))] s.heap.size = A at hD hAb ⊢
  have hA : ∀ q : Nat, s.heap.size ≤ q → A q := fun q h => by rw [← hAe]; exact Or.inr h
  have hS : va_S A s.heap s.heap [] := va_S.rf
  have hP : va_P (dC, dI) vwCl [(h0, .inr (8, [.ref t0, .ref m0, .ref c0, .ref x0, .ref f0, .ref w0])), (t0, .inr (7, [.ref th1, .ref th2, .int 4])), (m0, .inr (4, [.ref ma0, .ref ma1, .int 0, .ref ma3, .ref ma4, .ref ma5, .ref ma6, .ref ma7, .int 0])), (ma0, .inl (cyI, 100, .inl g0)), (ma1, .inl (cyI, 100, .inl g1))] s.heap := hP
  have hl := lv_entry ([.ref h0, .int p0, .int p1]) (n := 3) (Nat.le_of_ble_eq_true rfl)
  rw [lg_entry_eq]
  generalize (lg_sl ([.ref h0, .int p0, .int p1]) ++ List.replicate (3 - (lg_sl ([.ref h0, .int p0, .int p1])).length) Slot.unset).toArray = ls at hl ⊢
  have hl : lv_has ls 3 [(0, .ref h0), (1, .int p0), (2, .int p1)] := hl
  obtain ⟨H, hH⟩ : ∃ z, z = s.heap := ⟨_, rfl⟩
  refine x_here hH ?_
  have hP : va_P (dC, dI) vwCl [(h0, .inr (8, [.ref t0, .ref m0, .ref c0, .ref x0, .ref f0, .ref w0])), (t0, .inr (7, [.ref th1, .ref th2, .int 4])), (m0, .inr (4, [.ref ma0, .ref ma1, .int 0, .ref ma3, .ref ma4, .ref ma5, .ref ma6, .ref ma7, .int 0])), (ma0, .inl (cyI, 100, .inl g0)), (ma1, .inl (cyI, 100, .inl g1))] H := by rw [hH]; exact hP
  have hS : va_S A s.heap H [] := by rw [hH]; exact va_S.rf
  clear hH
  refine lv_aload_n hx hb dX8_field_0 rfl (lv_at hl 0 rfl) ?_
  refine va_get (D := (dC, dI)) (ci := 8) (v := .ref t0) (C := RX8) (T := TX8) (N := 6) hx hb hts i_X8_field_X8 hown hK hP 0 rfl rfl 0 (by decide) k_1 (fun _ h9 => h9) rfl dX8_field_1 ?_
  refine lv_iload_n hx hb dX8_field_4 rfl (lv_at hl 1 rfl) ?_
  have hPc := hP.sub (ws' := [(t0, .inr (7, [.ref th1, .ref th2, .int 4]))]) [1] rfl
  refine va_calli (va_runV (As := [.int p0]) (rest := []) ⟨hx, hb, hml, hown, hts⟩ (c_X7_isClass l dC dI cyI cyZ cyJ H.size t0 th1 th2 p0) (cwV 1 hts gX8_field_X7_isClass rfl rfl rfl (by decide +kernel) ⟨Nat.le_of_ble_eq_true rfl, Nat.le_of_ble_eq_true rfl⟩) (x_pV hN hK hPc (ci := 7) (q0 := 0) rfl rfl) rfl rfl hl.1 rfl (lv_room (Nat.le_of_ble_eq_true rfl)) dX8_field_5 ⟨Nat.le_of_ble_eq_true rfl, Nat.le_of_ble_eq_true rfl⟩) hS x_nA (x_nf hA hS) (fun r_5 u t H1 locs ht hvm hw hB hz1 hk1 hS => ?_)
  have hP := x_kp hP hk1
  clear ht hvm hB hz1 hk1 t u hPc
  generalize H1 = H at hP hS ⊢
  obtain rfl := hw
  refine lv_if_eq (tgt := 22) hx hb dX8_field_8 (by decide) (fun c_1 => ?_) (fun c_1 => ?_)
  · skip
    obtain ⟨sa, hsa⟩ := hG.2.2.1 (86, "no CLASS or no TYPE") (by decide)
    refine vx_throwS (cls := "java/lang/IllegalArgumentException") (names := ["java/lang/RuntimeException", "java/lang/Exception"]) hx hb hl9 hown (by decide +kernel) (by decide +kernel) k_2 k_3 hsa (x_at1 hG.2.2.2 hts_1) (by decide +kernel) (hG.1.narrow hAb) (hG.2.1.narrow hAb) hS (hl.1.trans hml.symm) dX8_field_22 dX8_field_25 dX8_field_26 dX8_field_28 dX8_field_31 (fun z hz => (hno z hz).elim) (Nat.le_of_ble_eq_true rfl) (Nat.le_of_ble_eq_true rfl) (Nat.le_of_ble_eq_true rfl) (Nat.le_of_ble_eq_true rfl) hlocks (fun t ha h1 h2 => ⟨(), trivial, (by rw [show f_X8_field p0 p1 = (1, 0) from by rw [f_X8_field, if_pos c_1]]; exact x_thr1), x_mv hS h1 h2⟩) hS.2.2 (Nat.le_of_ble_eq_true rfl) (Nat.le_of_ble_eq_true rfl)
  · skip
    refine lv_aload_n hx hb dX8_field_11 rfl (lv_at hl 0 rfl) ?_
    refine va_get (D := (dC, dI)) (ci := 8) (v := .ref t0) (C := RX8) (T := TX8) (N := 6) hx hb hts i_X8_field_X8 hown hK hP 0 rfl rfl 0 (by decide) k_1 (fun _ h9 => h9) rfl dX8_field_12 ?_
    refine lv_iload_n hx hb dX8_field_15 rfl (lv_at hl 2 rfl) ?_
    have hPc := hP.sub (ws' := [(t0, .inr (7, [.ref th1, .ref th2, .int 4]))]) [1] rfl
    refine va_calli (va_runV (As := [.int p1]) (rest := []) ⟨hx, hb, hml, hown, hts⟩ (c_X7_isType l dC dI cyI cyZ cyJ H.size t0 th1 th2 p1) (cwV 1 hts gX8_field_X7_isType rfl rfl rfl (by decide +kernel) ⟨Nat.le_of_ble_eq_true rfl, Nat.le_of_ble_eq_true rfl⟩) (x_pV hN hK hPc (ci := 7) (q0 := 0) rfl rfl) rfl rfl hl.1 rfl (lv_room (Nat.le_of_ble_eq_true rfl)) dX8_field_16 ⟨Nat.le_of_ble_eq_true rfl, Nat.le_of_ble_eq_true rfl⟩) hS x_nA (x_nf hA hS) (fun r_16 u t H1 locs ht hvm hw hB hz1 hk1 hS => ?_)
    have hP := x_kp hP hk1
    clear ht hvm hB hz1 hk1 t u hPc
    generalize H1 = H at hP hS ⊢
    obtain rfl := hw
    refine lv_if_ne (tgt := 32) hx hb dX8_field_19 (by decide) (fun c_2 => ?_) (fun c_2 => ?_)
    · skip
      refine lv_aload_n hx hb dX8_field_32 rfl (lv_at hl 0 rfl) ?_
      refine va_get (D := (dC, dI)) (ci := 8) (v := .ref m0) (C := RX8) (T := TX8) (N := 6) hx hb hts i_X8_field_X8 hown hK hP 0 rfl rfl 1 (by decide) k_4 (fun _ h9 => h9) rfl dX8_field_33 ?_
      refine va_getN (D := (dC, dI)) (ci := 4) (v := .int 0) (C := RX4) (T := TX4) (N := 9) hx hb hts i_X8_field_X4 hown hK hP 2 rfl rfl 2 (by decide) ((hN.1 (88, "FlowJudge$Members", "fieldCount", "I") (by decide)).use rfl) (fun _ h9 => h9) rfl dX8_field_36 ?_
      refine lv_bipush (v := 100) hx hb dX8_field_39 (by decide) ?_
      refine lv_icmp_lt (tgt := 54) hx hb dX8_field_41 (by decide) (fun _ => ?_) (fun c_3 => absurd (by decide) c_3)
      refine lv_aload_n hx hb dX8_field_54 rfl (lv_at hl 0 rfl) ?_
      refine va_get (D := (dC, dI)) (ci := 8) (v := .ref m0) (C := RX8) (T := TX8) (N := 6) hx hb hts i_X8_field_X8 hown hK hP 0 rfl rfl 1 (by decide) k_4 (fun _ h9 => h9) rfl dX8_field_55 ?_
      refine lv_iload_n hx hb dX8_field_58 rfl (lv_at hl 1 rfl) ?_
      refine lv_iload_n hx hb dX8_field_59 rfl (lv_at hl 2 rfl) ?_
      have hPc := hP.sub (ws' := [(m0, .inr (4, [.ref ma0, .ref ma1, .int 0, .ref ma3, .ref ma4, .ref ma5, .ref ma6, .ref ma7, .int 0])), (ma0, .inl (cyI, 100, .inl g0)), (ma1, .inl (cyI, 100, .inl g1))]) [2, 3, 4] rfl
      have hDc := hD.sub (ws' := [(m0, .inr (4, [.ref ma0, .ref ma1, .int 0, .ref ma3, .ref ma4, .ref ma5, .ref ma6, .ref ma7, .int 0])), (ma0, .inl (cyI, 100, .inl g0)), (ma1, .inl (cyI, 100, .inl g1))]) [2, 3, 4] (by decide) rfl
      have hFc := va_free (wc := [(m0, .inr (4, [.ref ma0, .ref ma1, .int 0, .ref ma3, .ref ma4, .ref ma5, .ref ma6, .ref ma7, .int 0])), (ma0, .inl (cyI, 100, .inl g0)), (ma1, .inl (cyI, 100, .inl g1))]) hD hS hA [2, 3, 4] rfl
      refine va_calli (va_runV (As := [.int p0, .int p1]) (rest := []) ⟨hx, hb, hml, hown, hts⟩ (c_X4_enterField l dC dI cyI cyZ cyJ H.size m0 ma0 ma1 ma3 ma4 ma5 ma6 ma7 g0 g1 p0 p1) (cwV 2 hts gX8_field_X4_enterField rfl rfl rfl (by decide +kernel) ⟨Nat.le_of_ble_eq_true rfl, Nat.le_of_ble_eq_true rfl⟩) (x_pVD hN hK hPc hDc (ci := 4) (q0 := 0) rfl rfl) rfl rfl hl.1 rfl (lv_room (Nat.le_of_ble_eq_true rfl)) dX8_field_60 ⟨Nat.le_of_ble_eq_true rfl, Nat.le_of_ble_eq_true rfl⟩) hS (fun q _ h => hFc q h) hFc (fun r_60 u t H1 locs ht hvm hw hB hz1 hk1 hS => ?_)
      obtain ⟨hP, hD⟩ := va_join (wr := [(h0, .inr (8, [.ref t0, .ref m0, .ref c0, .ref x0, .ref f0, .ref w0])), (t0, .inr (7, [.ref th1, .ref th2, .int 4]))]) (w1 := []) hP hD [2, 3, 4] [0, 1] rfl rfl (by decide) (by decide) hk1 hFc x_P0 x_D0
      clear ht hvm hB hz1 hk1 t u hPc hDc hFc
      generalize H1 = H at hP hS ⊢
      have hP : va_P (dC, dI) vwCl [(h0, .inr (8, [.ref t0, .ref m0, .ref c0, .ref x0, .ref f0, .ref w0])), (t0, .inr (7, [.ref th1, .ref th2, .int 4]))] H := hP
      have hD : va_D A [(h0, .inr (8, [.ref t0, .ref m0, .ref c0, .ref x0, .ref f0, .ref w0])), (t0, .inr (7, [.ref th1, .ref th2, .int 4]))] := hD
      obtain rfl := hw
      refine vx_ret ?_
      refine W.widen (k := 1) (n := 6) (Nat.le_of_ble_eq_true rfl) (Nat.le_of_ble_eq_true rfl) ?_
      exact W.iret hx hb hr (fun t ht hW => ⟨⟨_, (), rfl, by rw [f_X8_field, if_neg c_1, if_neg c_2], trivial⟩, hS.F ht⟩) hS.2.2 dX8_field_63
    · skip
      obtain ⟨sa, hsa⟩ := hG.2.2.1 (86, "no CLASS or no TYPE") (by decide)
      refine vx_throwS (cls := "java/lang/IllegalArgumentException") (names := ["java/lang/RuntimeException", "java/lang/Exception"]) hx hb hl9 hown (by decide +kernel) (by decide +kernel) k_2 k_3 hsa (x_at1 hG.2.2.2 hts_1) (by decide +kernel) (hG.1.narrow hAb) (hG.2.1.narrow hAb) hS (hl.1.trans hml.symm) dX8_field_22 dX8_field_25 dX8_field_26 dX8_field_28 dX8_field_31 (fun z hz => (hno z hz).elim) (Nat.le_of_ble_eq_true rfl) (Nat.le_of_ble_eq_true rfl) (Nat.le_of_ble_eq_true rfl) (Nat.le_of_ble_eq_true rfl) hlocks (fun t ha h1 h2 => ⟨(), trivial, (by rw [show f_X8_field p0 p1 = (1, 0) from by rw [f_X8_field, if_neg c_1, if_pos c_2]]; exact x_thr1), x_mv hS h1 h2⟩) hS.2.2 (Nat.le_of_ble_eq_true rfl) (Nat.le_of_ble_eq_true rfl)

def f_X8_shape (p0 : Int32) (p1 : Int32) (p2 : Int32) : Int32 × Int32 := if (f_X7_isClass p0) = (0 : Int32) then (1, 0) else if (f_X7_isResult p1) = (0 : Int32) then (1, 0) else if p2 = (0 : Int32) then (0, 0) else if p1 = (-1 : Int32) then if (x_face (Int32.toNatClampNeg p0)) = (0 : Int32) then (0, 0) else (1, 0) else (1, 0)
theorem i_X8_shape_X4 : ∀ w ∈ wsX40, w ∈ wsX8_shape := by decide +kernel
theorem i_X8_shape_X7 : ∀ w ∈ wsX70, w ∈ wsX8_shape := by decide +kernel
theorem i_X8_shape_X8 : ∀ w ∈ wsX80, w ∈ wsX8_shape := by decide +kernel
theorem u_X8_shape_1 : ∀ w ∈ (vx_atS RX8 67 "java/lang/IllegalArgumentException" ["java/lang/RuntimeException", "java/lang/Exception"]).filter goodWord, w ∈ wsX8_shape := by decide +kernel
set_option maxHeartbeats 4000000 in
set_option maxRecDepth 100000 in
theorem c_X8_shape (l : Launch) (hl9 : l.stackTraces = false) (dC : Nat → ClassId) (dI : Nat → Nat → Nat) (cyI cyZ cyJ : ClassId) (base : Nat) (sz : Nat) (h0 : Nat) (t0 : Nat) (m0 : Nat) (c0 : Nat) (x0 : Nat) (f0 : Nat) (w0 : Nat) (th1 : Nat) (th2 : Nat) (ma0 : Nat) (ma1 : Nat) (ma3 : Nat) (ma4 : Nat) (ma5 : Nat) (ma6 : Nat) (ma7 : Nat) (g3 : Nat → Int32) (g4 : Nat → Int32) (g5 : Nat → Int32) (p0 : Int32) (p1 : Int32) (p2 : Int32) : vx_Met l yX8_shape wsX8_shape ({ frames := 6, cells := 1, slots := 6, locals := 90 }) (va_Pc [.ref h0, .int p0, .int p1, .int p2] (x_PreX (dC, dI) (x_T cyI cyZ cyJ) [(h0, .inr (8, [.ref t0, .ref m0, .ref c0, .ref x0, .ref f0, .ref w0])), (t0, .inr (7, [.ref th1, .ref th2, .int 4])), (th2, .inl (cyZ, 200, .inl x_face)), (m0, .inr (4, [.ref ma0, .ref ma1, .int 0, .ref ma3, .ref ma4, .ref ma5, .ref ma6, .ref ma7, .int 0])), (ma3, .inl (cyI, 100, .inl g3)), (ma4, .inl (cyI, 100, .inl g4)), (ma5, .inl (cyZ, 100, .inl g5))] base sz)) (va_Qi (fun (r : Int32) (_ : Unit) => f_X8_shape p0 p1 p2 = (0, r)) (fun _ _ => True) (va_A [(h0, .inr (8, [.ref t0, .ref m0, .ref c0, .ref x0, .ref f0, .ref w0])), (t0, .inr (7, [.ref th1, .ref th2, .int 4])), (th2, .inl (cyZ, 200, .inl x_face)), (m0, .inr (4, [.ref ma0, .ref ma1, .int 0, .ref ma3, .ref ma4, .ref ma5, .ref ma6, .ref ma7, .int 0])), (ma3, .inl (cyI, 100, .inl g3)), (ma4, .inl (cyI, 100, .inl g4)), (ma5, .inl (cyZ, 100, .inl g5))] sz)) (vx_X (fun _ : Unit => True) (fun E _ _ => x_thr (f_X8_shape p0 p1 p2).1 E) (va_A [(h0, .inr (8, [.ref t0, .ref m0, .ref c0, .ref x0, .ref f0, .ref w0])), (t0, .inr (7, [.ref th1, .ref th2, .int 4])), (th2, .inl (cyZ, 200, .inl x_face)), (m0, .inr (4, [.ref ma0, .ref ma1, .int 0, .ref ma3, .ref ma4, .ref ma5, .ref ma6, .ref ma7, .int 0])), (ma3, .inl (cyI, 100, .inl g3)), (ma4, .inl (cyI, 100, .inl g4)), (ma5, .inl (cyZ, 100, .inl g5))] sz)) 1 6 (va_A [(h0, .inr (8, [.ref t0, .ref m0, .ref c0, .ref x0, .ref f0, .ref w0])), (t0, .inr (7, [.ref th1, .ref th2, .int 4])), (th2, .inl (cyZ, 200, .inl x_face)), (m0, .inr (4, [.ref ma0, .ref ma1, .int 0, .ref ma3, .ref ma4, .ref ma5, .ref ma6, .ref ma7, .int 0])), (ma3, .inl (cyI, 100, .inl g3)), (ma4, .inl (cyI, 100, .inl g4)), (ma5, .inl (cyZ, 100, .inl g5))] sz) := by
  refine vx_ofW (cc := cX8_shape) (maxL := 4) (ret := (some .int)) (by decide) rfl ?_
  intro p e s m args below meth c s₁ B hml hno hv
  obtain ⟨rfl, ⟨⟨hsz, hP, hK, hN⟩, hD0⟩, hDb, hbz, hG⟩ := hv
  have hx := B.exec
  have hb := B.bytes
  have hr := B.returns
  have hts := atoms_spec (ws := wsX8_shape) B.pre
  have hown : s.vm.findClass RX8 = some m.cls := findClass_of_methodNamed B.named
  have hlocks := B.notSynchronized
  have k_1 := hts (.fieldLink RX8 10 "FlowJudge" "types" "LFlowJudge$Types;") (by decide +kernel)
  have k_2 := hts (.classLink RX8 63 "java/lang/IllegalArgumentException") (by decide +kernel)
  have k_3 := hts (.initialized "java/lang/IllegalArgumentException") (by decide +kernel)
  have k_4 := hts (.fieldLink RX8 19 "FlowJudge" "members" "LFlowJudge$Members;") (by decide +kernel)
  subst hsz
  have hAb : ∀ q, va_A [(h0, .inr (8, [.ref t0, .ref m0, .ref c0, .ref x0, .ref f0, .ref w0])), (t0, .inr (7, [.ref th1, .ref th2, .int 4])), (th2, .inl (cyZ, 200, .inl x_face)), (m0, .inr (4, [.ref ma0, .ref ma1, .int 0, .ref ma3, .ref ma4, .ref ma5, .ref ma6, .ref ma7, .int 0])), (ma3, .inl (cyI, 100, .inl g3)), (ma4, .inl (cyI, 100, .inl g4)), (ma5, .inl (cyZ, 100, .inl g5))] s.heap.size q → x_new base q := x_Ab hDb hbz
  have hts_1 := fun w (h : w ∈ (vx_atS RX8 67 "java/lang/IllegalArgumentException" ["java/lang/RuntimeException", "java/lang/Exception"]).filter goodWord) => hts w (u_X8_shape_1 w h)
  have hD := hD0.self (sz := s.heap.size)
  generalize hAe : va_A [(h0, .inr (8, [.ref t0, .ref m0, .ref c0, .ref x0, .ref f0, .ref w0])), (t0, .inr (7, [.ref th1, .ref th2, .int 4])), (th2, .inl (cyZ, 200, .inl x_face)), (m0, .inr (4, [.ref ma0, .ref ma1, .int 0, .ref ma3, .ref ma4, .ref ma5, .ref ma6, .ref ma7, .int 0])), (ma3, .inl (cyI, 100, .inl g3)), (ma4, .inl (cyI, 100, .inl g4)), (ma5, .inl (cyZ, 100, .inl g5))] s.heap.size = A at hD hAb ⊢
  have hA : ∀ q : Nat, s.heap.size ≤ q → A q := fun q h => by rw [← hAe]; exact Or.inr h
  have hS : va_S A s.heap s.heap [] := va_S.rf
  have hP : va_P (dC, dI) vwCl [(h0, .inr (8, [.ref t0, .ref m0, .ref c0, .ref x0, .ref f0, .ref w0])), (t0, .inr (7, [.ref th1, .ref th2, .int 4])), (th2, .inl (cyZ, 200, .inl x_face)), (m0, .inr (4, [.ref ma0, .ref ma1, .int 0, .ref ma3, .ref ma4, .ref ma5, .ref ma6, .ref ma7, .int 0])), (ma3, .inl (cyI, 100, .inl g3)), (ma4, .inl (cyI, 100, .inl g4)), (ma5, .inl (cyZ, 100, .inl g5))] s.heap := hP
  have hl := lv_entry ([.ref h0, .int p0, .int p1, .int p2]) (n := 4) (Nat.le_of_ble_eq_true rfl)
  rw [lg_entry_eq]
  generalize (lg_sl ([.ref h0, .int p0, .int p1, .int p2]) ++ List.replicate (4 - (lg_sl ([.ref h0, .int p0, .int p1, .int p2])).length) Slot.unset).toArray = ls at hl ⊢
  have hl : lv_has ls 4 [(0, .ref h0), (1, .int p0), (2, .int p1), (3, .int p2)] := hl
  obtain ⟨H, hH⟩ : ∃ z, z = s.heap := ⟨_, rfl⟩
  refine x_here hH ?_
  have hP : va_P (dC, dI) vwCl [(h0, .inr (8, [.ref t0, .ref m0, .ref c0, .ref x0, .ref f0, .ref w0])), (t0, .inr (7, [.ref th1, .ref th2, .int 4])), (th2, .inl (cyZ, 200, .inl x_face)), (m0, .inr (4, [.ref ma0, .ref ma1, .int 0, .ref ma3, .ref ma4, .ref ma5, .ref ma6, .ref ma7, .int 0])), (ma3, .inl (cyI, 100, .inl g3)), (ma4, .inl (cyI, 100, .inl g4)), (ma5, .inl (cyZ, 100, .inl g5))] H := by rw [hH]; exact hP
  have hS : va_S A s.heap H [] := by rw [hH]; exact va_S.rf
  clear hH
  refine lv_aload_n hx hb dX8_shape_0 rfl (lv_at hl 0 rfl) ?_
  refine va_get (D := (dC, dI)) (ci := 8) (v := .ref t0) (C := RX8) (T := TX8) (N := 6) hx hb hts i_X8_shape_X8 hown hK hP 0 rfl rfl 0 (by decide) k_1 (fun _ h9 => h9) rfl dX8_shape_1 ?_
  refine lv_iload_n hx hb dX8_shape_4 rfl (lv_at hl 1 rfl) ?_
  have hPc := hP.sub (ws' := [(t0, .inr (7, [.ref th1, .ref th2, .int 4]))]) [1] rfl
  refine va_calli (va_runV (As := [.int p0]) (rest := []) ⟨hx, hb, hml, hown, hts⟩ (c_X7_isClass l dC dI cyI cyZ cyJ H.size t0 th1 th2 p0) (cwV 1 hts gX8_shape_X7_isClass rfl rfl rfl (by decide +kernel) ⟨Nat.le_of_ble_eq_true rfl, Nat.le_of_ble_eq_true rfl⟩) (x_pV hN hK hPc (ci := 7) (q0 := 0) rfl rfl) rfl rfl hl.1 rfl (lv_room (Nat.le_of_ble_eq_true rfl)) dX8_shape_5 ⟨Nat.le_of_ble_eq_true rfl, Nat.le_of_ble_eq_true rfl⟩) hS x_nA (x_nf hA hS) (fun r_5 u t H1 locs ht hvm hw hB hz1 hk1 hS => ?_)
  have hP := x_kp hP hk1
  clear ht hvm hB hz1 hk1 t u hPc
  generalize H1 = H at hP hS ⊢
  obtain rfl := hw
  refine lv_if_eq (tgt := 22) hx hb dX8_shape_8 (by decide) (fun c_1 => ?_) (fun c_1 => ?_)
  · skip
    obtain ⟨sa, hsa⟩ := hG.2.2.1 (100, "no CLASS or no result") (by decide)
    refine vx_throwS (cls := "java/lang/IllegalArgumentException") (names := ["java/lang/RuntimeException", "java/lang/Exception"]) hx hb hl9 hown (by decide +kernel) (by decide +kernel) k_2 k_3 hsa (x_at1 hG.2.2.2 hts_1) (by decide +kernel) (hG.1.narrow hAb) (hG.2.1.narrow hAb) hS (hl.1.trans hml.symm) dX8_shape_22 dX8_shape_25 dX8_shape_26 dX8_shape_28 dX8_shape_31 (fun z hz => (hno z hz).elim) (Nat.le_of_ble_eq_true rfl) (Nat.le_of_ble_eq_true rfl) (Nat.le_of_ble_eq_true rfl) (Nat.le_of_ble_eq_true rfl) hlocks (fun t ha h1 h2 => ⟨(), trivial, (by rw [show f_X8_shape p0 p1 p2 = (1, 0) from by rw [f_X8_shape, if_pos c_1]]; exact x_thr1), x_mv hS h1 h2⟩) hS.2.2 (Nat.le_of_ble_eq_true rfl) (Nat.le_of_ble_eq_true rfl)
  · skip
    refine lv_aload_n hx hb dX8_shape_11 rfl (lv_at hl 0 rfl) ?_
    refine va_get (D := (dC, dI)) (ci := 8) (v := .ref t0) (C := RX8) (T := TX8) (N := 6) hx hb hts i_X8_shape_X8 hown hK hP 0 rfl rfl 0 (by decide) k_1 (fun _ h9 => h9) rfl dX8_shape_12 ?_
    refine lv_iload_n hx hb dX8_shape_15 rfl (lv_at hl 2 rfl) ?_
    have hPc := hP.sub (ws' := [(t0, .inr (7, [.ref th1, .ref th2, .int 4]))]) [1] rfl
    refine va_calli (va_runV (As := [.int p1]) (rest := []) ⟨hx, hb, hml, hown, hts⟩ (c_X7_isResult l dC dI cyI cyZ cyJ H.size t0 th1 th2 p1) (cwV 1 hts gX8_shape_X7_isResult rfl rfl rfl (by decide +kernel) ⟨Nat.le_of_ble_eq_true rfl, Nat.le_of_ble_eq_true rfl⟩) (x_pV hN hK hPc (ci := 7) (q0 := 0) rfl rfl) rfl rfl hl.1 rfl (lv_room (Nat.le_of_ble_eq_true rfl)) dX8_shape_16 ⟨Nat.le_of_ble_eq_true rfl, Nat.le_of_ble_eq_true rfl⟩) hS x_nA (x_nf hA hS) (fun r_16 u t H1 locs ht hvm hw hB hz1 hk1 hS => ?_)
    have hP := x_kp hP hk1
    clear ht hvm hB hz1 hk1 t u hPc
    generalize H1 = H at hP hS ⊢
    obtain rfl := hw
    refine lv_if_ne (tgt := 32) hx hb dX8_shape_19 (by decide) (fun c_2 => ?_) (fun c_2 => ?_)
    · skip
      refine lv_iload_n hx hb dX8_shape_32 rfl (lv_at hl 3 rfl) ?_
      refine lv_if_eq (tgt := 63) hx hb dX8_shape_33 (by decide) (fun c_3 => ?_) (fun c_3 => ?_)
      · skip
        refine lv_aload_n hx hb dX8_shape_63 rfl (lv_at hl 0 rfl) ?_
        refine va_get (D := (dC, dI)) (ci := 8) (v := .ref m0) (C := RX8) (T := TX8) (N := 6) hx hb hts i_X8_shape_X8 hown hK hP 0 rfl rfl 1 (by decide) k_4 (fun _ h9 => h9) rfl dX8_shape_64 ?_
        refine va_getN (D := (dC, dI)) (ci := 4) (v := .int 0) (C := RX4) (T := TX4) (N := 9) hx hb hts i_X8_shape_X4 hown hK hP 3 rfl rfl 8 (by decide) ((hN.1 (104, "FlowJudge$Members", "shapeCount", "I") (by decide)).use rfl) (fun _ h9 => h9) rfl dX8_shape_67 ?_
        refine lv_bipush (v := 100) hx hb dX8_shape_70 (by decide) ?_
        refine lv_icmp_lt (tgt := 85) hx hb dX8_shape_72 (by decide) (fun _ => ?_) (fun c_4 => absurd (by decide) c_4)
        refine lv_aload_n hx hb dX8_shape_85 rfl (lv_at hl 0 rfl) ?_
        refine va_get (D := (dC, dI)) (ci := 8) (v := .ref m0) (C := RX8) (T := TX8) (N := 6) hx hb hts i_X8_shape_X8 hown hK hP 0 rfl rfl 1 (by decide) k_4 (fun _ h9 => h9) rfl dX8_shape_86 ?_
        refine lv_iload_n hx hb dX8_shape_89 rfl (lv_at hl 1 rfl) ?_
        refine lv_iload_n hx hb dX8_shape_90 rfl (lv_at hl 2 rfl) ?_
        refine lv_iload_n hx hb dX8_shape_91 rfl (lv_at hl 3 rfl) ?_
        have hPc := hP.sub (ws' := [(m0, .inr (4, [.ref ma0, .ref ma1, .int 0, .ref ma3, .ref ma4, .ref ma5, .ref ma6, .ref ma7, .int 0])), (ma3, .inl (cyI, 100, .inl g3)), (ma4, .inl (cyI, 100, .inl g4)), (ma5, .inl (cyZ, 100, .inl g5))]) [3, 4, 5, 6] rfl
        have hDc := hD.sub (ws' := [(m0, .inr (4, [.ref ma0, .ref ma1, .int 0, .ref ma3, .ref ma4, .ref ma5, .ref ma6, .ref ma7, .int 0])), (ma3, .inl (cyI, 100, .inl g3)), (ma4, .inl (cyI, 100, .inl g4)), (ma5, .inl (cyZ, 100, .inl g5))]) [3, 4, 5, 6] (by decide) rfl
        have hFc := va_free (wc := [(m0, .inr (4, [.ref ma0, .ref ma1, .int 0, .ref ma3, .ref ma4, .ref ma5, .ref ma6, .ref ma7, .int 0])), (ma3, .inl (cyI, 100, .inl g3)), (ma4, .inl (cyI, 100, .inl g4)), (ma5, .inl (cyZ, 100, .inl g5))]) hD hS hA [3, 4, 5, 6] rfl
        refine va_calli (va_runV (As := [.int p0, .int p1, .int p2]) (rest := []) ⟨hx, hb, hml, hown, hts⟩ (c_X4_enterShape l dC dI cyI cyZ cyJ H.size m0 ma0 ma1 ma3 ma4 ma5 ma6 ma7 g3 g4 g5 p0 p1 p2) (cwV 3 hts gX8_shape_X4_enterShape rfl rfl rfl (by decide +kernel) ⟨Nat.le_of_ble_eq_true rfl, Nat.le_of_ble_eq_true rfl⟩) (x_pVD hN hK hPc hDc (ci := 4) (q0 := 0) rfl rfl) rfl rfl hl.1 rfl (lv_room (Nat.le_of_ble_eq_true rfl)) dX8_shape_92 ⟨Nat.le_of_ble_eq_true rfl, Nat.le_of_ble_eq_true rfl⟩) hS (fun q _ h => hFc q h) hFc (fun r_92 u t H1 locs ht hvm hw hB hz1 hk1 hS => ?_)
        obtain ⟨hP, hD⟩ := va_join (wr := [(h0, .inr (8, [.ref t0, .ref m0, .ref c0, .ref x0, .ref f0, .ref w0])), (t0, .inr (7, [.ref th1, .ref th2, .int 4])), (th2, .inl (cyZ, 200, .inl x_face))]) (w1 := []) hP hD [3, 4, 5, 6] [0, 1, 2] rfl rfl (by decide) (by decide) hk1 hFc x_P0 x_D0
        clear ht hvm hB hz1 hk1 t u hPc hDc hFc
        generalize H1 = H at hP hS ⊢
        have hP : va_P (dC, dI) vwCl [(h0, .inr (8, [.ref t0, .ref m0, .ref c0, .ref x0, .ref f0, .ref w0])), (t0, .inr (7, [.ref th1, .ref th2, .int 4])), (th2, .inl (cyZ, 200, .inl x_face))] H := hP
        have hD : va_D A [(h0, .inr (8, [.ref t0, .ref m0, .ref c0, .ref x0, .ref f0, .ref w0])), (t0, .inr (7, [.ref th1, .ref th2, .int 4])), (th2, .inl (cyZ, 200, .inl x_face))] := hD
        obtain rfl := hw
        refine vx_ret ?_
        refine W.widen (k := 1) (n := 6) (Nat.le_of_ble_eq_true rfl) (Nat.le_of_ble_eq_true rfl) ?_
        exact W.iret hx hb hr (fun t ht hW => ⟨⟨_, (), rfl, by rw [f_X8_shape, if_neg c_1, if_neg c_2, if_pos c_3], trivial⟩, hS.F ht⟩) hS.2.2 dX8_shape_95
      · skip
        refine lv_iload_n hx hb dX8_shape_36 rfl (lv_at hl 2 rfl) ?_
        refine lv_iconst (v := (-1)) hx hb dX8_shape_37 (by decide) ?_
        refine lv_icmp_ne (tgt := 53) hx hb dX8_shape_38 (by decide) (fun c_5 => ?_) (fun c_5 => ?_)
        · skip
          obtain ⟨sa, hsa⟩ := hG.2.2.1 (102, "no constructor is like this") (by decide)
          refine vx_throwS (cls := "java/lang/IllegalArgumentException") (names := ["java/lang/RuntimeException", "java/lang/Exception"]) hx hb hl9 hown (by decide +kernel) (by decide +kernel) k_2 k_3 hsa (x_at1 hG.2.2.2 hts_1) (by decide +kernel) (hG.1.narrow hAb) (hG.2.1.narrow hAb) hS (hl.1.trans hml.symm) dX8_shape_53 dX8_shape_56 dX8_shape_57 dX8_shape_59 dX8_shape_62 (fun z hz => (hno z hz).elim) (Nat.le_of_ble_eq_true rfl) (Nat.le_of_ble_eq_true rfl) (Nat.le_of_ble_eq_true rfl) (Nat.le_of_ble_eq_true rfl) hlocks (fun t ha h1 h2 => ⟨(), trivial, (by rw [show f_X8_shape p0 p1 p2 = (1, 0) from by rw [f_X8_shape, if_neg c_1, if_neg c_2, if_neg c_3, if_neg c_5]]; exact x_thr1), x_mv hS h1 h2⟩) hS.2.2 (Nat.le_of_ble_eq_true rfl) (Nat.le_of_ble_eq_true rfl)
        · skip
          refine lv_aload_n hx hb dX8_shape_41 rfl (lv_at hl 0 rfl) ?_
          refine va_get (D := (dC, dI)) (ci := 8) (v := .ref t0) (C := RX8) (T := TX8) (N := 6) hx hb hts i_X8_shape_X8 hown hK hP 0 rfl rfl 0 (by decide) k_1 (fun _ h9 => h9) rfl dX8_shape_42 ?_
          refine va_getN (D := (dC, dI)) (ci := 7) (v := .ref th2) (C := RX7) (T := TX7) (N := 3) hx hb hts i_X8_shape_X7 hown hK hP 1 rfl rfl 1 (by decide) ((hN.1 (59, "FlowJudge$Types", "isInterface", "[Z") (by decide)).use rfl) (fun _ h9 => h9) rfl dX8_shape_45 ?_
          refine lv_iload_n hx hb dX8_shape_48 rfl (lv_at hl 1 rfl) ?_
          refine va_zald hx hb hK hP 2 1 rfl rfl (x_cls (by assumption)) dX8_shape_49 ?_
          refine lv_if_eq (tgt := 63) hx hb dX8_shape_50 (by decide) (fun c_6 => ?_) (fun c_6 => ?_)
          · skip
            refine lv_aload_n hx hb dX8_shape_63 rfl (lv_at hl 0 rfl) ?_
            refine va_get (D := (dC, dI)) (ci := 8) (v := .ref m0) (C := RX8) (T := TX8) (N := 6) hx hb hts i_X8_shape_X8 hown hK hP 0 rfl rfl 1 (by decide) k_4 (fun _ h9 => h9) rfl dX8_shape_64 ?_
            refine va_getN (D := (dC, dI)) (ci := 4) (v := .int 0) (C := RX4) (T := TX4) (N := 9) hx hb hts i_X8_shape_X4 hown hK hP 3 rfl rfl 8 (by decide) ((hN.1 (104, "FlowJudge$Members", "shapeCount", "I") (by decide)).use rfl) (fun _ h9 => h9) rfl dX8_shape_67 ?_
            refine lv_bipush (v := 100) hx hb dX8_shape_70 (by decide) ?_
            refine lv_icmp_lt (tgt := 85) hx hb dX8_shape_72 (by decide) (fun _ => ?_) (fun c_7 => absurd (by decide) c_7)
            refine lv_aload_n hx hb dX8_shape_85 rfl (lv_at hl 0 rfl) ?_
            refine va_get (D := (dC, dI)) (ci := 8) (v := .ref m0) (C := RX8) (T := TX8) (N := 6) hx hb hts i_X8_shape_X8 hown hK hP 0 rfl rfl 1 (by decide) k_4 (fun _ h9 => h9) rfl dX8_shape_86 ?_
            refine lv_iload_n hx hb dX8_shape_89 rfl (lv_at hl 1 rfl) ?_
            refine lv_iload_n hx hb dX8_shape_90 rfl (lv_at hl 2 rfl) ?_
            refine lv_iload_n hx hb dX8_shape_91 rfl (lv_at hl 3 rfl) ?_
            have hPc := hP.sub (ws' := [(m0, .inr (4, [.ref ma0, .ref ma1, .int 0, .ref ma3, .ref ma4, .ref ma5, .ref ma6, .ref ma7, .int 0])), (ma3, .inl (cyI, 100, .inl g3)), (ma4, .inl (cyI, 100, .inl g4)), (ma5, .inl (cyZ, 100, .inl g5))]) [3, 4, 5, 6] rfl
            have hDc := hD.sub (ws' := [(m0, .inr (4, [.ref ma0, .ref ma1, .int 0, .ref ma3, .ref ma4, .ref ma5, .ref ma6, .ref ma7, .int 0])), (ma3, .inl (cyI, 100, .inl g3)), (ma4, .inl (cyI, 100, .inl g4)), (ma5, .inl (cyZ, 100, .inl g5))]) [3, 4, 5, 6] (by decide) rfl
            have hFc := va_free (wc := [(m0, .inr (4, [.ref ma0, .ref ma1, .int 0, .ref ma3, .ref ma4, .ref ma5, .ref ma6, .ref ma7, .int 0])), (ma3, .inl (cyI, 100, .inl g3)), (ma4, .inl (cyI, 100, .inl g4)), (ma5, .inl (cyZ, 100, .inl g5))]) hD hS hA [3, 4, 5, 6] rfl
            refine va_calli (va_runV (As := [.int p0, .int p1, .int p2]) (rest := []) ⟨hx, hb, hml, hown, hts⟩ (c_X4_enterShape l dC dI cyI cyZ cyJ H.size m0 ma0 ma1 ma3 ma4 ma5 ma6 ma7 g3 g4 g5 p0 p1 p2) (cwV 3 hts gX8_shape_X4_enterShape rfl rfl rfl (by decide +kernel) ⟨Nat.le_of_ble_eq_true rfl, Nat.le_of_ble_eq_true rfl⟩) (x_pVD hN hK hPc hDc (ci := 4) (q0 := 0) rfl rfl) rfl rfl hl.1 rfl (lv_room (Nat.le_of_ble_eq_true rfl)) dX8_shape_92 ⟨Nat.le_of_ble_eq_true rfl, Nat.le_of_ble_eq_true rfl⟩) hS (fun q _ h => hFc q h) hFc (fun r_92 u t H1 locs ht hvm hw hB hz1 hk1 hS => ?_)
            obtain ⟨hP, hD⟩ := va_join (wr := [(h0, .inr (8, [.ref t0, .ref m0, .ref c0, .ref x0, .ref f0, .ref w0])), (t0, .inr (7, [.ref th1, .ref th2, .int 4])), (th2, .inl (cyZ, 200, .inl x_face))]) (w1 := []) hP hD [3, 4, 5, 6] [0, 1, 2] rfl rfl (by decide) (by decide) hk1 hFc x_P0 x_D0
            clear ht hvm hB hz1 hk1 t u hPc hDc hFc
            generalize H1 = H at hP hS ⊢
            have hP : va_P (dC, dI) vwCl [(h0, .inr (8, [.ref t0, .ref m0, .ref c0, .ref x0, .ref f0, .ref w0])), (t0, .inr (7, [.ref th1, .ref th2, .int 4])), (th2, .inl (cyZ, 200, .inl x_face))] H := hP
            have hD : va_D A [(h0, .inr (8, [.ref t0, .ref m0, .ref c0, .ref x0, .ref f0, .ref w0])), (t0, .inr (7, [.ref th1, .ref th2, .int 4])), (th2, .inl (cyZ, 200, .inl x_face))] := hD
            obtain rfl := hw
            refine vx_ret ?_
            refine W.widen (k := 1) (n := 6) (Nat.le_of_ble_eq_true rfl) (Nat.le_of_ble_eq_true rfl) ?_
            exact W.iret hx hb hr (fun t ht hW => ⟨⟨_, (), rfl, by rw [f_X8_shape, if_neg c_1, if_neg c_2, if_neg c_3, if_pos c_5, if_pos c_6], trivial⟩, hS.F ht⟩) hS.2.2 dX8_shape_95
          · skip
            obtain ⟨sa, hsa⟩ := hG.2.2.1 (102, "no constructor is like this") (by decide)
            refine vx_throwS (cls := "java/lang/IllegalArgumentException") (names := ["java/lang/RuntimeException", "java/lang/Exception"]) hx hb hl9 hown (by decide +kernel) (by decide +kernel) k_2 k_3 hsa (x_at1 hG.2.2.2 hts_1) (by decide +kernel) (hG.1.narrow hAb) (hG.2.1.narrow hAb) hS (hl.1.trans hml.symm) dX8_shape_53 dX8_shape_56 dX8_shape_57 dX8_shape_59 dX8_shape_62 (fun z hz => (hno z hz).elim) (Nat.le_of_ble_eq_true rfl) (Nat.le_of_ble_eq_true rfl) (Nat.le_of_ble_eq_true rfl) (Nat.le_of_ble_eq_true rfl) hlocks (fun t ha h1 h2 => ⟨(), trivial, (by rw [show f_X8_shape p0 p1 p2 = (1, 0) from by rw [f_X8_shape, if_neg c_1, if_neg c_2, if_neg c_3, if_pos c_5, if_neg c_6]]; exact x_thr1), x_mv hS h1 h2⟩) hS.2.2 (Nat.le_of_ble_eq_true rfl) (Nat.le_of_ble_eq_true rfl)
    · skip
      obtain ⟨sa, hsa⟩ := hG.2.2.1 (100, "no CLASS or no result") (by decide)
      refine vx_throwS (cls := "java/lang/IllegalArgumentException") (names := ["java/lang/RuntimeException", "java/lang/Exception"]) hx hb hl9 hown (by decide +kernel) (by decide +kernel) k_2 k_3 hsa (x_at1 hG.2.2.2 hts_1) (by decide +kernel) (hG.1.narrow hAb) (hG.2.1.narrow hAb) hS (hl.1.trans hml.symm) dX8_shape_22 dX8_shape_25 dX8_shape_26 dX8_shape_28 dX8_shape_31 (fun z hz => (hno z hz).elim) (Nat.le_of_ble_eq_true rfl) (Nat.le_of_ble_eq_true rfl) (Nat.le_of_ble_eq_true rfl) (Nat.le_of_ble_eq_true rfl) hlocks (fun t ha h1 h2 => ⟨(), trivial, (by rw [show f_X8_shape p0 p1 p2 = (1, 0) from by rw [f_X8_shape, if_neg c_1, if_pos c_2]]; exact x_thr1), x_mv hS h1 h2⟩) hS.2.2 (Nat.le_of_ble_eq_true rfl) (Nat.le_of_ble_eq_true rfl)

def f_X8_takes (p0 : Int32) : Int32 × Int32 := if (f_X7_isType p0) = (0 : Int32) then (1, 0) else (2, 0)
theorem i_X8_takes_X8 : ∀ w ∈ wsX80, w ∈ wsX8_takes := by decide +kernel
theorem u_X8_takes_1 : ∀ w ∈ (vx_atS RX8 67 "java/lang/IllegalArgumentException" ["java/lang/RuntimeException", "java/lang/Exception"]).filter goodWord, w ∈ wsX8_takes := by decide +kernel
theorem u_X8_takes_2 : ∀ w ∈ (vx_atS RX8 78 "java/lang/IllegalStateException" ["java/lang/RuntimeException", "java/lang/Exception"]).filter goodWord, w ∈ wsX8_takes := by decide +kernel
set_option maxHeartbeats 4000000 in
set_option maxRecDepth 100000 in
theorem c_X8_takes (l : Launch) (hl9 : l.stackTraces = false) (dC : Nat → ClassId) (dI : Nat → Nat → Nat) (cyI cyZ cyJ : ClassId) (base : Nat) (sz : Nat) (h0 : Nat) (t0 : Nat) (m0 : Nat) (c0 : Nat) (x0 : Nat) (f0 : Nat) (w0 : Nat) (th1 : Nat) (th2 : Nat) (ma0 : Nat) (ma1 : Nat) (ma3 : Nat) (ma4 : Nat) (ma5 : Nat) (ma6 : Nat) (ma7 : Nat) (p0 : Int32) : vx_Met l yX8_takes wsX8_takes ({ frames := 6, cells := 1, slots := 6, locals := 90 }) (va_Pc [.ref h0, .int p0] (x_PreX (dC, dI) (x_T cyI cyZ cyJ) [(h0, .inr (8, [.ref t0, .ref m0, .ref c0, .ref x0, .ref f0, .ref w0])), (t0, .inr (7, [.ref th1, .ref th2, .int 4])), (m0, .inr (4, [.ref ma0, .ref ma1, .int 0, .ref ma3, .ref ma4, .ref ma5, .ref ma6, .ref ma7, .int 0]))] base sz)) (va_Qi (fun (r : Int32) (_ : Unit) => f_X8_takes p0 = (0, r)) (fun _ _ => True) (va_A [(h0, .inr (8, [.ref t0, .ref m0, .ref c0, .ref x0, .ref f0, .ref w0])), (t0, .inr (7, [.ref th1, .ref th2, .int 4])), (m0, .inr (4, [.ref ma0, .ref ma1, .int 0, .ref ma3, .ref ma4, .ref ma5, .ref ma6, .ref ma7, .int 0]))] sz)) (vx_X (fun _ : Unit => True) (fun E _ _ => x_thr (f_X8_takes p0).1 E) (va_A [(h0, .inr (8, [.ref t0, .ref m0, .ref c0, .ref x0, .ref f0, .ref w0])), (t0, .inr (7, [.ref th1, .ref th2, .int 4])), (m0, .inr (4, [.ref ma0, .ref ma1, .int 0, .ref ma3, .ref ma4, .ref ma5, .ref ma6, .ref ma7, .int 0]))] sz)) 1 6 (va_A [(h0, .inr (8, [.ref t0, .ref m0, .ref c0, .ref x0, .ref f0, .ref w0])), (t0, .inr (7, [.ref th1, .ref th2, .int 4])), (m0, .inr (4, [.ref ma0, .ref ma1, .int 0, .ref ma3, .ref ma4, .ref ma5, .ref ma6, .ref ma7, .int 0]))] sz) := by
  refine vx_ofW (cc := cX8_takes) (maxL := 2) (ret := (some .int)) (by decide) rfl ?_
  intro p e s m args below meth c s₁ B hml hno hv
  obtain ⟨rfl, ⟨⟨hsz, hP, hK, hN⟩, hD0⟩, hDb, hbz, hG⟩ := hv
  have hx := B.exec
  have hb := B.bytes
  have hr := B.returns
  have hts := atoms_spec (ws := wsX8_takes) B.pre
  have hown : s.vm.findClass RX8 = some m.cls := findClass_of_methodNamed B.named
  have hlocks := B.notSynchronized
  have k_1 := hts (.fieldLink RX8 10 "FlowJudge" "types" "LFlowJudge$Types;") (by decide +kernel)
  have k_2 := hts (.fieldLink RX8 19 "FlowJudge" "members" "LFlowJudge$Members;") (by decide +kernel)
  have k_3 := hts (.classLink RX8 74 "java/lang/IllegalStateException") (by decide +kernel)
  have k_4 := hts (.initialized "java/lang/IllegalStateException") (by decide +kernel)
  have k_5 := hts (.classLink RX8 63 "java/lang/IllegalArgumentException") (by decide +kernel)
  have k_6 := hts (.initialized "java/lang/IllegalArgumentException") (by decide +kernel)
  subst hsz
  have hAb : ∀ q, va_A [(h0, .inr (8, [.ref t0, .ref m0, .ref c0, .ref x0, .ref f0, .ref w0])), (t0, .inr (7, [.ref th1, .ref th2, .int 4])), (m0, .inr (4, [.ref ma0, .ref ma1, .int 0, .ref ma3, .ref ma4, .ref ma5, .ref ma6, .ref ma7, .int 0]))] s.heap.size q → x_new base q := x_Ab hDb hbz
  have hts_1 := fun w (h : w ∈ (vx_atS RX8 67 "java/lang/IllegalArgumentException" ["java/lang/RuntimeException", "java/lang/Exception"]).filter goodWord) => hts w (u_X8_takes_1 w h)
  have hts_2 := fun w (h : w ∈ (vx_atS RX8 78 "java/lang/IllegalStateException" ["java/lang/RuntimeException", "java/lang/Exception"]).filter goodWord) => hts w (u_X8_takes_2 w h)
  have hD := hD0.self (sz := s.heap.size)
  generalize hAe : va_A [(h0, .inr (8, [.ref t0, .ref m0, .ref c0, .ref x0, .ref f0, .ref w0])), (t0, .inr (7, [.ref th1, .ref th2, .int 4])), (m0, .inr (4, [.ref ma0, .ref ma1, .int 0, .ref ma3, .ref ma4, .ref ma5, .ref ma6, .ref ma7, .int 0]))] s.heap.size = A at hD hAb ⊢
  have hA : ∀ q : Nat, s.heap.size ≤ q → A q := fun q h => by rw [← hAe]; exact Or.inr h
  have hS : va_S A s.heap s.heap [] := va_S.rf
  have hP : va_P (dC, dI) vwCl [(h0, .inr (8, [.ref t0, .ref m0, .ref c0, .ref x0, .ref f0, .ref w0])), (t0, .inr (7, [.ref th1, .ref th2, .int 4])), (m0, .inr (4, [.ref ma0, .ref ma1, .int 0, .ref ma3, .ref ma4, .ref ma5, .ref ma6, .ref ma7, .int 0]))] s.heap := hP
  have hl := lv_entry ([.ref h0, .int p0]) (n := 2) (Nat.le_of_ble_eq_true rfl)
  rw [lg_entry_eq]
  generalize (lg_sl ([.ref h0, .int p0]) ++ List.replicate (2 - (lg_sl ([.ref h0, .int p0])).length) Slot.unset).toArray = ls at hl ⊢
  have hl : lv_has ls 2 [(0, .ref h0), (1, .int p0)] := hl
  obtain ⟨H, hH⟩ : ∃ z, z = s.heap := ⟨_, rfl⟩
  refine x_here hH ?_
  have hP : va_P (dC, dI) vwCl [(h0, .inr (8, [.ref t0, .ref m0, .ref c0, .ref x0, .ref f0, .ref w0])), (t0, .inr (7, [.ref th1, .ref th2, .int 4])), (m0, .inr (4, [.ref ma0, .ref ma1, .int 0, .ref ma3, .ref ma4, .ref ma5, .ref ma6, .ref ma7, .int 0]))] H := by rw [hH]; exact hP
  have hS : va_S A s.heap H [] := by rw [hH]; exact va_S.rf
  clear hH
  refine lv_aload_n hx hb dX8_takes_0 rfl (lv_at hl 0 rfl) ?_
  refine va_get (D := (dC, dI)) (ci := 8) (v := .ref t0) (C := RX8) (T := TX8) (N := 6) hx hb hts i_X8_takes_X8 hown hK hP 0 rfl rfl 0 (by decide) k_1 (fun _ h9 => h9) rfl dX8_takes_1 ?_
  refine lv_iload_n hx hb dX8_takes_4 rfl (lv_at hl 1 rfl) ?_
  have hPc := hP.sub (ws' := [(t0, .inr (7, [.ref th1, .ref th2, .int 4]))]) [1] rfl
  refine va_calli (va_runV (As := [.int p0]) (rest := []) ⟨hx, hb, hml, hown, hts⟩ (c_X7_isType l dC dI cyI cyZ cyJ H.size t0 th1 th2 p0) (cwV 1 hts gX8_takes_X7_isType rfl rfl rfl (by decide +kernel) ⟨Nat.le_of_ble_eq_true rfl, Nat.le_of_ble_eq_true rfl⟩) (x_pV hN hK hPc (ci := 7) (q0 := 0) rfl rfl) rfl rfl hl.1 rfl (lv_room (Nat.le_of_ble_eq_true rfl)) dX8_takes_5 ⟨Nat.le_of_ble_eq_true rfl, Nat.le_of_ble_eq_true rfl⟩) hS x_nA (x_nf hA hS) (fun r_5 u t H1 locs ht hvm hw hB hz1 hk1 hS => ?_)
  have hP := x_kp hP hk1
  clear ht hvm hB hz1 hk1 t u hPc
  generalize H1 = H at hP hS ⊢
  obtain rfl := hw
  refine lv_if_ne (tgt := 21) hx hb dX8_takes_8 (by decide) (fun c_1 => ?_) (fun c_1 => ?_)
  · skip
    refine lv_aload_n hx hb dX8_takes_21 rfl (lv_at hl 0 rfl) ?_
    refine va_get (D := (dC, dI)) (ci := 8) (v := .ref m0) (C := RX8) (T := TX8) (N := 6) hx hb hts i_X8_takes_X8 hown hK hP 0 rfl rfl 1 (by decide) k_2 (fun _ h9 => h9) rfl dX8_takes_22 ?_
    have hPc := hP.sub (ws' := [(m0, .inr (4, [.ref ma0, .ref ma1, .int 0, .ref ma3, .ref ma4, .ref ma5, .ref ma6, .ref ma7, .int 0]))]) [2] rfl
    refine va_calli (va_runV (As := []) (rest := []) ⟨hx, hb, hml, hown, hts⟩ (c_X4_canTakeMore l dC dI cyI cyZ cyJ H.size m0 ma0 ma1 ma3 ma4 ma5 ma6 ma7) (cwV 0 hts gX8_takes_X4_canTakeMore rfl rfl rfl (by decide +kernel) ⟨Nat.le_of_ble_eq_true rfl, Nat.le_of_ble_eq_true rfl⟩) (x_pV hN hK hPc (ci := 4) (q0 := 0) rfl rfl) rfl rfl hl.1 rfl (lv_room (Nat.le_of_ble_eq_true rfl)) dX8_takes_25 ⟨Nat.le_of_ble_eq_true rfl, Nat.le_of_ble_eq_true rfl⟩) hS x_nA (x_nf hA hS) (fun r_25 u t H1 locs ht hvm hw hB hz1 hk1 hS => ?_)
    have hP := x_kp hP hk1
    clear ht hvm hB hz1 hk1 t u hPc
    generalize H1 = H at hP hS ⊢
    obtain rfl := hw
    refine lv_if_ne (tgt := 41) hx hb dX8_takes_28 (by decide) (fun c_2 => absurd (by decide) c_2) (fun _ => ?_)
    obtain ⟨sa, hsa⟩ := hG.2.2.1 (119, "no SHAPE, or no more arguments") (by decide)
    refine vx_throwS (cls := "java/lang/IllegalStateException") (names := ["java/lang/RuntimeException", "java/lang/Exception"]) hx hb hl9 hown (by decide +kernel) (by decide +kernel) k_3 k_4 hsa (x_at2 hG.2.2.2 hts_2) (by decide +kernel) (hG.1.narrow hAb) (hG.2.1.narrow hAb) hS (hl.1.trans hml.symm) dX8_takes_31 dX8_takes_34 dX8_takes_35 dX8_takes_37 dX8_takes_40 (fun z hz => (hno z hz).elim) (Nat.le_of_ble_eq_true rfl) (Nat.le_of_ble_eq_true rfl) (Nat.le_of_ble_eq_true rfl) (Nat.le_of_ble_eq_true rfl) hlocks (fun t ha h1 h2 => ⟨(), trivial, (by rw [show f_X8_takes p0 = (2, 0) from by rw [f_X8_takes, if_neg c_1]]; exact x_thr2), x_mv hS h1 h2⟩) hS.2.2 (Nat.le_of_ble_eq_true rfl) (Nat.le_of_ble_eq_true rfl)
  · skip
    obtain ⟨sa, hsa⟩ := hG.2.2.1 (113, "no TYPE") (by decide)
    refine vx_throwS (cls := "java/lang/IllegalArgumentException") (names := ["java/lang/RuntimeException", "java/lang/Exception"]) hx hb hl9 hown (by decide +kernel) (by decide +kernel) k_5 k_6 hsa (x_at1 hG.2.2.2 hts_1) (by decide +kernel) (hG.1.narrow hAb) (hG.2.1.narrow hAb) hS (hl.1.trans hml.symm) dX8_takes_11 dX8_takes_14 dX8_takes_15 dX8_takes_17 dX8_takes_20 (fun z hz => (hno z hz).elim) (Nat.le_of_ble_eq_true rfl) (Nat.le_of_ble_eq_true rfl) (Nat.le_of_ble_eq_true rfl) (Nat.le_of_ble_eq_true rfl) hlocks (fun t ha h1 h2 => ⟨(), trivial, (by rw [show f_X8_takes p0 = (1, 0) from by rw [f_X8_takes, if_pos c_1]]; exact x_thr1), x_mv hS h1 h2⟩) hS.2.2 (Nat.le_of_ble_eq_true rfl) (Nat.le_of_ble_eq_true rfl)

def f_X8_method (p0 : Int32) (p1 : Int32) (p2 : Int32) (p3 : Int32) (p4 : Int32) : Int32 × Int32 := if (f_X7_isClass p0) = (0 : Int32) then (1, 0) else if p1 < (0 : Int32) then (1, 0) else if (2 : Int32) < p1 then (1, 0) else if (f_X7_isResult p2) = (0 : Int32) then (1, 0) else if p1 = (2 : Int32) then if p2 = (-1 : Int32) then if (x_face (Int32.toNatClampNeg p0)) = (0 : Int32) then if p3 < (0 : Int32) then (1, 0) else if (200 : Int32) < p3 then (1, 0) else if p4 < (0 : Int32) then (1, 0) else if p4 ≤ (200 : Int32) then (0, 0) else (1, 0) else (1, 0) else (1, 0) else if p3 < (0 : Int32) then (1, 0) else if (200 : Int32) < p3 then (1, 0) else if p4 < (0 : Int32) then (1, 0) else if p4 ≤ (200 : Int32) then (0, 0) else (1, 0)
theorem i_X8_method_X7 : ∀ w ∈ wsX70, w ∈ wsX8_method := by decide +kernel
theorem i_X8_method_X8 : ∀ w ∈ wsX80, w ∈ wsX8_method := by decide +kernel
theorem u_X8_method_1 : ∀ w ∈ (vx_atS RX8 67 "java/lang/IllegalArgumentException" ["java/lang/RuntimeException", "java/lang/Exception"]).filter goodWord, w ∈ wsX8_method := by decide +kernel
set_option maxHeartbeats 4000000 in
set_option maxRecDepth 100000 in
theorem c_X8_method (l : Launch) (hl9 : l.stackTraces = false) (dC : Nat → ClassId) (dI : Nat → Nat → Nat) (cyI cyZ cyJ : ClassId) (base : Nat) (sz : Nat) (h0 : Nat) (t0 : Nat) (m0 : Nat) (c0 : Nat) (x0 : Nat) (f0 : Nat) (w0 : Nat) (th1 : Nat) (th2 : Nat) (ca5 : Nat) (ca7 : Nat) (ca8 : Nat) (ca9 : Nat) (ca11 : Nat) (ca12 : Nat) (ca13 : Nat) (ca14 : Nat) (ca16 : Nat) (p0 : Int32) (p1 : Int32) (p2 : Int32) (p3 : Int32) (p4 : Int32) : vx_Met l yX8_method wsX8_method ({ frames := 6, cells := 1, slots := 6, locals := 90 }) (va_Pc [.ref h0, .int p0, .int p1, .int p2, .int p3, .int p4] (x_PreX (dC, dI) (x_T cyI cyZ cyJ) [(h0, .inr (8, [.ref t0, .ref m0, .ref c0, .ref x0, .ref f0, .ref w0])), (t0, .inr (7, [.ref th1, .ref th2, .int 4])), (th2, .inl (cyZ, 200, .inl x_face)), (c0, .inr (0, [.int 0, .int 0, .int (-1), .int 0, .int 0, .ref ca5, .int 0, .ref ca7, .ref ca8, .ref ca9, .int 0, .ref ca11, .ref ca12, .ref ca13, .ref ca14, .int 0, .ref ca16]))] base sz)) (va_Qi (fun (r : Int32) (_ : Unit) => f_X8_method p0 p1 p2 p3 p4 = (0, r)) (fun _ _ => True) (va_A [(h0, .inr (8, [.ref t0, .ref m0, .ref c0, .ref x0, .ref f0, .ref w0])), (t0, .inr (7, [.ref th1, .ref th2, .int 4])), (th2, .inl (cyZ, 200, .inl x_face)), (c0, .inr (0, [.int 0, .int 0, .int (-1), .int 0, .int 0, .ref ca5, .int 0, .ref ca7, .ref ca8, .ref ca9, .int 0, .ref ca11, .ref ca12, .ref ca13, .ref ca14, .int 0, .ref ca16]))] sz)) (vx_X (fun _ : Unit => True) (fun E _ _ => x_thr (f_X8_method p0 p1 p2 p3 p4).1 E) (va_A [(h0, .inr (8, [.ref t0, .ref m0, .ref c0, .ref x0, .ref f0, .ref w0])), (t0, .inr (7, [.ref th1, .ref th2, .int 4])), (th2, .inl (cyZ, 200, .inl x_face)), (c0, .inr (0, [.int 0, .int 0, .int (-1), .int 0, .int 0, .ref ca5, .int 0, .ref ca7, .ref ca8, .ref ca9, .int 0, .ref ca11, .ref ca12, .ref ca13, .ref ca14, .int 0, .ref ca16]))] sz)) 1 6 (va_A [(h0, .inr (8, [.ref t0, .ref m0, .ref c0, .ref x0, .ref f0, .ref w0])), (t0, .inr (7, [.ref th1, .ref th2, .int 4])), (th2, .inl (cyZ, 200, .inl x_face)), (c0, .inr (0, [.int 0, .int 0, .int (-1), .int 0, .int 0, .ref ca5, .int 0, .ref ca7, .ref ca8, .ref ca9, .int 0, .ref ca11, .ref ca12, .ref ca13, .ref ca14, .int 0, .ref ca16]))] sz) := by
  refine vx_ofW (cc := cX8_method) (maxL := 6) (ret := (some .int)) (by decide) rfl ?_
  intro p e s m args below meth c s₁ B hml hno hv
  obtain ⟨rfl, ⟨⟨hsz, hP, hK, hN⟩, hD0⟩, hDb, hbz, hG⟩ := hv
  have hx := B.exec
  have hb := B.bytes
  have hr := B.returns
  have hts := atoms_spec (ws := wsX8_method) B.pre
  have hown : s.vm.findClass RX8 = some m.cls := findClass_of_methodNamed B.named
  have hlocks := B.notSynchronized
  have k_1 := hts (.fieldLink RX8 10 "FlowJudge" "types" "LFlowJudge$Types;") (by decide +kernel)
  have k_2 := hts (.classLink RX8 63 "java/lang/IllegalArgumentException") (by decide +kernel)
  have k_3 := hts (.initialized "java/lang/IllegalArgumentException") (by decide +kernel)
  have k_4 := hts (.fieldLink RX8 26 "FlowJudge" "code" "LFlowJudge$Code;") (by decide +kernel)
  subst hsz
  have hAb : ∀ q, va_A [(h0, .inr (8, [.ref t0, .ref m0, .ref c0, .ref x0, .ref f0, .ref w0])), (t0, .inr (7, [.ref th1, .ref th2, .int 4])), (th2, .inl (cyZ, 200, .inl x_face)), (c0, .inr (0, [.int 0, .int 0, .int (-1), .int 0, .int 0, .ref ca5, .int 0, .ref ca7, .ref ca8, .ref ca9, .int 0, .ref ca11, .ref ca12, .ref ca13, .ref ca14, .int 0, .ref ca16]))] s.heap.size q → x_new base q := x_Ab hDb hbz
  have hts_1 := fun w (h : w ∈ (vx_atS RX8 67 "java/lang/IllegalArgumentException" ["java/lang/RuntimeException", "java/lang/Exception"]).filter goodWord) => hts w (u_X8_method_1 w h)
  have hD := hD0.self (sz := s.heap.size)
  generalize hAe : va_A [(h0, .inr (8, [.ref t0, .ref m0, .ref c0, .ref x0, .ref f0, .ref w0])), (t0, .inr (7, [.ref th1, .ref th2, .int 4])), (th2, .inl (cyZ, 200, .inl x_face)), (c0, .inr (0, [.int 0, .int 0, .int (-1), .int 0, .int 0, .ref ca5, .int 0, .ref ca7, .ref ca8, .ref ca9, .int 0, .ref ca11, .ref ca12, .ref ca13, .ref ca14, .int 0, .ref ca16]))] s.heap.size = A at hD hAb ⊢
  have hA : ∀ q : Nat, s.heap.size ≤ q → A q := fun q h => by rw [← hAe]; exact Or.inr h
  have hS : va_S A s.heap s.heap [] := va_S.rf
  have hP : va_P (dC, dI) vwCl [(h0, .inr (8, [.ref t0, .ref m0, .ref c0, .ref x0, .ref f0, .ref w0])), (t0, .inr (7, [.ref th1, .ref th2, .int 4])), (th2, .inl (cyZ, 200, .inl x_face)), (c0, .inr (0, [.int 0, .int 0, .int (-1), .int 0, .int 0, .ref ca5, .int 0, .ref ca7, .ref ca8, .ref ca9, .int 0, .ref ca11, .ref ca12, .ref ca13, .ref ca14, .int 0, .ref ca16]))] s.heap := hP
  have hl := lv_entry ([.ref h0, .int p0, .int p1, .int p2, .int p3, .int p4]) (n := 6) (Nat.le_of_ble_eq_true rfl)
  rw [lg_entry_eq]
  generalize (lg_sl ([.ref h0, .int p0, .int p1, .int p2, .int p3, .int p4]) ++ List.replicate (6 - (lg_sl ([.ref h0, .int p0, .int p1, .int p2, .int p3, .int p4])).length) Slot.unset).toArray = ls at hl ⊢
  have hl : lv_has ls 6 [(0, .ref h0), (1, .int p0), (2, .int p1), (3, .int p2), (4, .int p3), (5, .int p4)] := hl
  obtain ⟨H, hH⟩ : ∃ z, z = s.heap := ⟨_, rfl⟩
  refine x_here hH ?_
  have hP : va_P (dC, dI) vwCl [(h0, .inr (8, [.ref t0, .ref m0, .ref c0, .ref x0, .ref f0, .ref w0])), (t0, .inr (7, [.ref th1, .ref th2, .int 4])), (th2, .inl (cyZ, 200, .inl x_face)), (c0, .inr (0, [.int 0, .int 0, .int (-1), .int 0, .int 0, .ref ca5, .int 0, .ref ca7, .ref ca8, .ref ca9, .int 0, .ref ca11, .ref ca12, .ref ca13, .ref ca14, .int 0, .ref ca16]))] H := by rw [hH]; exact hP
  have hS : va_S A s.heap H [] := by rw [hH]; exact va_S.rf
  clear hH
  refine lv_aload_n hx hb dX8_method_0 rfl (lv_at hl 0 rfl) ?_
  refine va_get (D := (dC, dI)) (ci := 8) (v := .ref t0) (C := RX8) (T := TX8) (N := 6) hx hb hts i_X8_method_X8 hown hK hP 0 rfl rfl 0 (by decide) k_1 (fun _ h9 => h9) rfl dX8_method_1 ?_
  refine lv_iload_n hx hb dX8_method_4 rfl (lv_at hl 1 rfl) ?_
  have hPc := hP.sub (ws' := [(t0, .inr (7, [.ref th1, .ref th2, .int 4]))]) [1] rfl
  refine va_calli (va_runV (As := [.int p0]) (rest := []) ⟨hx, hb, hml, hown, hts⟩ (c_X7_isClass l dC dI cyI cyZ cyJ H.size t0 th1 th2 p0) (cwV 1 hts gX8_method_X7_isClass rfl rfl rfl (by decide +kernel) ⟨Nat.le_of_ble_eq_true rfl, Nat.le_of_ble_eq_true rfl⟩) (x_pV hN hK hPc (ci := 7) (q0 := 0) rfl rfl) rfl rfl hl.1 rfl (lv_room (Nat.le_of_ble_eq_true rfl)) dX8_method_5 ⟨Nat.le_of_ble_eq_true rfl, Nat.le_of_ble_eq_true rfl⟩) hS x_nA (x_nf hA hS) (fun r_5 u t H1 locs ht hvm hw hB hz1 hk1 hS => ?_)
  have hP := x_kp hP hk1
  clear ht hvm hB hz1 hk1 t u hPc
  generalize H1 = H at hP hS ⊢
  obtain rfl := hw
  refine lv_if_eq (tgt := 31) hx hb dX8_method_8 (by decide) (fun c_1 => ?_) (fun c_1 => ?_)
  · skip
    obtain ⟨sa, hsa⟩ := hG.2.2.1 (125, "no CLASS, no such how, or no result") (by decide)
    refine vx_throwS (cls := "java/lang/IllegalArgumentException") (names := ["java/lang/RuntimeException", "java/lang/Exception"]) hx hb hl9 hown (by decide +kernel) (by decide +kernel) k_2 k_3 hsa (x_at1 hG.2.2.2 hts_1) (by decide +kernel) (hG.1.narrow hAb) (hG.2.1.narrow hAb) hS (hl.1.trans hml.symm) dX8_method_31 dX8_method_34 dX8_method_35 dX8_method_37 dX8_method_40 (fun z hz => (hno z hz).elim) (Nat.le_of_ble_eq_true rfl) (Nat.le_of_ble_eq_true rfl) (Nat.le_of_ble_eq_true rfl) (Nat.le_of_ble_eq_true rfl) hlocks (fun t ha h1 h2 => ⟨(), trivial, (by rw [show f_X8_method p0 p1 p2 p3 p4 = (1, 0) from by rw [f_X8_method, if_pos c_1]]; exact x_thr1), x_mv hS h1 h2⟩) hS.2.2 (Nat.le_of_ble_eq_true rfl) (Nat.le_of_ble_eq_true rfl)
  · skip
    refine lv_iload_n hx hb dX8_method_11 rfl (lv_at hl 2 rfl) ?_
    refine lv_if_lt (tgt := 31) hx hb dX8_method_12 (by decide) (fun c_2 => ?_) (fun c_2 => ?_)
    · skip
      obtain ⟨sa, hsa⟩ := hG.2.2.1 (125, "no CLASS, no such how, or no result") (by decide)
      refine vx_throwS (cls := "java/lang/IllegalArgumentException") (names := ["java/lang/RuntimeException", "java/lang/Exception"]) hx hb hl9 hown (by decide +kernel) (by decide +kernel) k_2 k_3 hsa (x_at1 hG.2.2.2 hts_1) (by decide +kernel) (hG.1.narrow hAb) (hG.2.1.narrow hAb) hS (hl.1.trans hml.symm) dX8_method_31 dX8_method_34 dX8_method_35 dX8_method_37 dX8_method_40 (fun z hz => (hno z hz).elim) (Nat.le_of_ble_eq_true rfl) (Nat.le_of_ble_eq_true rfl) (Nat.le_of_ble_eq_true rfl) (Nat.le_of_ble_eq_true rfl) hlocks (fun t ha h1 h2 => ⟨(), trivial, (by rw [show f_X8_method p0 p1 p2 p3 p4 = (1, 0) from by rw [f_X8_method, if_neg c_1, if_pos c_2]]; exact x_thr1), x_mv hS h1 h2⟩) hS.2.2 (Nat.le_of_ble_eq_true rfl) (Nat.le_of_ble_eq_true rfl)
    · skip
      refine lv_iload_n hx hb dX8_method_15 rfl (lv_at hl 2 rfl) ?_
      refine lv_iconst (v := 2) hx hb dX8_method_16 (by decide) ?_
      refine lv_icmp_gt (tgt := 31) hx hb dX8_method_17 (by decide) (fun c_3 => ?_) (fun c_3 => ?_)
      · skip
        obtain ⟨sa, hsa⟩ := hG.2.2.1 (125, "no CLASS, no such how, or no result") (by decide)
        refine vx_throwS (cls := "java/lang/IllegalArgumentException") (names := ["java/lang/RuntimeException", "java/lang/Exception"]) hx hb hl9 hown (by decide +kernel) (by decide +kernel) k_2 k_3 hsa (x_at1 hG.2.2.2 hts_1) (by decide +kernel) (hG.1.narrow hAb) (hG.2.1.narrow hAb) hS (hl.1.trans hml.symm) dX8_method_31 dX8_method_34 dX8_method_35 dX8_method_37 dX8_method_40 (fun z hz => (hno z hz).elim) (Nat.le_of_ble_eq_true rfl) (Nat.le_of_ble_eq_true rfl) (Nat.le_of_ble_eq_true rfl) (Nat.le_of_ble_eq_true rfl) hlocks (fun t ha h1 h2 => ⟨(), trivial, (by rw [show f_X8_method p0 p1 p2 p3 p4 = (1, 0) from by rw [f_X8_method, if_neg c_1, if_neg c_2, if_pos c_3]]; exact x_thr1), x_mv hS h1 h2⟩) hS.2.2 (Nat.le_of_ble_eq_true rfl) (Nat.le_of_ble_eq_true rfl)
      · skip
        refine lv_aload_n hx hb dX8_method_20 rfl (lv_at hl 0 rfl) ?_
        refine va_get (D := (dC, dI)) (ci := 8) (v := .ref t0) (C := RX8) (T := TX8) (N := 6) hx hb hts i_X8_method_X8 hown hK hP 0 rfl rfl 0 (by decide) k_1 (fun _ h9 => h9) rfl dX8_method_21 ?_
        refine lv_iload_n hx hb dX8_method_24 rfl (lv_at hl 3 rfl) ?_
        have hPc := hP.sub (ws' := [(t0, .inr (7, [.ref th1, .ref th2, .int 4]))]) [1] rfl
        refine va_calli (va_runV (As := [.int p2]) (rest := []) ⟨hx, hb, hml, hown, hts⟩ (c_X7_isResult l dC dI cyI cyZ cyJ H.size t0 th1 th2 p2) (cwV 1 hts gX8_method_X7_isResult rfl rfl rfl (by decide +kernel) ⟨Nat.le_of_ble_eq_true rfl, Nat.le_of_ble_eq_true rfl⟩) (x_pV hN hK hPc (ci := 7) (q0 := 0) rfl rfl) rfl rfl hl.1 rfl (lv_room (Nat.le_of_ble_eq_true rfl)) dX8_method_25 ⟨Nat.le_of_ble_eq_true rfl, Nat.le_of_ble_eq_true rfl⟩) hS x_nA (x_nf hA hS) (fun r_25 u t H1 locs ht hvm hw hB hz1 hk1 hS => ?_)
        have hP := x_kp hP hk1
        clear ht hvm hB hz1 hk1 t u hPc
        generalize H1 = H at hP hS ⊢
        obtain rfl := hw
        refine lv_if_ne (tgt := 41) hx hb dX8_method_28 (by decide) (fun c_4 => ?_) (fun c_4 => ?_)
        · skip
          refine lv_iload_n hx hb dX8_method_41 rfl (lv_at hl 2 rfl) ?_
          refine lv_iconst (v := 2) hx hb dX8_method_42 (by decide) ?_
          refine lv_icmp_ne (tgt := 73) hx hb dX8_method_43 (by decide) (fun c_5 => ?_) (fun c_5 => ?_)
          · skip
            refine lv_iload hx hb dX8_method_73 (lv_at hl 4 rfl) ?_
            refine lv_if_lt (tgt := 99) hx hb dX8_method_75 (by decide) (fun c_6 => ?_) (fun c_6 => ?_)
            · skip
              obtain ⟨sa, hsa⟩ := hG.2.2.1 (127, "no such number of places") (by decide)
              refine vx_throwS (cls := "java/lang/IllegalArgumentException") (names := ["java/lang/RuntimeException", "java/lang/Exception"]) hx hb hl9 hown (by decide +kernel) (by decide +kernel) k_2 k_3 hsa (x_at1 hG.2.2.2 hts_1) (by decide +kernel) (hG.1.narrow hAb) (hG.2.1.narrow hAb) hS (hl.1.trans hml.symm) dX8_method_99 dX8_method_102 dX8_method_103 dX8_method_105 dX8_method_108 (fun z hz => (hno z hz).elim) (Nat.le_of_ble_eq_true rfl) (Nat.le_of_ble_eq_true rfl) (Nat.le_of_ble_eq_true rfl) (Nat.le_of_ble_eq_true rfl) hlocks (fun t ha h1 h2 => ⟨(), trivial, (by rw [show f_X8_method p0 p1 p2 p3 p4 = (1, 0) from by rw [f_X8_method, if_neg c_1, if_neg c_2, if_neg c_3, if_neg c_4, if_neg c_5, if_pos c_6]]; exact x_thr1), x_mv hS h1 h2⟩) hS.2.2 (Nat.le_of_ble_eq_true rfl) (Nat.le_of_ble_eq_true rfl)
            · skip
              refine lv_iload hx hb dX8_method_78 (lv_at hl 4 rfl) ?_
              refine lv_sipush (v := 200) hx hb dX8_method_80 (by decide) ?_
              refine lv_icmp_gt (tgt := 99) hx hb dX8_method_83 (by decide) (fun c_7 => ?_) (fun c_7 => ?_)
              · skip
                obtain ⟨sa, hsa⟩ := hG.2.2.1 (127, "no such number of places") (by decide)
                refine vx_throwS (cls := "java/lang/IllegalArgumentException") (names := ["java/lang/RuntimeException", "java/lang/Exception"]) hx hb hl9 hown (by decide +kernel) (by decide +kernel) k_2 k_3 hsa (x_at1 hG.2.2.2 hts_1) (by decide +kernel) (hG.1.narrow hAb) (hG.2.1.narrow hAb) hS (hl.1.trans hml.symm) dX8_method_99 dX8_method_102 dX8_method_103 dX8_method_105 dX8_method_108 (fun z hz => (hno z hz).elim) (Nat.le_of_ble_eq_true rfl) (Nat.le_of_ble_eq_true rfl) (Nat.le_of_ble_eq_true rfl) (Nat.le_of_ble_eq_true rfl) hlocks (fun t ha h1 h2 => ⟨(), trivial, (by rw [show f_X8_method p0 p1 p2 p3 p4 = (1, 0) from by rw [f_X8_method, if_neg c_1, if_neg c_2, if_neg c_3, if_neg c_4, if_neg c_5, if_neg c_6, if_pos c_7]]; exact x_thr1), x_mv hS h1 h2⟩) hS.2.2 (Nat.le_of_ble_eq_true rfl) (Nat.le_of_ble_eq_true rfl)
              · skip
                refine lv_iload hx hb dX8_method_86 (lv_at hl 5 rfl) ?_
                refine lv_if_lt (tgt := 99) hx hb dX8_method_88 (by decide) (fun c_8 => ?_) (fun c_8 => ?_)
                · skip
                  obtain ⟨sa, hsa⟩ := hG.2.2.1 (127, "no such number of places") (by decide)
                  refine vx_throwS (cls := "java/lang/IllegalArgumentException") (names := ["java/lang/RuntimeException", "java/lang/Exception"]) hx hb hl9 hown (by decide +kernel) (by decide +kernel) k_2 k_3 hsa (x_at1 hG.2.2.2 hts_1) (by decide +kernel) (hG.1.narrow hAb) (hG.2.1.narrow hAb) hS (hl.1.trans hml.symm) dX8_method_99 dX8_method_102 dX8_method_103 dX8_method_105 dX8_method_108 (fun z hz => (hno z hz).elim) (Nat.le_of_ble_eq_true rfl) (Nat.le_of_ble_eq_true rfl) (Nat.le_of_ble_eq_true rfl) (Nat.le_of_ble_eq_true rfl) hlocks (fun t ha h1 h2 => ⟨(), trivial, (by rw [show f_X8_method p0 p1 p2 p3 p4 = (1, 0) from by rw [f_X8_method, if_neg c_1, if_neg c_2, if_neg c_3, if_neg c_4, if_neg c_5, if_neg c_6, if_neg c_7, if_pos c_8]]; exact x_thr1), x_mv hS h1 h2⟩) hS.2.2 (Nat.le_of_ble_eq_true rfl) (Nat.le_of_ble_eq_true rfl)
                · skip
                  refine lv_iload hx hb dX8_method_91 (lv_at hl 5 rfl) ?_
                  refine lv_sipush (v := 200) hx hb dX8_method_93 (by decide) ?_
                  refine lv_icmp_le (tgt := 109) hx hb dX8_method_96 (by decide) (fun c_9 => ?_) (fun c_9 => ?_)
                  · skip
                    refine lv_aload_n hx hb dX8_method_109 rfl (lv_at hl 0 rfl) ?_
                    refine va_get (D := (dC, dI)) (ci := 8) (v := .ref c0) (C := RX8) (T := TX8) (N := 6) hx hb hts i_X8_method_X8 hown hK hP 0 rfl rfl 2 (by decide) k_4 (fun _ h9 => h9) rfl dX8_method_110 ?_
                    refine lv_iload_n hx hb dX8_method_113 rfl (lv_at hl 1 rfl) ?_
                    refine lv_iload_n hx hb dX8_method_114 rfl (lv_at hl 2 rfl) ?_
                    refine lv_iload_n hx hb dX8_method_115 rfl (lv_at hl 3 rfl) ?_
                    refine lv_iload hx hb dX8_method_116 (lv_at hl 4 rfl) ?_
                    refine lv_iload hx hb dX8_method_118 (lv_at hl 5 rfl) ?_
                    have hPc := hP.sub (ws' := [(c0, .inr (0, [.int 0, .int 0, .int (-1), .int 0, .int 0, .ref ca5, .int 0, .ref ca7, .ref ca8, .ref ca9, .int 0, .ref ca11, .ref ca12, .ref ca13, .ref ca14, .int 0, .ref ca16]))]) [3] rfl
                    have hDc := hD.sub (ws' := [(c0, .inr (0, [.int 0, .int 0, .int (-1), .int 0, .int 0, .ref ca5, .int 0, .ref ca7, .ref ca8, .ref ca9, .int 0, .ref ca11, .ref ca12, .ref ca13, .ref ca14, .int 0, .ref ca16]))]) [3] (by decide) rfl
                    have hFc := va_free (wc := [(c0, .inr (0, [.int 0, .int 0, .int (-1), .int 0, .int 0, .ref ca5, .int 0, .ref ca7, .ref ca8, .ref ca9, .int 0, .ref ca11, .ref ca12, .ref ca13, .ref ca14, .int 0, .ref ca16]))]) hD hS hA [3] rfl
                    refine va_callv (va_runV (As := [.int p0, .int p1, .int p2, .int p3, .int p4]) (rest := []) ⟨hx, hb, hml, hown, hts⟩ (c_X0_begin l dC dI cyI cyZ cyJ H.size c0 ca5 ca7 ca8 ca9 ca11 ca12 ca13 ca14 ca16 p0 p1 p2 p3 p4) (cwV 5 hts gX8_method_X0_begin rfl rfl rfl (by decide +kernel) ⟨Nat.le_of_ble_eq_true rfl, Nat.le_of_ble_eq_true rfl⟩) (x_pVD hN hK hPc hDc (ci := 0) (q0 := 0) rfl rfl) rfl rfl hl.1 rfl (lv_room (Nat.le_of_ble_eq_true rfl)) dX8_method_120 ⟨Nat.le_of_ble_eq_true rfl, Nat.le_of_ble_eq_true rfl⟩) hS (fun q _ h => hFc q h) hFc (fun u t H1 locs ht hvm hw hB hz1 hk1 hS => ?_)
                    obtain ⟨hP, hD⟩ := va_join (wr := [(h0, .inr (8, [.ref t0, .ref m0, .ref c0, .ref x0, .ref f0, .ref w0])), (t0, .inr (7, [.ref th1, .ref th2, .int 4])), (th2, .inl (cyZ, 200, .inl x_face))]) (w1 := []) hP hD [3] [0, 1, 2] rfl rfl (by decide) (by decide) hk1 hFc x_P0 x_D0
                    clear ht hvm hB hz1 hk1 t u hPc hDc hFc
                    generalize H1 = H at hP hS ⊢
                    have hP : va_P (dC, dI) vwCl [(h0, .inr (8, [.ref t0, .ref m0, .ref c0, .ref x0, .ref f0, .ref w0])), (t0, .inr (7, [.ref th1, .ref th2, .int 4])), (th2, .inl (cyZ, 200, .inl x_face))] H := hP
                    have hD : va_D A [(h0, .inr (8, [.ref t0, .ref m0, .ref c0, .ref x0, .ref f0, .ref w0])), (t0, .inr (7, [.ref th1, .ref th2, .int 4])), (th2, .inl (cyZ, 200, .inl x_face))] := hD
                    refine lv_iconst (v := 0) hx hb dX8_method_123 (by decide) ?_
                    refine vx_ret ?_
                    refine W.widen (k := 1) (n := 6) (Nat.le_of_ble_eq_true rfl) (Nat.le_of_ble_eq_true rfl) ?_
                    exact W.iret hx hb hr (fun t ht hW => ⟨⟨_, (), rfl, by rw [f_X8_method, if_neg c_1, if_neg c_2, if_neg c_3, if_neg c_4, if_neg c_5, if_neg c_6, if_neg c_7, if_neg c_8, if_pos c_9], trivial⟩, hS.F ht⟩) hS.2.2 dX8_method_124
                  · skip
                    obtain ⟨sa, hsa⟩ := hG.2.2.1 (127, "no such number of places") (by decide)
                    refine vx_throwS (cls := "java/lang/IllegalArgumentException") (names := ["java/lang/RuntimeException", "java/lang/Exception"]) hx hb hl9 hown (by decide +kernel) (by decide +kernel) k_2 k_3 hsa (x_at1 hG.2.2.2 hts_1) (by decide +kernel) (hG.1.narrow hAb) (hG.2.1.narrow hAb) hS (hl.1.trans hml.symm) dX8_method_99 dX8_method_102 dX8_method_103 dX8_method_105 dX8_method_108 (fun z hz => (hno z hz).elim) (Nat.le_of_ble_eq_true rfl) (Nat.le_of_ble_eq_true rfl) (Nat.le_of_ble_eq_true rfl) (Nat.le_of_ble_eq_true rfl) hlocks (fun t ha h1 h2 => ⟨(), trivial, (by rw [show f_X8_method p0 p1 p2 p3 p4 = (1, 0) from by rw [f_X8_method, if_neg c_1, if_neg c_2, if_neg c_3, if_neg c_4, if_neg c_5, if_neg c_6, if_neg c_7, if_neg c_8, if_neg c_9]]; exact x_thr1), x_mv hS h1 h2⟩) hS.2.2 (Nat.le_of_ble_eq_true rfl) (Nat.le_of_ble_eq_true rfl)
          · skip
            refine lv_iload_n hx hb dX8_method_46 rfl (lv_at hl 3 rfl) ?_
            refine lv_iconst (v := (-1)) hx hb dX8_method_47 (by decide) ?_
            refine lv_icmp_ne (tgt := 63) hx hb dX8_method_48 (by decide) (fun c_10 => ?_) (fun c_10 => ?_)
            · skip
              obtain ⟨sa, hsa⟩ := hG.2.2.1 (102, "no constructor is like this") (by decide)
              refine vx_throwS (cls := "java/lang/IllegalArgumentException") (names := ["java/lang/RuntimeException", "java/lang/Exception"]) hx hb hl9 hown (by decide +kernel) (by decide +kernel) k_2 k_3 hsa (x_at1 hG.2.2.2 hts_1) (by decide +kernel) (hG.1.narrow hAb) (hG.2.1.narrow hAb) hS (hl.1.trans hml.symm) dX8_method_63 dX8_method_66 dX8_method_67 dX8_method_69 dX8_method_72 (fun z hz => (hno z hz).elim) (Nat.le_of_ble_eq_true rfl) (Nat.le_of_ble_eq_true rfl) (Nat.le_of_ble_eq_true rfl) (Nat.le_of_ble_eq_true rfl) hlocks (fun t ha h1 h2 => ⟨(), trivial, (by rw [show f_X8_method p0 p1 p2 p3 p4 = (1, 0) from by rw [f_X8_method, if_neg c_1, if_neg c_2, if_neg c_3, if_neg c_4, if_pos c_5, if_neg c_10]]; exact x_thr1), x_mv hS h1 h2⟩) hS.2.2 (Nat.le_of_ble_eq_true rfl) (Nat.le_of_ble_eq_true rfl)
            · skip
              refine lv_aload_n hx hb dX8_method_51 rfl (lv_at hl 0 rfl) ?_
              refine va_get (D := (dC, dI)) (ci := 8) (v := .ref t0) (C := RX8) (T := TX8) (N := 6) hx hb hts i_X8_method_X8 hown hK hP 0 rfl rfl 0 (by decide) k_1 (fun _ h9 => h9) rfl dX8_method_52 ?_
              refine va_getN (D := (dC, dI)) (ci := 7) (v := .ref th2) (C := RX7) (T := TX7) (N := 3) hx hb hts i_X8_method_X7 hown hK hP 1 rfl rfl 1 (by decide) ((hN.1 (59, "FlowJudge$Types", "isInterface", "[Z") (by decide)).use rfl) (fun _ h9 => h9) rfl dX8_method_55 ?_
              refine lv_iload_n hx hb dX8_method_58 rfl (lv_at hl 1 rfl) ?_
              refine va_zald hx hb hK hP 2 1 rfl rfl (x_cls (by assumption)) dX8_method_59 ?_
              refine lv_if_eq (tgt := 73) hx hb dX8_method_60 (by decide) (fun c_11 => ?_) (fun c_11 => ?_)
              · skip
                refine lv_iload hx hb dX8_method_73 (lv_at hl 4 rfl) ?_
                refine lv_if_lt (tgt := 99) hx hb dX8_method_75 (by decide) (fun c_12 => ?_) (fun c_12 => ?_)
                · skip
                  obtain ⟨sa, hsa⟩ := hG.2.2.1 (127, "no such number of places") (by decide)
                  refine vx_throwS (cls := "java/lang/IllegalArgumentException") (names := ["java/lang/RuntimeException", "java/lang/Exception"]) hx hb hl9 hown (by decide +kernel) (by decide +kernel) k_2 k_3 hsa (x_at1 hG.2.2.2 hts_1) (by decide +kernel) (hG.1.narrow hAb) (hG.2.1.narrow hAb) hS (hl.1.trans hml.symm) dX8_method_99 dX8_method_102 dX8_method_103 dX8_method_105 dX8_method_108 (fun z hz => (hno z hz).elim) (Nat.le_of_ble_eq_true rfl) (Nat.le_of_ble_eq_true rfl) (Nat.le_of_ble_eq_true rfl) (Nat.le_of_ble_eq_true rfl) hlocks (fun t ha h1 h2 => ⟨(), trivial, (by rw [show f_X8_method p0 p1 p2 p3 p4 = (1, 0) from by rw [f_X8_method, if_neg c_1, if_neg c_2, if_neg c_3, if_neg c_4, if_pos c_5, if_pos c_10, if_pos c_11, if_pos c_12]]; exact x_thr1), x_mv hS h1 h2⟩) hS.2.2 (Nat.le_of_ble_eq_true rfl) (Nat.le_of_ble_eq_true rfl)
                · skip
                  refine lv_iload hx hb dX8_method_78 (lv_at hl 4 rfl) ?_
                  refine lv_sipush (v := 200) hx hb dX8_method_80 (by decide) ?_
                  refine lv_icmp_gt (tgt := 99) hx hb dX8_method_83 (by decide) (fun c_13 => ?_) (fun c_13 => ?_)
                  · skip
                    obtain ⟨sa, hsa⟩ := hG.2.2.1 (127, "no such number of places") (by decide)
                    refine vx_throwS (cls := "java/lang/IllegalArgumentException") (names := ["java/lang/RuntimeException", "java/lang/Exception"]) hx hb hl9 hown (by decide +kernel) (by decide +kernel) k_2 k_3 hsa (x_at1 hG.2.2.2 hts_1) (by decide +kernel) (hG.1.narrow hAb) (hG.2.1.narrow hAb) hS (hl.1.trans hml.symm) dX8_method_99 dX8_method_102 dX8_method_103 dX8_method_105 dX8_method_108 (fun z hz => (hno z hz).elim) (Nat.le_of_ble_eq_true rfl) (Nat.le_of_ble_eq_true rfl) (Nat.le_of_ble_eq_true rfl) (Nat.le_of_ble_eq_true rfl) hlocks (fun t ha h1 h2 => ⟨(), trivial, (by rw [show f_X8_method p0 p1 p2 p3 p4 = (1, 0) from by rw [f_X8_method, if_neg c_1, if_neg c_2, if_neg c_3, if_neg c_4, if_pos c_5, if_pos c_10, if_pos c_11, if_neg c_12, if_pos c_13]]; exact x_thr1), x_mv hS h1 h2⟩) hS.2.2 (Nat.le_of_ble_eq_true rfl) (Nat.le_of_ble_eq_true rfl)
                  · skip
                    refine lv_iload hx hb dX8_method_86 (lv_at hl 5 rfl) ?_
                    refine lv_if_lt (tgt := 99) hx hb dX8_method_88 (by decide) (fun c_14 => ?_) (fun c_14 => ?_)
                    · skip
                      obtain ⟨sa, hsa⟩ := hG.2.2.1 (127, "no such number of places") (by decide)
                      refine vx_throwS (cls := "java/lang/IllegalArgumentException") (names := ["java/lang/RuntimeException", "java/lang/Exception"]) hx hb hl9 hown (by decide +kernel) (by decide +kernel) k_2 k_3 hsa (x_at1 hG.2.2.2 hts_1) (by decide +kernel) (hG.1.narrow hAb) (hG.2.1.narrow hAb) hS (hl.1.trans hml.symm) dX8_method_99 dX8_method_102 dX8_method_103 dX8_method_105 dX8_method_108 (fun z hz => (hno z hz).elim) (Nat.le_of_ble_eq_true rfl) (Nat.le_of_ble_eq_true rfl) (Nat.le_of_ble_eq_true rfl) (Nat.le_of_ble_eq_true rfl) hlocks (fun t ha h1 h2 => ⟨(), trivial, (by rw [show f_X8_method p0 p1 p2 p3 p4 = (1, 0) from by rw [f_X8_method, if_neg c_1, if_neg c_2, if_neg c_3, if_neg c_4, if_pos c_5, if_pos c_10, if_pos c_11, if_neg c_12, if_neg c_13, if_pos c_14]]; exact x_thr1), x_mv hS h1 h2⟩) hS.2.2 (Nat.le_of_ble_eq_true rfl) (Nat.le_of_ble_eq_true rfl)
                    · skip
                      refine lv_iload hx hb dX8_method_91 (lv_at hl 5 rfl) ?_
                      refine lv_sipush (v := 200) hx hb dX8_method_93 (by decide) ?_
                      refine lv_icmp_le (tgt := 109) hx hb dX8_method_96 (by decide) (fun c_15 => ?_) (fun c_15 => ?_)
                      · skip
                        refine lv_aload_n hx hb dX8_method_109 rfl (lv_at hl 0 rfl) ?_
                        refine va_get (D := (dC, dI)) (ci := 8) (v := .ref c0) (C := RX8) (T := TX8) (N := 6) hx hb hts i_X8_method_X8 hown hK hP 0 rfl rfl 2 (by decide) k_4 (fun _ h9 => h9) rfl dX8_method_110 ?_
                        refine lv_iload_n hx hb dX8_method_113 rfl (lv_at hl 1 rfl) ?_
                        refine lv_iload_n hx hb dX8_method_114 rfl (lv_at hl 2 rfl) ?_
                        refine lv_iload_n hx hb dX8_method_115 rfl (lv_at hl 3 rfl) ?_
                        refine lv_iload hx hb dX8_method_116 (lv_at hl 4 rfl) ?_
                        refine lv_iload hx hb dX8_method_118 (lv_at hl 5 rfl) ?_
                        have hPc := hP.sub (ws' := [(c0, .inr (0, [.int 0, .int 0, .int (-1), .int 0, .int 0, .ref ca5, .int 0, .ref ca7, .ref ca8, .ref ca9, .int 0, .ref ca11, .ref ca12, .ref ca13, .ref ca14, .int 0, .ref ca16]))]) [3] rfl
                        have hDc := hD.sub (ws' := [(c0, .inr (0, [.int 0, .int 0, .int (-1), .int 0, .int 0, .ref ca5, .int 0, .ref ca7, .ref ca8, .ref ca9, .int 0, .ref ca11, .ref ca12, .ref ca13, .ref ca14, .int 0, .ref ca16]))]) [3] (by decide) rfl
                        have hFc := va_free (wc := [(c0, .inr (0, [.int 0, .int 0, .int (-1), .int 0, .int 0, .ref ca5, .int 0, .ref ca7, .ref ca8, .ref ca9, .int 0, .ref ca11, .ref ca12, .ref ca13, .ref ca14, .int 0, .ref ca16]))]) hD hS hA [3] rfl
                        refine va_callv (va_runV (As := [.int p0, .int p1, .int p2, .int p3, .int p4]) (rest := []) ⟨hx, hb, hml, hown, hts⟩ (c_X0_begin l dC dI cyI cyZ cyJ H.size c0 ca5 ca7 ca8 ca9 ca11 ca12 ca13 ca14 ca16 p0 p1 p2 p3 p4) (cwV 5 hts gX8_method_X0_begin rfl rfl rfl (by decide +kernel) ⟨Nat.le_of_ble_eq_true rfl, Nat.le_of_ble_eq_true rfl⟩) (x_pVD hN hK hPc hDc (ci := 0) (q0 := 0) rfl rfl) rfl rfl hl.1 rfl (lv_room (Nat.le_of_ble_eq_true rfl)) dX8_method_120 ⟨Nat.le_of_ble_eq_true rfl, Nat.le_of_ble_eq_true rfl⟩) hS (fun q _ h => hFc q h) hFc (fun u t H1 locs ht hvm hw hB hz1 hk1 hS => ?_)
                        obtain ⟨hP, hD⟩ := va_join (wr := [(h0, .inr (8, [.ref t0, .ref m0, .ref c0, .ref x0, .ref f0, .ref w0])), (t0, .inr (7, [.ref th1, .ref th2, .int 4])), (th2, .inl (cyZ, 200, .inl x_face))]) (w1 := []) hP hD [3] [0, 1, 2] rfl rfl (by decide) (by decide) hk1 hFc x_P0 x_D0
                        clear ht hvm hB hz1 hk1 t u hPc hDc hFc
                        generalize H1 = H at hP hS ⊢
                        have hP : va_P (dC, dI) vwCl [(h0, .inr (8, [.ref t0, .ref m0, .ref c0, .ref x0, .ref f0, .ref w0])), (t0, .inr (7, [.ref th1, .ref th2, .int 4])), (th2, .inl (cyZ, 200, .inl x_face))] H := hP
                        have hD : va_D A [(h0, .inr (8, [.ref t0, .ref m0, .ref c0, .ref x0, .ref f0, .ref w0])), (t0, .inr (7, [.ref th1, .ref th2, .int 4])), (th2, .inl (cyZ, 200, .inl x_face))] := hD
                        refine lv_iconst (v := 0) hx hb dX8_method_123 (by decide) ?_
                        refine vx_ret ?_
                        refine W.widen (k := 1) (n := 6) (Nat.le_of_ble_eq_true rfl) (Nat.le_of_ble_eq_true rfl) ?_
                        exact W.iret hx hb hr (fun t ht hW => ⟨⟨_, (), rfl, by rw [f_X8_method, if_neg c_1, if_neg c_2, if_neg c_3, if_neg c_4, if_pos c_5, if_pos c_10, if_pos c_11, if_neg c_12, if_neg c_13, if_neg c_14, if_pos c_15], trivial⟩, hS.F ht⟩) hS.2.2 dX8_method_124
                      · skip
                        obtain ⟨sa, hsa⟩ := hG.2.2.1 (127, "no such number of places") (by decide)
                        refine vx_throwS (cls := "java/lang/IllegalArgumentException") (names := ["java/lang/RuntimeException", "java/lang/Exception"]) hx hb hl9 hown (by decide +kernel) (by decide +kernel) k_2 k_3 hsa (x_at1 hG.2.2.2 hts_1) (by decide +kernel) (hG.1.narrow hAb) (hG.2.1.narrow hAb) hS (hl.1.trans hml.symm) dX8_method_99 dX8_method_102 dX8_method_103 dX8_method_105 dX8_method_108 (fun z hz => (hno z hz).elim) (Nat.le_of_ble_eq_true rfl) (Nat.le_of_ble_eq_true rfl) (Nat.le_of_ble_eq_true rfl) (Nat.le_of_ble_eq_true rfl) hlocks (fun t ha h1 h2 => ⟨(), trivial, (by rw [show f_X8_method p0 p1 p2 p3 p4 = (1, 0) from by rw [f_X8_method, if_neg c_1, if_neg c_2, if_neg c_3, if_neg c_4, if_pos c_5, if_pos c_10, if_pos c_11, if_neg c_12, if_neg c_13, if_neg c_14, if_neg c_15]]; exact x_thr1), x_mv hS h1 h2⟩) hS.2.2 (Nat.le_of_ble_eq_true rfl) (Nat.le_of_ble_eq_true rfl)
              · skip
                obtain ⟨sa, hsa⟩ := hG.2.2.1 (102, "no constructor is like this") (by decide)
                refine vx_throwS (cls := "java/lang/IllegalArgumentException") (names := ["java/lang/RuntimeException", "java/lang/Exception"]) hx hb hl9 hown (by decide +kernel) (by decide +kernel) k_2 k_3 hsa (x_at1 hG.2.2.2 hts_1) (by decide +kernel) (hG.1.narrow hAb) (hG.2.1.narrow hAb) hS (hl.1.trans hml.symm) dX8_method_63 dX8_method_66 dX8_method_67 dX8_method_69 dX8_method_72 (fun z hz => (hno z hz).elim) (Nat.le_of_ble_eq_true rfl) (Nat.le_of_ble_eq_true rfl) (Nat.le_of_ble_eq_true rfl) (Nat.le_of_ble_eq_true rfl) hlocks (fun t ha h1 h2 => ⟨(), trivial, (by rw [show f_X8_method p0 p1 p2 p3 p4 = (1, 0) from by rw [f_X8_method, if_neg c_1, if_neg c_2, if_neg c_3, if_neg c_4, if_pos c_5, if_pos c_10, if_neg c_11]]; exact x_thr1), x_mv hS h1 h2⟩) hS.2.2 (Nat.le_of_ble_eq_true rfl) (Nat.le_of_ble_eq_true rfl)
        · skip
          obtain ⟨sa, hsa⟩ := hG.2.2.1 (125, "no CLASS, no such how, or no result") (by decide)
          refine vx_throwS (cls := "java/lang/IllegalArgumentException") (names := ["java/lang/RuntimeException", "java/lang/Exception"]) hx hb hl9 hown (by decide +kernel) (by decide +kernel) k_2 k_3 hsa (x_at1 hG.2.2.2 hts_1) (by decide +kernel) (hG.1.narrow hAb) (hG.2.1.narrow hAb) hS (hl.1.trans hml.symm) dX8_method_31 dX8_method_34 dX8_method_35 dX8_method_37 dX8_method_40 (fun z hz => (hno z hz).elim) (Nat.le_of_ble_eq_true rfl) (Nat.le_of_ble_eq_true rfl) (Nat.le_of_ble_eq_true rfl) (Nat.le_of_ble_eq_true rfl) hlocks (fun t ha h1 h2 => ⟨(), trivial, (by rw [show f_X8_method p0 p1 p2 p3 p4 = (1, 0) from by rw [f_X8_method, if_neg c_1, if_neg c_2, if_neg c_3, if_pos c_4]]; exact x_thr1), x_mv hS h1 h2⟩) hS.2.2 (Nat.le_of_ble_eq_true rfl) (Nat.le_of_ble_eq_true rfl)

def f_X8_argument (p0 : Int32) : Int32 × Int32 := if (f_X7_isType p0) = (0 : Int32) then (1, 0) else (0, 1)
theorem i_X8_argument_X0 : ∀ w ∈ wsX00, w ∈ wsX8_argument := by decide +kernel
theorem i_X8_argument_X8 : ∀ w ∈ wsX80, w ∈ wsX8_argument := by decide +kernel
theorem u_X8_argument_1 : ∀ w ∈ (vx_atS RX8 67 "java/lang/IllegalArgumentException" ["java/lang/RuntimeException", "java/lang/Exception"]).filter goodWord, w ∈ wsX8_argument := by decide +kernel
set_option maxHeartbeats 4000000 in
set_option maxRecDepth 100000 in
theorem c_X8_argument (l : Launch) (hl9 : l.stackTraces = false) (dC : Nat → ClassId) (dI : Nat → Nat → Nat) (cyI cyZ cyJ : ClassId) (base : Nat) (sz : Nat) (h0 : Nat) (t0 : Nat) (m0 : Nat) (c0 : Nat) (x0 : Nat) (f0 : Nat) (w0 : Nat) (th1 : Nat) (th2 : Nat) (ca5 : Nat) (ca7 : Nat) (ca8 : Nat) (ca9 : Nat) (ca11 : Nat) (ca12 : Nat) (ca13 : Nat) (ca14 : Nat) (ca16 : Nat) (g5 : Nat → Int32) (p0 : Int32) : vx_Met l yX8_argument wsX8_argument ({ frames := 6, cells := 1, slots := 6, locals := 90 }) (va_Pc [.ref h0, .int p0] (x_PreX (dC, dI) (x_T cyI cyZ cyJ) [(h0, .inr (8, [.ref t0, .ref m0, .ref c0, .ref x0, .ref f0, .ref w0])), (t0, .inr (7, [.ref th1, .ref th2, .int 4])), (c0, .inr (0, [.int 0, .int 0, .int (-1), .int 0, .int 0, .ref ca5, .int 0, .ref ca7, .ref ca8, .ref ca9, .int 0, .ref ca11, .ref ca12, .ref ca13, .ref ca14, .int 0, .ref ca16])), (ca5, .inl (cyI, 20, .inl g5))] base sz)) (va_Qi (fun (r : Int32) (_ : Unit) => f_X8_argument p0 = (0, r)) (fun _ _ => True) (va_A [(h0, .inr (8, [.ref t0, .ref m0, .ref c0, .ref x0, .ref f0, .ref w0])), (t0, .inr (7, [.ref th1, .ref th2, .int 4])), (c0, .inr (0, [.int 0, .int 0, .int (-1), .int 0, .int 0, .ref ca5, .int 0, .ref ca7, .ref ca8, .ref ca9, .int 0, .ref ca11, .ref ca12, .ref ca13, .ref ca14, .int 0, .ref ca16])), (ca5, .inl (cyI, 20, .inl g5))] sz)) (vx_X (fun _ : Unit => True) (fun E _ _ => x_thr (f_X8_argument p0).1 E) (va_A [(h0, .inr (8, [.ref t0, .ref m0, .ref c0, .ref x0, .ref f0, .ref w0])), (t0, .inr (7, [.ref th1, .ref th2, .int 4])), (c0, .inr (0, [.int 0, .int 0, .int (-1), .int 0, .int 0, .ref ca5, .int 0, .ref ca7, .ref ca8, .ref ca9, .int 0, .ref ca11, .ref ca12, .ref ca13, .ref ca14, .int 0, .ref ca16])), (ca5, .inl (cyI, 20, .inl g5))] sz)) 1 6 (va_A [(h0, .inr (8, [.ref t0, .ref m0, .ref c0, .ref x0, .ref f0, .ref w0])), (t0, .inr (7, [.ref th1, .ref th2, .int 4])), (c0, .inr (0, [.int 0, .int 0, .int (-1), .int 0, .int 0, .ref ca5, .int 0, .ref ca7, .ref ca8, .ref ca9, .int 0, .ref ca11, .ref ca12, .ref ca13, .ref ca14, .int 0, .ref ca16])), (ca5, .inl (cyI, 20, .inl g5))] sz) := by
  refine vx_ofW (cc := cX8_argument) (maxL := 2) (ret := (some .int)) (by decide) rfl ?_
  intro p e s m args below meth c s₁ B hml hno hv
  obtain ⟨rfl, ⟨⟨hsz, hP, hK, hN⟩, hD0⟩, hDb, hbz, hG⟩ := hv
  have hx := B.exec
  have hb := B.bytes
  have hr := B.returns
  have hts := atoms_spec (ws := wsX8_argument) B.pre
  have hown : s.vm.findClass RX8 = some m.cls := findClass_of_methodNamed B.named
  have hlocks := B.notSynchronized
  have k_1 := hts (.fieldLink RX8 10 "FlowJudge" "types" "LFlowJudge$Types;") (by decide +kernel)
  have k_2 := hts (.fieldLink RX8 26 "FlowJudge" "code" "LFlowJudge$Code;") (by decide +kernel)
  have k_3 := hts (.classLink RX8 63 "java/lang/IllegalArgumentException") (by decide +kernel)
  have k_4 := hts (.initialized "java/lang/IllegalArgumentException") (by decide +kernel)
  subst hsz
  have hAb : ∀ q, va_A [(h0, .inr (8, [.ref t0, .ref m0, .ref c0, .ref x0, .ref f0, .ref w0])), (t0, .inr (7, [.ref th1, .ref th2, .int 4])), (c0, .inr (0, [.int 0, .int 0, .int (-1), .int 0, .int 0, .ref ca5, .int 0, .ref ca7, .ref ca8, .ref ca9, .int 0, .ref ca11, .ref ca12, .ref ca13, .ref ca14, .int 0, .ref ca16])), (ca5, .inl (cyI, 20, .inl g5))] s.heap.size q → x_new base q := x_Ab hDb hbz
  have hts_1 := fun w (h : w ∈ (vx_atS RX8 67 "java/lang/IllegalArgumentException" ["java/lang/RuntimeException", "java/lang/Exception"]).filter goodWord) => hts w (u_X8_argument_1 w h)
  have hD := hD0.self (sz := s.heap.size)
  generalize hAe : va_A [(h0, .inr (8, [.ref t0, .ref m0, .ref c0, .ref x0, .ref f0, .ref w0])), (t0, .inr (7, [.ref th1, .ref th2, .int 4])), (c0, .inr (0, [.int 0, .int 0, .int (-1), .int 0, .int 0, .ref ca5, .int 0, .ref ca7, .ref ca8, .ref ca9, .int 0, .ref ca11, .ref ca12, .ref ca13, .ref ca14, .int 0, .ref ca16])), (ca5, .inl (cyI, 20, .inl g5))] s.heap.size = A at hD hAb ⊢
  have hA : ∀ q : Nat, s.heap.size ≤ q → A q := fun q h => by rw [← hAe]; exact Or.inr h
  have hS : va_S A s.heap s.heap [] := va_S.rf
  have hP : va_P (dC, dI) vwCl [(h0, .inr (8, [.ref t0, .ref m0, .ref c0, .ref x0, .ref f0, .ref w0])), (t0, .inr (7, [.ref th1, .ref th2, .int 4])), (c0, .inr (0, [.int 0, .int 0, .int (-1), .int 0, .int 0, .ref ca5, .int 0, .ref ca7, .ref ca8, .ref ca9, .int 0, .ref ca11, .ref ca12, .ref ca13, .ref ca14, .int 0, .ref ca16])), (ca5, .inl (cyI, 20, .inl g5))] s.heap := hP
  have hl := lv_entry ([.ref h0, .int p0]) (n := 2) (Nat.le_of_ble_eq_true rfl)
  rw [lg_entry_eq]
  generalize (lg_sl ([.ref h0, .int p0]) ++ List.replicate (2 - (lg_sl ([.ref h0, .int p0])).length) Slot.unset).toArray = ls at hl ⊢
  have hl : lv_has ls 2 [(0, .ref h0), (1, .int p0)] := hl
  obtain ⟨H, hH⟩ : ∃ z, z = s.heap := ⟨_, rfl⟩
  refine x_here hH ?_
  have hP : va_P (dC, dI) vwCl [(h0, .inr (8, [.ref t0, .ref m0, .ref c0, .ref x0, .ref f0, .ref w0])), (t0, .inr (7, [.ref th1, .ref th2, .int 4])), (c0, .inr (0, [.int 0, .int 0, .int (-1), .int 0, .int 0, .ref ca5, .int 0, .ref ca7, .ref ca8, .ref ca9, .int 0, .ref ca11, .ref ca12, .ref ca13, .ref ca14, .int 0, .ref ca16])), (ca5, .inl (cyI, 20, .inl g5))] H := by rw [hH]; exact hP
  have hS : va_S A s.heap H [] := by rw [hH]; exact va_S.rf
  clear hH
  refine lv_aload_n hx hb dX8_argument_0 rfl (lv_at hl 0 rfl) ?_
  refine va_get (D := (dC, dI)) (ci := 8) (v := .ref t0) (C := RX8) (T := TX8) (N := 6) hx hb hts i_X8_argument_X8 hown hK hP 0 rfl rfl 0 (by decide) k_1 (fun _ h9 => h9) rfl dX8_argument_1 ?_
  refine lv_iload_n hx hb dX8_argument_4 rfl (lv_at hl 1 rfl) ?_
  have hPc := hP.sub (ws' := [(t0, .inr (7, [.ref th1, .ref th2, .int 4]))]) [1] rfl
  refine va_calli (va_runV (As := [.int p0]) (rest := []) ⟨hx, hb, hml, hown, hts⟩ (c_X7_isType l dC dI cyI cyZ cyJ H.size t0 th1 th2 p0) (cwV 1 hts gX8_argument_X7_isType rfl rfl rfl (by decide +kernel) ⟨Nat.le_of_ble_eq_true rfl, Nat.le_of_ble_eq_true rfl⟩) (x_pV hN hK hPc (ci := 7) (q0 := 0) rfl rfl) rfl rfl hl.1 rfl (lv_room (Nat.le_of_ble_eq_true rfl)) dX8_argument_5 ⟨Nat.le_of_ble_eq_true rfl, Nat.le_of_ble_eq_true rfl⟩) hS x_nA (x_nf hA hS) (fun r_5 u t H1 locs ht hvm hw hB hz1 hk1 hS => ?_)
  have hP := x_kp hP hk1
  clear ht hvm hB hz1 hk1 t u hPc
  generalize H1 = H at hP hS ⊢
  obtain rfl := hw
  refine lv_if_ne (tgt := 21) hx hb dX8_argument_8 (by decide) (fun c_1 => ?_) (fun c_1 => ?_)
  · skip
    refine lv_aload_n hx hb dX8_argument_21 rfl (lv_at hl 0 rfl) ?_
    refine va_get (D := (dC, dI)) (ci := 8) (v := .ref c0) (C := RX8) (T := TX8) (N := 6) hx hb hts i_X8_argument_X8 hown hK hP 0 rfl rfl 2 (by decide) k_2 (fun _ h9 => h9) rfl dX8_argument_22 ?_
    refine va_getN (D := (dC, dI)) (ci := 0) (v := .int 0) (C := RX0) (T := TX0) (N := 17) hx hb hts i_X8_argument_X0 hown hK hP 2 rfl rfl 6 (by decide) ((hN.1 (133, "FlowJudge$Code", "argumentCount", "I") (by decide)).use rfl) (fun _ h9 => h9) rfl dX8_argument_25 ?_
    refine lv_bipush (v := 20) hx hb dX8_argument_28 (by decide) ?_
    refine lv_icmp_lt (tgt := 43) hx hb dX8_argument_30 (by decide) (fun _ => ?_) (fun c_2 => absurd (by decide) c_2)
    refine lv_aload_n hx hb dX8_argument_43 rfl (lv_at hl 0 rfl) ?_
    refine va_get (D := (dC, dI)) (ci := 8) (v := .ref c0) (C := RX8) (T := TX8) (N := 6) hx hb hts i_X8_argument_X8 hown hK hP 0 rfl rfl 2 (by decide) k_2 (fun _ h9 => h9) rfl dX8_argument_44 ?_
    refine lv_iload_n hx hb dX8_argument_47 rfl (lv_at hl 1 rfl) ?_
    have hPc := hP.sub (ws' := [(c0, .inr (0, [.int 0, .int 0, .int (-1), .int 0, .int 0, .ref ca5, .int 0, .ref ca7, .ref ca8, .ref ca9, .int 0, .ref ca11, .ref ca12, .ref ca13, .ref ca14, .int 0, .ref ca16])), (ca5, .inl (cyI, 20, .inl g5))]) [2, 3] rfl
    have hDc := hD.sub (ws' := [(c0, .inr (0, [.int 0, .int 0, .int (-1), .int 0, .int 0, .ref ca5, .int 0, .ref ca7, .ref ca8, .ref ca9, .int 0, .ref ca11, .ref ca12, .ref ca13, .ref ca14, .int 0, .ref ca16])), (ca5, .inl (cyI, 20, .inl g5))]) [2, 3] (by decide) rfl
    have hFc := va_free (wc := [(c0, .inr (0, [.int 0, .int 0, .int (-1), .int 0, .int 0, .ref ca5, .int 0, .ref ca7, .ref ca8, .ref ca9, .int 0, .ref ca11, .ref ca12, .ref ca13, .ref ca14, .int 0, .ref ca16])), (ca5, .inl (cyI, 20, .inl g5))]) hD hS hA [2, 3] rfl
    refine va_calli (va_runV (As := [.int p0]) (rest := []) ⟨hx, hb, hml, hown, hts⟩ (c_X0_takeMore l dC dI cyI cyZ cyJ H.size c0 ca5 ca7 ca8 ca9 ca11 ca12 ca13 ca14 ca16 g5 p0) (cwV 1 hts gX8_argument_X0_takeMore rfl rfl rfl (by decide +kernel) ⟨Nat.le_of_ble_eq_true rfl, Nat.le_of_ble_eq_true rfl⟩) (x_pVD hN hK hPc hDc (ci := 0) (q0 := 0) rfl rfl) rfl rfl hl.1 rfl (lv_room (Nat.le_of_ble_eq_true rfl)) dX8_argument_48 ⟨Nat.le_of_ble_eq_true rfl, Nat.le_of_ble_eq_true rfl⟩) hS (fun q _ h => hFc q h) hFc (fun r_48 u t H1 locs ht hvm hw hB hz1 hk1 hS => ?_)
    obtain ⟨hP, hD⟩ := va_join (wr := [(h0, .inr (8, [.ref t0, .ref m0, .ref c0, .ref x0, .ref f0, .ref w0])), (t0, .inr (7, [.ref th1, .ref th2, .int 4]))]) (w1 := []) hP hD [2, 3] [0, 1] rfl rfl (by decide) (by decide) hk1 hFc x_P0 x_D0
    clear ht hvm hB hz1 hk1 t u hPc hDc hFc
    generalize H1 = H at hP hS ⊢
    have hP : va_P (dC, dI) vwCl [(h0, .inr (8, [.ref t0, .ref m0, .ref c0, .ref x0, .ref f0, .ref w0])), (t0, .inr (7, [.ref th1, .ref th2, .int 4]))] H := hP
    have hD : va_D A [(h0, .inr (8, [.ref t0, .ref m0, .ref c0, .ref x0, .ref f0, .ref w0])), (t0, .inr (7, [.ref th1, .ref th2, .int 4]))] := hD
    obtain rfl := hw
    refine vx_ret ?_
    refine W.widen (k := 1) (n := 6) (Nat.le_of_ble_eq_true rfl) (Nat.le_of_ble_eq_true rfl) ?_
    exact W.iret hx hb hr (fun t ht hW => ⟨⟨_, (), rfl, by rw [f_X8_argument, if_neg c_1], trivial⟩, hS.F ht⟩) hS.2.2 dX8_argument_51
  · skip
    obtain ⟨sa, hsa⟩ := hG.2.2.1 (113, "no TYPE") (by decide)
    refine vx_throwS (cls := "java/lang/IllegalArgumentException") (names := ["java/lang/RuntimeException", "java/lang/Exception"]) hx hb hl9 hown (by decide +kernel) (by decide +kernel) k_3 k_4 hsa (x_at1 hG.2.2.2 hts_1) (by decide +kernel) (hG.1.narrow hAb) (hG.2.1.narrow hAb) hS (hl.1.trans hml.symm) dX8_argument_11 dX8_argument_14 dX8_argument_15 dX8_argument_17 dX8_argument_20 (fun z hz => (hno z hz).elim) (Nat.le_of_ble_eq_true rfl) (Nat.le_of_ble_eq_true rfl) (Nat.le_of_ble_eq_true rfl) (Nat.le_of_ble_eq_true rfl) hlocks (fun t ha h1 h2 => ⟨(), trivial, (by rw [show f_X8_argument p0 = (1, 0) from by rw [f_X8_argument, if_pos c_1]]; exact x_thr1), x_mv hS h1 h2⟩) hS.2.2 (Nat.le_of_ble_eq_true rfl) (Nat.le_of_ble_eq_true rfl)

def f_X8_put (p0 : Int32) (p1 : Int32) (p2 : Int32) : Int32 × Int32 := if (f_X8_isInstruction p0 p1 p2) = (0 : Int32) then (1, 0) else (0, 0)
theorem i_X8_put_X0 : ∀ w ∈ wsX00, w ∈ wsX8_put := by decide +kernel
theorem i_X8_put_X8 : ∀ w ∈ wsX80, w ∈ wsX8_put := by decide +kernel
theorem u_X8_put_1 : ∀ w ∈ (vx_atS RX8 67 "java/lang/IllegalArgumentException" ["java/lang/RuntimeException", "java/lang/Exception"]).filter goodWord, w ∈ wsX8_put := by decide +kernel
set_option maxHeartbeats 4000000 in
set_option maxRecDepth 100000 in
theorem c_X8_put (l : Launch) (hl9 : l.stackTraces = false) (dC : Nat → ClassId) (dI : Nat → Nat → Nat) (cyI cyZ cyJ : ClassId) (base : Nat) (sz : Nat) (h0 : Nat) (t0 : Nat) (m0 : Nat) (c0 : Nat) (x0 : Nat) (f0 : Nat) (w0 : Nat) (th1 : Nat) (th2 : Nat) (ma0 : Nat) (ma1 : Nat) (ma3 : Nat) (ma4 : Nat) (ma5 : Nat) (ma6 : Nat) (ma7 : Nat) (ca5 : Nat) (ca7 : Nat) (ca8 : Nat) (ca9 : Nat) (ca11 : Nat) (ca12 : Nat) (ca13 : Nat) (ca14 : Nat) (ca16 : Nat) (g7 : Nat → Int32) (g8 : Nat → Int32) (g9 : Nat → Int32) (g12 : Nat → Int32) (g13 : Nat → Int32) (p0 : Int32) (p1 : Int32) (p2 : Int32) : vx_Met l yX8_put wsX8_put ({ frames := 6, cells := 1, slots := 6, locals := 108 }) (va_Pc [.ref h0, .int p0, .int p1, .int p2] (x_PreX (dC, dI) (x_T cyI cyZ cyJ) [(h0, .inr (8, [.ref t0, .ref m0, .ref c0, .ref x0, .ref f0, .ref w0])), (t0, .inr (7, [.ref th1, .ref th2, .int 4])), (m0, .inr (4, [.ref ma0, .ref ma1, .int 0, .ref ma3, .ref ma4, .ref ma5, .ref ma6, .ref ma7, .int 0])), (c0, .inr (0, [.int 0, .int 0, .int (-1), .int 0, .int 0, .ref ca5, .int 0, .ref ca7, .ref ca8, .ref ca9, .int 0, .ref ca11, .ref ca12, .ref ca13, .ref ca14, .int 0, .ref ca16])), (ca7, .inl (cyI, 1000, .inl g7)), (ca8, .inl (cyI, 1000, .inl g8)), (ca9, .inl (cyI, 1000, .inl g9)), (ca12, .inl (cyI, 1000, .inl g12)), (ca13, .inl (cyI, 1000, .inl g13))] base sz)) (va_Qi (fun (r : Int32) (_ : Unit) => f_X8_put p0 p1 p2 = (0, r)) (fun _ _ => True) (va_A [(h0, .inr (8, [.ref t0, .ref m0, .ref c0, .ref x0, .ref f0, .ref w0])), (t0, .inr (7, [.ref th1, .ref th2, .int 4])), (m0, .inr (4, [.ref ma0, .ref ma1, .int 0, .ref ma3, .ref ma4, .ref ma5, .ref ma6, .ref ma7, .int 0])), (c0, .inr (0, [.int 0, .int 0, .int (-1), .int 0, .int 0, .ref ca5, .int 0, .ref ca7, .ref ca8, .ref ca9, .int 0, .ref ca11, .ref ca12, .ref ca13, .ref ca14, .int 0, .ref ca16])), (ca7, .inl (cyI, 1000, .inl g7)), (ca8, .inl (cyI, 1000, .inl g8)), (ca9, .inl (cyI, 1000, .inl g9)), (ca12, .inl (cyI, 1000, .inl g12)), (ca13, .inl (cyI, 1000, .inl g13))] sz)) (vx_X (fun _ : Unit => True) (fun E _ _ => x_thr (f_X8_put p0 p1 p2).1 E) (va_A [(h0, .inr (8, [.ref t0, .ref m0, .ref c0, .ref x0, .ref f0, .ref w0])), (t0, .inr (7, [.ref th1, .ref th2, .int 4])), (m0, .inr (4, [.ref ma0, .ref ma1, .int 0, .ref ma3, .ref ma4, .ref ma5, .ref ma6, .ref ma7, .int 0])), (c0, .inr (0, [.int 0, .int 0, .int (-1), .int 0, .int 0, .ref ca5, .int 0, .ref ca7, .ref ca8, .ref ca9, .int 0, .ref ca11, .ref ca12, .ref ca13, .ref ca14, .int 0, .ref ca16])), (ca7, .inl (cyI, 1000, .inl g7)), (ca8, .inl (cyI, 1000, .inl g8)), (ca9, .inl (cyI, 1000, .inl g9)), (ca12, .inl (cyI, 1000, .inl g12)), (ca13, .inl (cyI, 1000, .inl g13))] sz)) 1 6 (va_A [(h0, .inr (8, [.ref t0, .ref m0, .ref c0, .ref x0, .ref f0, .ref w0])), (t0, .inr (7, [.ref th1, .ref th2, .int 4])), (m0, .inr (4, [.ref ma0, .ref ma1, .int 0, .ref ma3, .ref ma4, .ref ma5, .ref ma6, .ref ma7, .int 0])), (c0, .inr (0, [.int 0, .int 0, .int (-1), .int 0, .int 0, .ref ca5, .int 0, .ref ca7, .ref ca8, .ref ca9, .int 0, .ref ca11, .ref ca12, .ref ca13, .ref ca14, .int 0, .ref ca16])), (ca7, .inl (cyI, 1000, .inl g7)), (ca8, .inl (cyI, 1000, .inl g8)), (ca9, .inl (cyI, 1000, .inl g9)), (ca12, .inl (cyI, 1000, .inl g12)), (ca13, .inl (cyI, 1000, .inl g13))] sz) := by
  refine vx_ofW (cc := cX8_put) (maxL := 4) (ret := (some .int)) (by decide) rfl ?_
  intro p e s m args below meth c s₁ B hml hno hv
  obtain ⟨rfl, ⟨⟨hsz, hP, hK, hN⟩, hD0⟩, hDb, hbz, hG⟩ := hv
  have hx := B.exec
  have hb := B.bytes
  have hr := B.returns
  have hts := atoms_spec (ws := wsX8_put) B.pre
  have hown : s.vm.findClass RX8 = some m.cls := findClass_of_methodNamed B.named
  have hlocks := B.notSynchronized
  have k_1 := hts (.fieldLink RX8 26 "FlowJudge" "code" "LFlowJudge$Code;") (by decide +kernel)
  have k_2 := hts (.classLink RX8 63 "java/lang/IllegalArgumentException") (by decide +kernel)
  have k_3 := hts (.initialized "java/lang/IllegalArgumentException") (by decide +kernel)
  subst hsz
  have hAb : ∀ q, va_A [(h0, .inr (8, [.ref t0, .ref m0, .ref c0, .ref x0, .ref f0, .ref w0])), (t0, .inr (7, [.ref th1, .ref th2, .int 4])), (m0, .inr (4, [.ref ma0, .ref ma1, .int 0, .ref ma3, .ref ma4, .ref ma5, .ref ma6, .ref ma7, .int 0])), (c0, .inr (0, [.int 0, .int 0, .int (-1), .int 0, .int 0, .ref ca5, .int 0, .ref ca7, .ref ca8, .ref ca9, .int 0, .ref ca11, .ref ca12, .ref ca13, .ref ca14, .int 0, .ref ca16])), (ca7, .inl (cyI, 1000, .inl g7)), (ca8, .inl (cyI, 1000, .inl g8)), (ca9, .inl (cyI, 1000, .inl g9)), (ca12, .inl (cyI, 1000, .inl g12)), (ca13, .inl (cyI, 1000, .inl g13))] s.heap.size q → x_new base q := x_Ab hDb hbz
  have hts_1 := fun w (h : w ∈ (vx_atS RX8 67 "java/lang/IllegalArgumentException" ["java/lang/RuntimeException", "java/lang/Exception"]).filter goodWord) => hts w (u_X8_put_1 w h)
  have hD := hD0.self (sz := s.heap.size)
  generalize hAe : va_A [(h0, .inr (8, [.ref t0, .ref m0, .ref c0, .ref x0, .ref f0, .ref w0])), (t0, .inr (7, [.ref th1, .ref th2, .int 4])), (m0, .inr (4, [.ref ma0, .ref ma1, .int 0, .ref ma3, .ref ma4, .ref ma5, .ref ma6, .ref ma7, .int 0])), (c0, .inr (0, [.int 0, .int 0, .int (-1), .int 0, .int 0, .ref ca5, .int 0, .ref ca7, .ref ca8, .ref ca9, .int 0, .ref ca11, .ref ca12, .ref ca13, .ref ca14, .int 0, .ref ca16])), (ca7, .inl (cyI, 1000, .inl g7)), (ca8, .inl (cyI, 1000, .inl g8)), (ca9, .inl (cyI, 1000, .inl g9)), (ca12, .inl (cyI, 1000, .inl g12)), (ca13, .inl (cyI, 1000, .inl g13))] s.heap.size = A at hD hAb ⊢
  have hA : ∀ q : Nat, s.heap.size ≤ q → A q := fun q h => by rw [← hAe]; exact Or.inr h
  have hS : va_S A s.heap s.heap [] := va_S.rf
  have hP : va_P (dC, dI) vwCl [(h0, .inr (8, [.ref t0, .ref m0, .ref c0, .ref x0, .ref f0, .ref w0])), (t0, .inr (7, [.ref th1, .ref th2, .int 4])), (m0, .inr (4, [.ref ma0, .ref ma1, .int 0, .ref ma3, .ref ma4, .ref ma5, .ref ma6, .ref ma7, .int 0])), (c0, .inr (0, [.int 0, .int 0, .int (-1), .int 0, .int 0, .ref ca5, .int 0, .ref ca7, .ref ca8, .ref ca9, .int 0, .ref ca11, .ref ca12, .ref ca13, .ref ca14, .int 0, .ref ca16])), (ca7, .inl (cyI, 1000, .inl g7)), (ca8, .inl (cyI, 1000, .inl g8)), (ca9, .inl (cyI, 1000, .inl g9)), (ca12, .inl (cyI, 1000, .inl g12)), (ca13, .inl (cyI, 1000, .inl g13))] s.heap := hP
  have hl := lv_entry ([.ref h0, .int p0, .int p1, .int p2]) (n := 4) (Nat.le_of_ble_eq_true rfl)
  rw [lg_entry_eq]
  generalize (lg_sl ([.ref h0, .int p0, .int p1, .int p2]) ++ List.replicate (4 - (lg_sl ([.ref h0, .int p0, .int p1, .int p2])).length) Slot.unset).toArray = ls at hl ⊢
  have hl : lv_has ls 4 [(0, .ref h0), (1, .int p0), (2, .int p1), (3, .int p2)] := hl
  obtain ⟨H, hH⟩ : ∃ z, z = s.heap := ⟨_, rfl⟩
  refine x_here hH ?_
  have hP : va_P (dC, dI) vwCl [(h0, .inr (8, [.ref t0, .ref m0, .ref c0, .ref x0, .ref f0, .ref w0])), (t0, .inr (7, [.ref th1, .ref th2, .int 4])), (m0, .inr (4, [.ref ma0, .ref ma1, .int 0, .ref ma3, .ref ma4, .ref ma5, .ref ma6, .ref ma7, .int 0])), (c0, .inr (0, [.int 0, .int 0, .int (-1), .int 0, .int 0, .ref ca5, .int 0, .ref ca7, .ref ca8, .ref ca9, .int 0, .ref ca11, .ref ca12, .ref ca13, .ref ca14, .int 0, .ref ca16])), (ca7, .inl (cyI, 1000, .inl g7)), (ca8, .inl (cyI, 1000, .inl g8)), (ca9, .inl (cyI, 1000, .inl g9)), (ca12, .inl (cyI, 1000, .inl g12)), (ca13, .inl (cyI, 1000, .inl g13))] H := by rw [hH]; exact hP
  have hS : va_S A s.heap H [] := by rw [hH]; exact va_S.rf
  clear hH
  refine lv_aload_n hx hb dX8_put_0 rfl (lv_at hl 0 rfl) ?_
  refine lv_iload_n hx hb dX8_put_1 rfl (lv_at hl 1 rfl) ?_
  refine lv_iload_n hx hb dX8_put_2 rfl (lv_at hl 2 rfl) ?_
  refine lv_iload_n hx hb dX8_put_3 rfl (lv_at hl 3 rfl) ?_
  have hPc := hP.sub (ws' := [(h0, .inr (8, [.ref t0, .ref m0, .ref c0, .ref x0, .ref f0, .ref w0])), (t0, .inr (7, [.ref th1, .ref th2, .int 4])), (m0, .inr (4, [.ref ma0, .ref ma1, .int 0, .ref ma3, .ref ma4, .ref ma5, .ref ma6, .ref ma7, .int 0]))]) [0, 1, 2] rfl
  refine va_calli (va_runV (As := [.int p0, .int p1, .int p2]) (rest := []) ⟨hx, hb, hml, hown, hts⟩ (c_X8_isInstruction l dC dI cyI cyZ cyJ H.size h0 t0 m0 c0 x0 f0 w0 th1 th2 ma0 ma1 ma3 ma4 ma5 ma6 ma7 p0 p1 p2) (cwV 3 hts gX8_put_X8_isInstruction rfl rfl rfl (by decide +kernel) ⟨Nat.le_of_ble_eq_true rfl, Nat.le_of_ble_eq_true rfl⟩) (x_pV hN hK hPc (ci := 8) (q0 := 0) rfl rfl) rfl rfl hl.1 rfl (lv_room (Nat.le_of_ble_eq_true rfl)) dX8_put_4 ⟨Nat.le_of_ble_eq_true rfl, Nat.le_of_ble_eq_true rfl⟩) hS x_nA (x_nf hA hS) (fun r_4 u t H1 locs ht hvm hw hB hz1 hk1 hS => ?_)
  have hP := x_kp hP hk1
  clear ht hvm hB hz1 hk1 t u hPc
  generalize H1 = H at hP hS ⊢
  obtain rfl := hw
  refine lv_if_ne (tgt := 20) hx hb dX8_put_7 (by decide) (fun c_1 => ?_) (fun c_1 => ?_)
  · skip
    refine lv_aload_n hx hb dX8_put_20 rfl (lv_at hl 0 rfl) ?_
    refine va_get (D := (dC, dI)) (ci := 8) (v := .ref c0) (C := RX8) (T := TX8) (N := 6) hx hb hts i_X8_put_X8 hown hK hP 0 rfl rfl 2 (by decide) k_1 (fun _ h9 => h9) rfl dX8_put_21 ?_
    refine va_getN (D := (dC, dI)) (ci := 0) (v := .int 0) (C := RX0) (T := TX0) (N := 17) hx hb hts i_X8_put_X0 hown hK hP 3 rfl rfl 10 (by decide) ((hN.1 (145, "FlowJudge$Code", "count", "I") (by decide)).use rfl) (fun _ h9 => h9) rfl dX8_put_24 ?_
    refine lv_sipush (v := 1000) hx hb dX8_put_27 (by decide) ?_
    refine lv_icmp_lt (tgt := 43) hx hb dX8_put_30 (by decide) (fun _ => ?_) (fun c_2 => absurd (by decide) c_2)
    refine lv_aload_n hx hb dX8_put_43 rfl (lv_at hl 0 rfl) ?_
    refine va_get (D := (dC, dI)) (ci := 8) (v := .ref c0) (C := RX8) (T := TX8) (N := 6) hx hb hts i_X8_put_X8 hown hK hP 0 rfl rfl 2 (by decide) k_1 (fun _ h9 => h9) rfl dX8_put_44 ?_
    refine lv_iload_n hx hb dX8_put_47 rfl (lv_at hl 1 rfl) ?_
    refine lv_iload_n hx hb dX8_put_48 rfl (lv_at hl 2 rfl) ?_
    refine lv_iload_n hx hb dX8_put_49 rfl (lv_at hl 3 rfl) ?_
    have hPc := hP.sub (ws' := [(c0, .inr (0, [.int 0, .int 0, .int (-1), .int 0, .int 0, .ref ca5, .int 0, .ref ca7, .ref ca8, .ref ca9, .int 0, .ref ca11, .ref ca12, .ref ca13, .ref ca14, .int 0, .ref ca16])), (ca7, .inl (cyI, 1000, .inl g7)), (ca8, .inl (cyI, 1000, .inl g8)), (ca9, .inl (cyI, 1000, .inl g9)), (ca12, .inl (cyI, 1000, .inl g12)), (ca13, .inl (cyI, 1000, .inl g13))]) [3, 4, 5, 6, 7, 8] rfl
    have hDc := hD.sub (ws' := [(c0, .inr (0, [.int 0, .int 0, .int (-1), .int 0, .int 0, .ref ca5, .int 0, .ref ca7, .ref ca8, .ref ca9, .int 0, .ref ca11, .ref ca12, .ref ca13, .ref ca14, .int 0, .ref ca16])), (ca7, .inl (cyI, 1000, .inl g7)), (ca8, .inl (cyI, 1000, .inl g8)), (ca9, .inl (cyI, 1000, .inl g9)), (ca12, .inl (cyI, 1000, .inl g12)), (ca13, .inl (cyI, 1000, .inl g13))]) [3, 4, 5, 6, 7, 8] (by decide) rfl
    have hFc := va_free (wc := [(c0, .inr (0, [.int 0, .int 0, .int (-1), .int 0, .int 0, .ref ca5, .int 0, .ref ca7, .ref ca8, .ref ca9, .int 0, .ref ca11, .ref ca12, .ref ca13, .ref ca14, .int 0, .ref ca16])), (ca7, .inl (cyI, 1000, .inl g7)), (ca8, .inl (cyI, 1000, .inl g8)), (ca9, .inl (cyI, 1000, .inl g9)), (ca12, .inl (cyI, 1000, .inl g12)), (ca13, .inl (cyI, 1000, .inl g13))]) hD hS hA [3, 4, 5, 6, 7, 8] rfl
    refine va_calli (va_runV (As := [.int p0, .int p1, .int p2]) (rest := []) ⟨hx, hb, hml, hown, hts⟩ (c_X0_enter l dC dI cyI cyZ cyJ H.size c0 ca5 ca7 ca8 ca9 ca11 ca12 ca13 ca14 ca16 g7 g8 g9 g12 g13 p0 p1 p2) (cwV 3 hts gX8_put_X0_enter rfl rfl rfl (by decide +kernel) ⟨Nat.le_of_ble_eq_true rfl, Nat.le_of_ble_eq_true rfl⟩) (x_pVD hN hK hPc hDc (ci := 0) (q0 := 0) rfl rfl) rfl rfl hl.1 rfl (lv_room (Nat.le_of_ble_eq_true rfl)) dX8_put_50 ⟨Nat.le_of_ble_eq_true rfl, Nat.le_of_ble_eq_true rfl⟩) hS (fun q _ h => hFc q h) hFc (fun r_50 u t H1 locs ht hvm hw hB hz1 hk1 hS => ?_)
    obtain ⟨hP, hD⟩ := va_join (wr := [(h0, .inr (8, [.ref t0, .ref m0, .ref c0, .ref x0, .ref f0, .ref w0])), (t0, .inr (7, [.ref th1, .ref th2, .int 4])), (m0, .inr (4, [.ref ma0, .ref ma1, .int 0, .ref ma3, .ref ma4, .ref ma5, .ref ma6, .ref ma7, .int 0]))]) (w1 := []) hP hD [3, 4, 5, 6, 7, 8] [0, 1, 2] rfl rfl (by decide) (by decide) hk1 hFc x_P0 x_D0
    clear ht hvm hB hz1 hk1 t u hPc hDc hFc
    generalize H1 = H at hP hS ⊢
    have hP : va_P (dC, dI) vwCl [(h0, .inr (8, [.ref t0, .ref m0, .ref c0, .ref x0, .ref f0, .ref w0])), (t0, .inr (7, [.ref th1, .ref th2, .int 4])), (m0, .inr (4, [.ref ma0, .ref ma1, .int 0, .ref ma3, .ref ma4, .ref ma5, .ref ma6, .ref ma7, .int 0]))] H := hP
    have hD : va_D A [(h0, .inr (8, [.ref t0, .ref m0, .ref c0, .ref x0, .ref f0, .ref w0])), (t0, .inr (7, [.ref th1, .ref th2, .int 4])), (m0, .inr (4, [.ref ma0, .ref ma1, .int 0, .ref ma3, .ref ma4, .ref ma5, .ref ma6, .ref ma7, .int 0]))] := hD
    obtain rfl := hw
    refine vx_ret ?_
    refine W.widen (k := 1) (n := 6) (Nat.le_of_ble_eq_true rfl) (Nat.le_of_ble_eq_true rfl) ?_
    exact W.iret hx hb hr (fun t ht hW => ⟨⟨_, (), rfl, by rw [f_X8_put, if_neg c_1], trivial⟩, hS.F ht⟩) hS.2.2 dX8_put_53
  · skip
    obtain ⟨sa, hsa⟩ := hG.2.2.1 (143, "no such INSTRUCTION") (by decide)
    refine vx_throwS (cls := "java/lang/IllegalArgumentException") (names := ["java/lang/RuntimeException", "java/lang/Exception"]) hx hb hl9 hown (by decide +kernel) (by decide +kernel) k_2 k_3 hsa (x_at1 hG.2.2.2 hts_1) (by decide +kernel) (hG.1.narrow hAb) (hG.2.1.narrow hAb) hS (hl.1.trans hml.symm) dX8_put_10 dX8_put_13 dX8_put_14 dX8_put_16 dX8_put_19 (fun z hz => (hno z hz).elim) (Nat.le_of_ble_eq_true rfl) (Nat.le_of_ble_eq_true rfl) (Nat.le_of_ble_eq_true rfl) (Nat.le_of_ble_eq_true rfl) hlocks (fun t ha h1 h2 => ⟨(), trivial, (by rw [show f_X8_put p0 p1 p2 = (1, 0) from by rw [f_X8_put, if_pos c_1]]; exact x_thr1), x_mv hS h1 h2⟩) hS.2.2 (Nat.le_of_ble_eq_true rfl) (Nat.le_of_ble_eq_true rfl)

def f_X8_to (p0 : Int32) : Int32 × Int32 := if (0 : Int32) ≤ p0 then (2, 0) else (1, 0)
theorem i_X8_to_X8 : ∀ w ∈ wsX80, w ∈ wsX8_to := by decide +kernel
theorem u_X8_to_1 : ∀ w ∈ (vx_atS RX8 67 "java/lang/IllegalArgumentException" ["java/lang/RuntimeException", "java/lang/Exception"]).filter goodWord, w ∈ wsX8_to := by decide +kernel
theorem u_X8_to_2 : ∀ w ∈ (vx_atS RX8 78 "java/lang/IllegalStateException" ["java/lang/RuntimeException", "java/lang/Exception"]).filter goodWord, w ∈ wsX8_to := by decide +kernel
set_option maxHeartbeats 4000000 in
set_option maxRecDepth 100000 in
theorem c_X8_to (l : Launch) (hl9 : l.stackTraces = false) (dC : Nat → ClassId) (dI : Nat → Nat → Nat) (cyI cyZ cyJ : ClassId) (base : Nat) (sz : Nat) (h0 : Nat) (t0 : Nat) (m0 : Nat) (c0 : Nat) (x0 : Nat) (f0 : Nat) (w0 : Nat) (ca5 : Nat) (ca7 : Nat) (ca8 : Nat) (ca9 : Nat) (ca11 : Nat) (ca12 : Nat) (ca13 : Nat) (ca14 : Nat) (ca16 : Nat) (p0 : Int32) : vx_Met l yX8_to wsX8_to ({ frames := 6, cells := 1, slots := 6, locals := 90 }) (va_Pc [.ref h0, .int p0] (x_PreX (dC, dI) (x_T cyI cyZ cyJ) [(h0, .inr (8, [.ref t0, .ref m0, .ref c0, .ref x0, .ref f0, .ref w0])), (c0, .inr (0, [.int 0, .int 0, .int (-1), .int 0, .int 0, .ref ca5, .int 0, .ref ca7, .ref ca8, .ref ca9, .int 0, .ref ca11, .ref ca12, .ref ca13, .ref ca14, .int 0, .ref ca16]))] base sz)) (va_Qi (fun (r : Int32) (_ : Unit) => f_X8_to p0 = (0, r)) (fun _ _ => True) (va_A [(h0, .inr (8, [.ref t0, .ref m0, .ref c0, .ref x0, .ref f0, .ref w0])), (c0, .inr (0, [.int 0, .int 0, .int (-1), .int 0, .int 0, .ref ca5, .int 0, .ref ca7, .ref ca8, .ref ca9, .int 0, .ref ca11, .ref ca12, .ref ca13, .ref ca14, .int 0, .ref ca16]))] sz)) (vx_X (fun _ : Unit => True) (fun E _ _ => x_thr (f_X8_to p0).1 E) (va_A [(h0, .inr (8, [.ref t0, .ref m0, .ref c0, .ref x0, .ref f0, .ref w0])), (c0, .inr (0, [.int 0, .int 0, .int (-1), .int 0, .int 0, .ref ca5, .int 0, .ref ca7, .ref ca8, .ref ca9, .int 0, .ref ca11, .ref ca12, .ref ca13, .ref ca14, .int 0, .ref ca16]))] sz)) 1 6 (va_A [(h0, .inr (8, [.ref t0, .ref m0, .ref c0, .ref x0, .ref f0, .ref w0])), (c0, .inr (0, [.int 0, .int 0, .int (-1), .int 0, .int 0, .ref ca5, .int 0, .ref ca7, .ref ca8, .ref ca9, .int 0, .ref ca11, .ref ca12, .ref ca13, .ref ca14, .int 0, .ref ca16]))] sz) := by
  refine vx_ofW (cc := cX8_to) (maxL := 2) (ret := (some .int)) (by decide) rfl ?_
  intro p e s m args below meth c s₁ B hml hno hv
  obtain ⟨rfl, ⟨⟨hsz, hP, hK, hN⟩, hD0⟩, hDb, hbz, hG⟩ := hv
  have hx := B.exec
  have hb := B.bytes
  have hr := B.returns
  have hts := atoms_spec (ws := wsX8_to) B.pre
  have hown : s.vm.findClass RX8 = some m.cls := findClass_of_methodNamed B.named
  have hlocks := B.notSynchronized
  have k_1 := hts (.fieldLink RX8 26 "FlowJudge" "code" "LFlowJudge$Code;") (by decide +kernel)
  have k_2 := hts (.classLink RX8 74 "java/lang/IllegalStateException") (by decide +kernel)
  have k_3 := hts (.initialized "java/lang/IllegalStateException") (by decide +kernel)
  have k_4 := hts (.classLink RX8 63 "java/lang/IllegalArgumentException") (by decide +kernel)
  have k_5 := hts (.initialized "java/lang/IllegalArgumentException") (by decide +kernel)
  subst hsz
  have hAb : ∀ q, va_A [(h0, .inr (8, [.ref t0, .ref m0, .ref c0, .ref x0, .ref f0, .ref w0])), (c0, .inr (0, [.int 0, .int 0, .int (-1), .int 0, .int 0, .ref ca5, .int 0, .ref ca7, .ref ca8, .ref ca9, .int 0, .ref ca11, .ref ca12, .ref ca13, .ref ca14, .int 0, .ref ca16]))] s.heap.size q → x_new base q := x_Ab hDb hbz
  have hts_1 := fun w (h : w ∈ (vx_atS RX8 67 "java/lang/IllegalArgumentException" ["java/lang/RuntimeException", "java/lang/Exception"]).filter goodWord) => hts w (u_X8_to_1 w h)
  have hts_2 := fun w (h : w ∈ (vx_atS RX8 78 "java/lang/IllegalStateException" ["java/lang/RuntimeException", "java/lang/Exception"]).filter goodWord) => hts w (u_X8_to_2 w h)
  have hD := hD0.self (sz := s.heap.size)
  generalize hAe : va_A [(h0, .inr (8, [.ref t0, .ref m0, .ref c0, .ref x0, .ref f0, .ref w0])), (c0, .inr (0, [.int 0, .int 0, .int (-1), .int 0, .int 0, .ref ca5, .int 0, .ref ca7, .ref ca8, .ref ca9, .int 0, .ref ca11, .ref ca12, .ref ca13, .ref ca14, .int 0, .ref ca16]))] s.heap.size = A at hD hAb ⊢
  have hA : ∀ q : Nat, s.heap.size ≤ q → A q := fun q h => by rw [← hAe]; exact Or.inr h
  have hS : va_S A s.heap s.heap [] := va_S.rf
  have hP : va_P (dC, dI) vwCl [(h0, .inr (8, [.ref t0, .ref m0, .ref c0, .ref x0, .ref f0, .ref w0])), (c0, .inr (0, [.int 0, .int 0, .int (-1), .int 0, .int 0, .ref ca5, .int 0, .ref ca7, .ref ca8, .ref ca9, .int 0, .ref ca11, .ref ca12, .ref ca13, .ref ca14, .int 0, .ref ca16]))] s.heap := hP
  have hl := lv_entry ([.ref h0, .int p0]) (n := 2) (Nat.le_of_ble_eq_true rfl)
  rw [lg_entry_eq]
  generalize (lg_sl ([.ref h0, .int p0]) ++ List.replicate (2 - (lg_sl ([.ref h0, .int p0])).length) Slot.unset).toArray = ls at hl ⊢
  have hl : lv_has ls 2 [(0, .ref h0), (1, .int p0)] := hl
  obtain ⟨H, hH⟩ : ∃ z, z = s.heap := ⟨_, rfl⟩
  refine x_here hH ?_
  have hP : va_P (dC, dI) vwCl [(h0, .inr (8, [.ref t0, .ref m0, .ref c0, .ref x0, .ref f0, .ref w0])), (c0, .inr (0, [.int 0, .int 0, .int (-1), .int 0, .int 0, .ref ca5, .int 0, .ref ca7, .ref ca8, .ref ca9, .int 0, .ref ca11, .ref ca12, .ref ca13, .ref ca14, .int 0, .ref ca16]))] H := by rw [hH]; exact hP
  have hS : va_S A s.heap H [] := by rw [hH]; exact va_S.rf
  clear hH
  refine lv_iload_n hx hb dX8_to_0 rfl (lv_at hl 1 rfl) ?_
  refine lv_if_ge (tgt := 14) hx hb dX8_to_1 (by decide) (fun c_1 => ?_) (fun c_1 => ?_)
  · skip
    refine lv_aload_n hx hb dX8_to_14 rfl (lv_at hl 0 rfl) ?_
    refine va_get (D := (dC, dI)) (ci := 8) (v := .ref c0) (C := RX8) (T := TX8) (N := 6) hx hb hts i_X8_to_X8 hown hK hP 0 rfl rfl 2 (by decide) k_1 (fun _ h9 => h9) rfl dX8_to_15 ?_
    have hPc := hP.sub (ws' := [(c0, .inr (0, [.int 0, .int 0, .int (-1), .int 0, .int 0, .ref ca5, .int 0, .ref ca7, .ref ca8, .ref ca9, .int 0, .ref ca11, .ref ca12, .ref ca13, .ref ca14, .int 0, .ref ca16]))]) [1] rfl
    refine va_calli (va_runV (As := []) (rest := []) ⟨hx, hb, hml, hown, hts⟩ (c_X0_canSwitchToMore l dC dI cyI cyZ cyJ H.size c0 ca5 ca7 ca8 ca9 ca11 ca12 ca13 ca14 ca16) (cwV 0 hts gX8_to_X0_canSwitchToMore rfl rfl rfl (by decide +kernel) ⟨Nat.le_of_ble_eq_true rfl, Nat.le_of_ble_eq_true rfl⟩) (x_pV hN hK hPc (ci := 0) (q0 := 0) rfl rfl) rfl rfl hl.1 rfl (lv_room (Nat.le_of_ble_eq_true rfl)) dX8_to_18 ⟨Nat.le_of_ble_eq_true rfl, Nat.le_of_ble_eq_true rfl⟩) hS x_nA (x_nf hA hS) (fun r_18 u t H1 locs ht hvm hw hB hz1 hk1 hS => ?_)
    have hP := x_kp hP hk1
    clear ht hvm hB hz1 hk1 t u hPc
    generalize H1 = H at hP hS ⊢
    obtain rfl := hw
    refine lv_if_ne (tgt := 34) hx hb dX8_to_21 (by decide) (fun c_2 => absurd (by decide) c_2) (fun _ => ?_)
    obtain ⟨sa, hsa⟩ := hG.2.2.1 (156, "no switch, or no more TARGETS") (by decide)
    refine vx_throwS (cls := "java/lang/IllegalStateException") (names := ["java/lang/RuntimeException", "java/lang/Exception"]) hx hb hl9 hown (by decide +kernel) (by decide +kernel) k_2 k_3 hsa (x_at2 hG.2.2.2 hts_2) (by decide +kernel) (hG.1.narrow hAb) (hG.2.1.narrow hAb) hS (hl.1.trans hml.symm) dX8_to_24 dX8_to_27 dX8_to_28 dX8_to_30 dX8_to_33 (fun z hz => (hno z hz).elim) (Nat.le_of_ble_eq_true rfl) (Nat.le_of_ble_eq_true rfl) (Nat.le_of_ble_eq_true rfl) (Nat.le_of_ble_eq_true rfl) hlocks (fun t ha h1 h2 => ⟨(), trivial, (by rw [show f_X8_to p0 = (2, 0) from by rw [f_X8_to, if_pos c_1]]; exact x_thr2), x_mv hS h1 h2⟩) hS.2.2 (Nat.le_of_ble_eq_true rfl) (Nat.le_of_ble_eq_true rfl)
  · skip
    obtain ⟨sa, hsa⟩ := hG.2.2.1 (151, "no INSTRUCTION") (by decide)
    refine vx_throwS (cls := "java/lang/IllegalArgumentException") (names := ["java/lang/RuntimeException", "java/lang/Exception"]) hx hb hl9 hown (by decide +kernel) (by decide +kernel) k_4 k_5 hsa (x_at1 hG.2.2.2 hts_1) (by decide +kernel) (hG.1.narrow hAb) (hG.2.1.narrow hAb) hS (hl.1.trans hml.symm) dX8_to_4 dX8_to_7 dX8_to_8 dX8_to_10 dX8_to_13 (fun z hz => (hno z hz).elim) (Nat.le_of_ble_eq_true rfl) (Nat.le_of_ble_eq_true rfl) (Nat.le_of_ble_eq_true rfl) (Nat.le_of_ble_eq_true rfl) hlocks (fun t ha h1 h2 => ⟨(), trivial, (by rw [show f_X8_to p0 = (1, 0) from by rw [f_X8_to, if_neg c_1]]; exact x_thr1), x_mv hS h1 h2⟩) hS.2.2 (Nat.le_of_ble_eq_true rfl) (Nat.le_of_ble_eq_true rfl)

def f_X8_row (p0 : Int32) (p1 : Int32) (p2 : Int32) (p3 : Int32) : Int32 × Int32 := if p0 < (0 : Int32) then (1, 0) else if p1 < (0 : Int32) then (1, 0) else if p2 < (0 : Int32) then (1, 0) else if p3 = (-1 : Int32) then (0, 1) else if (f_X7_isClass p3) = (0 : Int32) then (1, 0) else (0, 1)
theorem i_X8_row_X0 : ∀ w ∈ wsX00, w ∈ wsX8_row := by decide +kernel
theorem i_X8_row_X8 : ∀ w ∈ wsX80, w ∈ wsX8_row := by decide +kernel
theorem u_X8_row_1 : ∀ w ∈ (vx_atS RX8 67 "java/lang/IllegalArgumentException" ["java/lang/RuntimeException", "java/lang/Exception"]).filter goodWord, w ∈ wsX8_row := by decide +kernel
set_option maxHeartbeats 4000000 in
set_option maxRecDepth 100000 in
theorem c_X8_row (l : Launch) (hl9 : l.stackTraces = false) (dC : Nat → ClassId) (dI : Nat → Nat → Nat) (cyI cyZ cyJ : ClassId) (base : Nat) (sz : Nat) (h0 : Nat) (t0 : Nat) (m0 : Nat) (c0 : Nat) (x0 : Nat) (f0 : Nat) (w0 : Nat) (th1 : Nat) (th2 : Nat) (ca5 : Nat) (ca7 : Nat) (ca8 : Nat) (ca9 : Nat) (ca11 : Nat) (ca12 : Nat) (ca13 : Nat) (ca14 : Nat) (ca16 : Nat) (g14 : Nat → Int32) (p0 : Int32) (p1 : Int32) (p2 : Int32) (p3 : Int32) : vx_Met l yX8_row wsX8_row ({ frames := 6, cells := 1, slots := 6, locals := 90 }) (va_Pc [.ref h0, .int p0, .int p1, .int p2, .int p3] (x_PreX (dC, dI) (x_T cyI cyZ cyJ) [(h0, .inr (8, [.ref t0, .ref m0, .ref c0, .ref x0, .ref f0, .ref w0])), (t0, .inr (7, [.ref th1, .ref th2, .int 4])), (c0, .inr (0, [.int 0, .int 0, .int (-1), .int 0, .int 0, .ref ca5, .int 0, .ref ca7, .ref ca8, .ref ca9, .int 0, .ref ca11, .ref ca12, .ref ca13, .ref ca14, .int 0, .ref ca16])), (ca14, .inl (cyI, 200, .inl g14))] base sz)) (va_Qi (fun (r : Int32) (_ : Unit) => f_X8_row p0 p1 p2 p3 = (0, r)) (fun _ _ => True) (va_A [(h0, .inr (8, [.ref t0, .ref m0, .ref c0, .ref x0, .ref f0, .ref w0])), (t0, .inr (7, [.ref th1, .ref th2, .int 4])), (c0, .inr (0, [.int 0, .int 0, .int (-1), .int 0, .int 0, .ref ca5, .int 0, .ref ca7, .ref ca8, .ref ca9, .int 0, .ref ca11, .ref ca12, .ref ca13, .ref ca14, .int 0, .ref ca16])), (ca14, .inl (cyI, 200, .inl g14))] sz)) (vx_X (fun _ : Unit => True) (fun E _ _ => x_thr (f_X8_row p0 p1 p2 p3).1 E) (va_A [(h0, .inr (8, [.ref t0, .ref m0, .ref c0, .ref x0, .ref f0, .ref w0])), (t0, .inr (7, [.ref th1, .ref th2, .int 4])), (c0, .inr (0, [.int 0, .int 0, .int (-1), .int 0, .int 0, .ref ca5, .int 0, .ref ca7, .ref ca8, .ref ca9, .int 0, .ref ca11, .ref ca12, .ref ca13, .ref ca14, .int 0, .ref ca16])), (ca14, .inl (cyI, 200, .inl g14))] sz)) 1 6 (va_A [(h0, .inr (8, [.ref t0, .ref m0, .ref c0, .ref x0, .ref f0, .ref w0])), (t0, .inr (7, [.ref th1, .ref th2, .int 4])), (c0, .inr (0, [.int 0, .int 0, .int (-1), .int 0, .int 0, .ref ca5, .int 0, .ref ca7, .ref ca8, .ref ca9, .int 0, .ref ca11, .ref ca12, .ref ca13, .ref ca14, .int 0, .ref ca16])), (ca14, .inl (cyI, 200, .inl g14))] sz) := by
  refine vx_ofW (cc := cX8_row) (maxL := 5) (ret := (some .int)) (by decide) rfl ?_
  intro p e s m args below meth c s₁ B hml hno hv
  obtain ⟨rfl, ⟨⟨hsz, hP, hK, hN⟩, hD0⟩, hDb, hbz, hG⟩ := hv
  have hx := B.exec
  have hb := B.bytes
  have hr := B.returns
  have hts := atoms_spec (ws := wsX8_row) B.pre
  have hown : s.vm.findClass RX8 = some m.cls := findClass_of_methodNamed B.named
  have hlocks := B.notSynchronized
  have k_1 := hts (.classLink RX8 63 "java/lang/IllegalArgumentException") (by decide +kernel)
  have k_2 := hts (.initialized "java/lang/IllegalArgumentException") (by decide +kernel)
  have k_3 := hts (.fieldLink RX8 26 "FlowJudge" "code" "LFlowJudge$Code;") (by decide +kernel)
  have k_4 := hts (.fieldLink RX8 10 "FlowJudge" "types" "LFlowJudge$Types;") (by decide +kernel)
  subst hsz
  have hAb : ∀ q, va_A [(h0, .inr (8, [.ref t0, .ref m0, .ref c0, .ref x0, .ref f0, .ref w0])), (t0, .inr (7, [.ref th1, .ref th2, .int 4])), (c0, .inr (0, [.int 0, .int 0, .int (-1), .int 0, .int 0, .ref ca5, .int 0, .ref ca7, .ref ca8, .ref ca9, .int 0, .ref ca11, .ref ca12, .ref ca13, .ref ca14, .int 0, .ref ca16])), (ca14, .inl (cyI, 200, .inl g14))] s.heap.size q → x_new base q := x_Ab hDb hbz
  have hts_1 := fun w (h : w ∈ (vx_atS RX8 67 "java/lang/IllegalArgumentException" ["java/lang/RuntimeException", "java/lang/Exception"]).filter goodWord) => hts w (u_X8_row_1 w h)
  have hD := hD0.self (sz := s.heap.size)
  generalize hAe : va_A [(h0, .inr (8, [.ref t0, .ref m0, .ref c0, .ref x0, .ref f0, .ref w0])), (t0, .inr (7, [.ref th1, .ref th2, .int 4])), (c0, .inr (0, [.int 0, .int 0, .int (-1), .int 0, .int 0, .ref ca5, .int 0, .ref ca7, .ref ca8, .ref ca9, .int 0, .ref ca11, .ref ca12, .ref ca13, .ref ca14, .int 0, .ref ca16])), (ca14, .inl (cyI, 200, .inl g14))] s.heap.size = A at hD hAb ⊢
  have hA : ∀ q : Nat, s.heap.size ≤ q → A q := fun q h => by rw [← hAe]; exact Or.inr h
  have hS : va_S A s.heap s.heap [] := va_S.rf
  have hP : va_P (dC, dI) vwCl [(h0, .inr (8, [.ref t0, .ref m0, .ref c0, .ref x0, .ref f0, .ref w0])), (t0, .inr (7, [.ref th1, .ref th2, .int 4])), (c0, .inr (0, [.int 0, .int 0, .int (-1), .int 0, .int 0, .ref ca5, .int 0, .ref ca7, .ref ca8, .ref ca9, .int 0, .ref ca11, .ref ca12, .ref ca13, .ref ca14, .int 0, .ref ca16])), (ca14, .inl (cyI, 200, .inl g14))] s.heap := hP
  have hl := lv_entry ([.ref h0, .int p0, .int p1, .int p2, .int p3]) (n := 5) (Nat.le_of_ble_eq_true rfl)
  rw [lg_entry_eq]
  generalize (lg_sl ([.ref h0, .int p0, .int p1, .int p2, .int p3]) ++ List.replicate (5 - (lg_sl ([.ref h0, .int p0, .int p1, .int p2, .int p3])).length) Slot.unset).toArray = ls at hl ⊢
  have hl : lv_has ls 5 [(0, .ref h0), (1, .int p0), (2, .int p1), (3, .int p2), (4, .int p3)] := hl
  obtain ⟨H, hH⟩ : ∃ z, z = s.heap := ⟨_, rfl⟩
  refine x_here hH ?_
  have hP : va_P (dC, dI) vwCl [(h0, .inr (8, [.ref t0, .ref m0, .ref c0, .ref x0, .ref f0, .ref w0])), (t0, .inr (7, [.ref th1, .ref th2, .int 4])), (c0, .inr (0, [.int 0, .int 0, .int (-1), .int 0, .int 0, .ref ca5, .int 0, .ref ca7, .ref ca8, .ref ca9, .int 0, .ref ca11, .ref ca12, .ref ca13, .ref ca14, .int 0, .ref ca16])), (ca14, .inl (cyI, 200, .inl g14))] H := by rw [hH]; exact hP
  have hS : va_S A s.heap H [] := by rw [hH]; exact va_S.rf
  clear hH
  refine lv_iload_n hx hb dX8_row_0 rfl (lv_at hl 1 rfl) ?_
  refine lv_if_lt (tgt := 30) hx hb dX8_row_1 (by decide) (fun c_1 => ?_) (fun c_1 => ?_)
  · skip
    obtain ⟨sa, hsa⟩ := hG.2.2.1 (161, "no INSTRUCTION or no CLASS") (by decide)
    refine vx_throwS (cls := "java/lang/IllegalArgumentException") (names := ["java/lang/RuntimeException", "java/lang/Exception"]) hx hb hl9 hown (by decide +kernel) (by decide +kernel) k_1 k_2 hsa (x_at1 hG.2.2.2 hts_1) (by decide +kernel) (hG.1.narrow hAb) (hG.2.1.narrow hAb) hS (hl.1.trans hml.symm) dX8_row_30 dX8_row_33 dX8_row_34 dX8_row_36 dX8_row_39 (fun z hz => (hno z hz).elim) (Nat.le_of_ble_eq_true rfl) (Nat.le_of_ble_eq_true rfl) (Nat.le_of_ble_eq_true rfl) (Nat.le_of_ble_eq_true rfl) hlocks (fun t ha h1 h2 => ⟨(), trivial, (by rw [show f_X8_row p0 p1 p2 p3 = (1, 0) from by rw [f_X8_row, if_pos c_1]]; exact x_thr1), x_mv hS h1 h2⟩) hS.2.2 (Nat.le_of_ble_eq_true rfl) (Nat.le_of_ble_eq_true rfl)
  · skip
    refine lv_iload_n hx hb dX8_row_4 rfl (lv_at hl 2 rfl) ?_
    refine lv_if_lt (tgt := 30) hx hb dX8_row_5 (by decide) (fun c_2 => ?_) (fun c_2 => ?_)
    · skip
      obtain ⟨sa, hsa⟩ := hG.2.2.1 (161, "no INSTRUCTION or no CLASS") (by decide)
      refine vx_throwS (cls := "java/lang/IllegalArgumentException") (names := ["java/lang/RuntimeException", "java/lang/Exception"]) hx hb hl9 hown (by decide +kernel) (by decide +kernel) k_1 k_2 hsa (x_at1 hG.2.2.2 hts_1) (by decide +kernel) (hG.1.narrow hAb) (hG.2.1.narrow hAb) hS (hl.1.trans hml.symm) dX8_row_30 dX8_row_33 dX8_row_34 dX8_row_36 dX8_row_39 (fun z hz => (hno z hz).elim) (Nat.le_of_ble_eq_true rfl) (Nat.le_of_ble_eq_true rfl) (Nat.le_of_ble_eq_true rfl) (Nat.le_of_ble_eq_true rfl) hlocks (fun t ha h1 h2 => ⟨(), trivial, (by rw [show f_X8_row p0 p1 p2 p3 = (1, 0) from by rw [f_X8_row, if_neg c_1, if_pos c_2]]; exact x_thr1), x_mv hS h1 h2⟩) hS.2.2 (Nat.le_of_ble_eq_true rfl) (Nat.le_of_ble_eq_true rfl)
    · skip
      refine lv_iload_n hx hb dX8_row_8 rfl (lv_at hl 3 rfl) ?_
      refine lv_if_lt (tgt := 30) hx hb dX8_row_9 (by decide) (fun c_3 => ?_) (fun c_3 => ?_)
      · skip
        obtain ⟨sa, hsa⟩ := hG.2.2.1 (161, "no INSTRUCTION or no CLASS") (by decide)
        refine vx_throwS (cls := "java/lang/IllegalArgumentException") (names := ["java/lang/RuntimeException", "java/lang/Exception"]) hx hb hl9 hown (by decide +kernel) (by decide +kernel) k_1 k_2 hsa (x_at1 hG.2.2.2 hts_1) (by decide +kernel) (hG.1.narrow hAb) (hG.2.1.narrow hAb) hS (hl.1.trans hml.symm) dX8_row_30 dX8_row_33 dX8_row_34 dX8_row_36 dX8_row_39 (fun z hz => (hno z hz).elim) (Nat.le_of_ble_eq_true rfl) (Nat.le_of_ble_eq_true rfl) (Nat.le_of_ble_eq_true rfl) (Nat.le_of_ble_eq_true rfl) hlocks (fun t ha h1 h2 => ⟨(), trivial, (by rw [show f_X8_row p0 p1 p2 p3 = (1, 0) from by rw [f_X8_row, if_neg c_1, if_neg c_2, if_pos c_3]]; exact x_thr1), x_mv hS h1 h2⟩) hS.2.2 (Nat.le_of_ble_eq_true rfl) (Nat.le_of_ble_eq_true rfl)
      · skip
        refine lv_iload hx hb dX8_row_12 (lv_at hl 4 rfl) ?_
        refine lv_iconst (v := (-1)) hx hb dX8_row_14 (by decide) ?_
        refine lv_icmp_eq (tgt := 40) hx hb dX8_row_15 (by decide) (fun c_4 => ?_) (fun c_4 => ?_)
        · skip
          refine lv_aload_n hx hb dX8_row_40 rfl (lv_at hl 0 rfl) ?_
          refine va_get (D := (dC, dI)) (ci := 8) (v := .ref c0) (C := RX8) (T := TX8) (N := 6) hx hb hts i_X8_row_X8 hown hK hP 0 rfl rfl 2 (by decide) k_3 (fun _ h9 => h9) rfl dX8_row_41 ?_
          refine va_getN (D := (dC, dI)) (ci := 0) (v := .int 0) (C := RX0) (T := TX0) (N := 17) hx hb hts i_X8_row_X0 hown hK hP 2 rfl rfl 15 (by decide) ((hN.1 (163, "FlowJudge$Code", "rowCount", "I") (by decide)).use rfl) (fun _ h9 => h9) rfl dX8_row_44 ?_
          refine lv_bipush (v := 50) hx hb dX8_row_47 (by decide) ?_
          refine lv_icmp_lt (tgt := 62) hx hb dX8_row_49 (by decide) (fun _ => ?_) (fun c_5 => absurd (by decide) c_5)
          refine lv_aload_n hx hb dX8_row_62 rfl (lv_at hl 0 rfl) ?_
          refine va_get (D := (dC, dI)) (ci := 8) (v := .ref c0) (C := RX8) (T := TX8) (N := 6) hx hb hts i_X8_row_X8 hown hK hP 0 rfl rfl 2 (by decide) k_3 (fun _ h9 => h9) rfl dX8_row_63 ?_
          refine lv_iload_n hx hb dX8_row_66 rfl (lv_at hl 1 rfl) ?_
          refine lv_iload_n hx hb dX8_row_67 rfl (lv_at hl 2 rfl) ?_
          refine lv_iload_n hx hb dX8_row_68 rfl (lv_at hl 3 rfl) ?_
          refine lv_iload hx hb dX8_row_69 (lv_at hl 4 rfl) ?_
          have hPc := hP.sub (ws' := [(c0, .inr (0, [.int 0, .int 0, .int (-1), .int 0, .int 0, .ref ca5, .int 0, .ref ca7, .ref ca8, .ref ca9, .int 0, .ref ca11, .ref ca12, .ref ca13, .ref ca14, .int 0, .ref ca16])), (ca14, .inl (cyI, 200, .inl g14))]) [2, 3] rfl
          have hDc := hD.sub (ws' := [(c0, .inr (0, [.int 0, .int 0, .int (-1), .int 0, .int 0, .ref ca5, .int 0, .ref ca7, .ref ca8, .ref ca9, .int 0, .ref ca11, .ref ca12, .ref ca13, .ref ca14, .int 0, .ref ca16])), (ca14, .inl (cyI, 200, .inl g14))]) [2, 3] (by decide) rfl
          have hFc := va_free (wc := [(c0, .inr (0, [.int 0, .int 0, .int (-1), .int 0, .int 0, .ref ca5, .int 0, .ref ca7, .ref ca8, .ref ca9, .int 0, .ref ca11, .ref ca12, .ref ca13, .ref ca14, .int 0, .ref ca16])), (ca14, .inl (cyI, 200, .inl g14))]) hD hS hA [2, 3] rfl
          refine va_calli (va_runV (As := [.int p0, .int p1, .int p2, .int p3]) (rest := []) ⟨hx, hb, hml, hown, hts⟩ (c_X0_enterRow l dC dI cyI cyZ cyJ H.size c0 ca5 ca7 ca8 ca9 ca11 ca12 ca13 ca14 ca16 g14 p0 p1 p2 p3) (cwV 4 hts gX8_row_X0_enterRow rfl rfl rfl (by decide +kernel) ⟨Nat.le_of_ble_eq_true rfl, Nat.le_of_ble_eq_true rfl⟩) (x_pVD hN hK hPc hDc (ci := 0) (q0 := 0) rfl rfl) rfl rfl hl.1 rfl (lv_room (Nat.le_of_ble_eq_true rfl)) dX8_row_71 ⟨Nat.le_of_ble_eq_true rfl, Nat.le_of_ble_eq_true rfl⟩) hS (fun q _ h => hFc q h) hFc (fun r_71 u t H1 locs ht hvm hw hB hz1 hk1 hS => ?_)
          obtain ⟨hP, hD⟩ := va_join (wr := [(h0, .inr (8, [.ref t0, .ref m0, .ref c0, .ref x0, .ref f0, .ref w0])), (t0, .inr (7, [.ref th1, .ref th2, .int 4]))]) (w1 := []) hP hD [2, 3] [0, 1] rfl rfl (by decide) (by decide) hk1 hFc x_P0 x_D0
          clear ht hvm hB hz1 hk1 t u hPc hDc hFc
          generalize H1 = H at hP hS ⊢
          have hP : va_P (dC, dI) vwCl [(h0, .inr (8, [.ref t0, .ref m0, .ref c0, .ref x0, .ref f0, .ref w0])), (t0, .inr (7, [.ref th1, .ref th2, .int 4]))] H := hP
          have hD : va_D A [(h0, .inr (8, [.ref t0, .ref m0, .ref c0, .ref x0, .ref f0, .ref w0])), (t0, .inr (7, [.ref th1, .ref th2, .int 4]))] := hD
          obtain rfl := hw
          refine vx_ret ?_
          refine W.widen (k := 1) (n := 6) (Nat.le_of_ble_eq_true rfl) (Nat.le_of_ble_eq_true rfl) ?_
          exact W.iret hx hb hr (fun t ht hW => ⟨⟨_, (), rfl, by rw [f_X8_row, if_neg c_1, if_neg c_2, if_neg c_3, if_pos c_4], trivial⟩, hS.F ht⟩) hS.2.2 dX8_row_74
        · skip
          refine lv_aload_n hx hb dX8_row_18 rfl (lv_at hl 0 rfl) ?_
          refine va_get (D := (dC, dI)) (ci := 8) (v := .ref t0) (C := RX8) (T := TX8) (N := 6) hx hb hts i_X8_row_X8 hown hK hP 0 rfl rfl 0 (by decide) k_4 (fun _ h9 => h9) rfl dX8_row_19 ?_
          refine lv_iload hx hb dX8_row_22 (lv_at hl 4 rfl) ?_
          have hPc := hP.sub (ws' := [(t0, .inr (7, [.ref th1, .ref th2, .int 4]))]) [1] rfl
          refine va_calli (va_runV (As := [.int p3]) (rest := []) ⟨hx, hb, hml, hown, hts⟩ (c_X7_isClass l dC dI cyI cyZ cyJ H.size t0 th1 th2 p3) (cwV 1 hts gX8_row_X7_isClass rfl rfl rfl (by decide +kernel) ⟨Nat.le_of_ble_eq_true rfl, Nat.le_of_ble_eq_true rfl⟩) (x_pV hN hK hPc (ci := 7) (q0 := 0) rfl rfl) rfl rfl hl.1 rfl (lv_room (Nat.le_of_ble_eq_true rfl)) dX8_row_24 ⟨Nat.le_of_ble_eq_true rfl, Nat.le_of_ble_eq_true rfl⟩) hS x_nA (x_nf hA hS) (fun r_24 u t H1 locs ht hvm hw hB hz1 hk1 hS => ?_)
          have hP := x_kp hP hk1
          clear ht hvm hB hz1 hk1 t u hPc
          generalize H1 = H at hP hS ⊢
          obtain rfl := hw
          refine lv_if_ne (tgt := 40) hx hb dX8_row_27 (by decide) (fun c_6 => ?_) (fun c_6 => ?_)
          · skip
            refine lv_aload_n hx hb dX8_row_40 rfl (lv_at hl 0 rfl) ?_
            refine va_get (D := (dC, dI)) (ci := 8) (v := .ref c0) (C := RX8) (T := TX8) (N := 6) hx hb hts i_X8_row_X8 hown hK hP 0 rfl rfl 2 (by decide) k_3 (fun _ h9 => h9) rfl dX8_row_41 ?_
            refine va_getN (D := (dC, dI)) (ci := 0) (v := .int 0) (C := RX0) (T := TX0) (N := 17) hx hb hts i_X8_row_X0 hown hK hP 2 rfl rfl 15 (by decide) ((hN.1 (163, "FlowJudge$Code", "rowCount", "I") (by decide)).use rfl) (fun _ h9 => h9) rfl dX8_row_44 ?_
            refine lv_bipush (v := 50) hx hb dX8_row_47 (by decide) ?_
            refine lv_icmp_lt (tgt := 62) hx hb dX8_row_49 (by decide) (fun _ => ?_) (fun c_7 => absurd (by decide) c_7)
            refine lv_aload_n hx hb dX8_row_62 rfl (lv_at hl 0 rfl) ?_
            refine va_get (D := (dC, dI)) (ci := 8) (v := .ref c0) (C := RX8) (T := TX8) (N := 6) hx hb hts i_X8_row_X8 hown hK hP 0 rfl rfl 2 (by decide) k_3 (fun _ h9 => h9) rfl dX8_row_63 ?_
            refine lv_iload_n hx hb dX8_row_66 rfl (lv_at hl 1 rfl) ?_
            refine lv_iload_n hx hb dX8_row_67 rfl (lv_at hl 2 rfl) ?_
            refine lv_iload_n hx hb dX8_row_68 rfl (lv_at hl 3 rfl) ?_
            refine lv_iload hx hb dX8_row_69 (lv_at hl 4 rfl) ?_
            have hPc := hP.sub (ws' := [(c0, .inr (0, [.int 0, .int 0, .int (-1), .int 0, .int 0, .ref ca5, .int 0, .ref ca7, .ref ca8, .ref ca9, .int 0, .ref ca11, .ref ca12, .ref ca13, .ref ca14, .int 0, .ref ca16])), (ca14, .inl (cyI, 200, .inl g14))]) [2, 3] rfl
            have hDc := hD.sub (ws' := [(c0, .inr (0, [.int 0, .int 0, .int (-1), .int 0, .int 0, .ref ca5, .int 0, .ref ca7, .ref ca8, .ref ca9, .int 0, .ref ca11, .ref ca12, .ref ca13, .ref ca14, .int 0, .ref ca16])), (ca14, .inl (cyI, 200, .inl g14))]) [2, 3] (by decide) rfl
            have hFc := va_free (wc := [(c0, .inr (0, [.int 0, .int 0, .int (-1), .int 0, .int 0, .ref ca5, .int 0, .ref ca7, .ref ca8, .ref ca9, .int 0, .ref ca11, .ref ca12, .ref ca13, .ref ca14, .int 0, .ref ca16])), (ca14, .inl (cyI, 200, .inl g14))]) hD hS hA [2, 3] rfl
            refine va_calli (va_runV (As := [.int p0, .int p1, .int p2, .int p3]) (rest := []) ⟨hx, hb, hml, hown, hts⟩ (c_X0_enterRow l dC dI cyI cyZ cyJ H.size c0 ca5 ca7 ca8 ca9 ca11 ca12 ca13 ca14 ca16 g14 p0 p1 p2 p3) (cwV 4 hts gX8_row_X0_enterRow rfl rfl rfl (by decide +kernel) ⟨Nat.le_of_ble_eq_true rfl, Nat.le_of_ble_eq_true rfl⟩) (x_pVD hN hK hPc hDc (ci := 0) (q0 := 0) rfl rfl) rfl rfl hl.1 rfl (lv_room (Nat.le_of_ble_eq_true rfl)) dX8_row_71 ⟨Nat.le_of_ble_eq_true rfl, Nat.le_of_ble_eq_true rfl⟩) hS (fun q _ h => hFc q h) hFc (fun r_71 u t H1 locs ht hvm hw hB hz1 hk1 hS => ?_)
            obtain ⟨hP, hD⟩ := va_join (wr := [(h0, .inr (8, [.ref t0, .ref m0, .ref c0, .ref x0, .ref f0, .ref w0])), (t0, .inr (7, [.ref th1, .ref th2, .int 4]))]) (w1 := []) hP hD [2, 3] [0, 1] rfl rfl (by decide) (by decide) hk1 hFc x_P0 x_D0
            clear ht hvm hB hz1 hk1 t u hPc hDc hFc
            generalize H1 = H at hP hS ⊢
            have hP : va_P (dC, dI) vwCl [(h0, .inr (8, [.ref t0, .ref m0, .ref c0, .ref x0, .ref f0, .ref w0])), (t0, .inr (7, [.ref th1, .ref th2, .int 4]))] H := hP
            have hD : va_D A [(h0, .inr (8, [.ref t0, .ref m0, .ref c0, .ref x0, .ref f0, .ref w0])), (t0, .inr (7, [.ref th1, .ref th2, .int 4]))] := hD
            obtain rfl := hw
            refine vx_ret ?_
            refine W.widen (k := 1) (n := 6) (Nat.le_of_ble_eq_true rfl) (Nat.le_of_ble_eq_true rfl) ?_
            exact W.iret hx hb hr (fun t ht hW => ⟨⟨_, (), rfl, by rw [f_X8_row, if_neg c_1, if_neg c_2, if_neg c_3, if_neg c_4, if_neg c_6], trivial⟩, hS.F ht⟩) hS.2.2 dX8_row_74
          · skip
            obtain ⟨sa, hsa⟩ := hG.2.2.1 (161, "no INSTRUCTION or no CLASS") (by decide)
            refine vx_throwS (cls := "java/lang/IllegalArgumentException") (names := ["java/lang/RuntimeException", "java/lang/Exception"]) hx hb hl9 hown (by decide +kernel) (by decide +kernel) k_1 k_2 hsa (x_at1 hG.2.2.2 hts_1) (by decide +kernel) (hG.1.narrow hAb) (hG.2.1.narrow hAb) hS (hl.1.trans hml.symm) dX8_row_30 dX8_row_33 dX8_row_34 dX8_row_36 dX8_row_39 (fun z hz => (hno z hz).elim) (Nat.le_of_ble_eq_true rfl) (Nat.le_of_ble_eq_true rfl) (Nat.le_of_ble_eq_true rfl) (Nat.le_of_ble_eq_true rfl) hlocks (fun t ha h1 h2 => ⟨(), trivial, (by rw [show f_X8_row p0 p1 p2 p3 = (1, 0) from by rw [f_X8_row, if_neg c_1, if_neg c_2, if_neg c_3, if_neg c_4, if_pos c_6]]; exact x_thr1), x_mv hS h1 h2⟩) hS.2.2 (Nat.le_of_ble_eq_true rfl) (Nat.le_of_ble_eq_true rfl)

def f_X8_frame (p0 : Int32) (p1 : Int32) : Int32 × Int32 := if p1 < (0 : Int32) then (1, 0) else if p1 ≤ (3 : Int32) then (0, (-1)) else (1, 0)
theorem i_X8_frame_X8 : ∀ w ∈ wsX80, w ∈ wsX8_frame := by decide +kernel
theorem u_X8_frame_1 : ∀ w ∈ (vx_atS RX8 67 "java/lang/IllegalArgumentException" ["java/lang/RuntimeException", "java/lang/Exception"]).filter goodWord, w ∈ wsX8_frame := by decide +kernel
set_option maxHeartbeats 4000000 in
set_option maxRecDepth 100000 in
theorem c_X8_frame (l : Launch) (hl9 : l.stackTraces = false) (dC : Nat → ClassId) (dI : Nat → Nat → Nat) (cyI cyZ cyJ : ClassId) (base : Nat) (sz : Nat) (h0 : Nat) (t0 : Nat) (m0 : Nat) (c0 : Nat) (x0 : Nat) (f0 : Nat) (w0 : Nat) (fa5 : Nat) (fa6 : Nat) (fa7 : Nat) (fa8 : Nat) (fa9 : Nat) (fa10 : Nat) (fa11 : Nat) (fa12 : Nat) (fa15 : Nat) (fa16 : Nat) (p0 : Int32) (p1 : Int32) : vx_Met l yX8_frame wsX8_frame ({ frames := 6, cells := 1, slots := 6, locals := 90 }) (va_Pc [.ref h0, .int p0, .int p1] (x_PreX (dC, dI) (x_T cyI cyZ cyJ) [(h0, .inr (8, [.ref t0, .ref m0, .ref c0, .ref x0, .ref f0, .ref w0])), (f0, .inr (3, [.ref t0, .ref x0, .int 0, .int 0, .int 0, .ref fa5, .ref fa6, .ref fa7, .ref fa8, .ref fa9, .ref fa10, .ref fa11, .ref fa12, .int (-1), .int (-1), .ref fa15, .ref fa16]))] base sz)) (va_Qi (fun (r : Int32) (_ : Unit) => f_X8_frame p0 p1 = (0, r)) (fun _ _ => True) (va_A [(h0, .inr (8, [.ref t0, .ref m0, .ref c0, .ref x0, .ref f0, .ref w0])), (f0, .inr (3, [.ref t0, .ref x0, .int 0, .int 0, .int 0, .ref fa5, .ref fa6, .ref fa7, .ref fa8, .ref fa9, .ref fa10, .ref fa11, .ref fa12, .int (-1), .int (-1), .ref fa15, .ref fa16]))] sz)) (vx_X (fun _ : Unit => True) (fun E _ _ => x_thr (f_X8_frame p0 p1).1 E) (va_A [(h0, .inr (8, [.ref t0, .ref m0, .ref c0, .ref x0, .ref f0, .ref w0])), (f0, .inr (3, [.ref t0, .ref x0, .int 0, .int 0, .int 0, .ref fa5, .ref fa6, .ref fa7, .ref fa8, .ref fa9, .ref fa10, .ref fa11, .ref fa12, .int (-1), .int (-1), .ref fa15, .ref fa16]))] sz)) 1 6 (va_A [(h0, .inr (8, [.ref t0, .ref m0, .ref c0, .ref x0, .ref f0, .ref w0])), (f0, .inr (3, [.ref t0, .ref x0, .int 0, .int 0, .int 0, .ref fa5, .ref fa6, .ref fa7, .ref fa8, .ref fa9, .ref fa10, .ref fa11, .ref fa12, .int (-1), .int (-1), .ref fa15, .ref fa16]))] sz) := by
  refine vx_ofW (cc := cX8_frame) (maxL := 3) (ret := (some .int)) (by decide) rfl ?_
  intro p e s m args below meth c s₁ B hml hno hv
  obtain ⟨rfl, ⟨⟨hsz, hP, hK, hN⟩, hD0⟩, hDb, hbz, hG⟩ := hv
  have hx := B.exec
  have hb := B.bytes
  have hr := B.returns
  have hts := atoms_spec (ws := wsX8_frame) B.pre
  have hown : s.vm.findClass RX8 = some m.cls := findClass_of_methodNamed B.named
  have hlocks := B.notSynchronized
  have k_1 := hts (.classLink RX8 63 "java/lang/IllegalArgumentException") (by decide +kernel)
  have k_2 := hts (.initialized "java/lang/IllegalArgumentException") (by decide +kernel)
  have k_3 := hts (.fieldLink RX8 42 "FlowJudge" "frames" "LFlowJudge$Frames;") (by decide +kernel)
  subst hsz
  have hAb : ∀ q, va_A [(h0, .inr (8, [.ref t0, .ref m0, .ref c0, .ref x0, .ref f0, .ref w0])), (f0, .inr (3, [.ref t0, .ref x0, .int 0, .int 0, .int 0, .ref fa5, .ref fa6, .ref fa7, .ref fa8, .ref fa9, .ref fa10, .ref fa11, .ref fa12, .int (-1), .int (-1), .ref fa15, .ref fa16]))] s.heap.size q → x_new base q := x_Ab hDb hbz
  have hts_1 := fun w (h : w ∈ (vx_atS RX8 67 "java/lang/IllegalArgumentException" ["java/lang/RuntimeException", "java/lang/Exception"]).filter goodWord) => hts w (u_X8_frame_1 w h)
  have hD := hD0.self (sz := s.heap.size)
  generalize hAe : va_A [(h0, .inr (8, [.ref t0, .ref m0, .ref c0, .ref x0, .ref f0, .ref w0])), (f0, .inr (3, [.ref t0, .ref x0, .int 0, .int 0, .int 0, .ref fa5, .ref fa6, .ref fa7, .ref fa8, .ref fa9, .ref fa10, .ref fa11, .ref fa12, .int (-1), .int (-1), .ref fa15, .ref fa16]))] s.heap.size = A at hD hAb ⊢
  have hA : ∀ q : Nat, s.heap.size ≤ q → A q := fun q h => by rw [← hAe]; exact Or.inr h
  have hS : va_S A s.heap s.heap [] := va_S.rf
  have hP : va_P (dC, dI) vwCl [(h0, .inr (8, [.ref t0, .ref m0, .ref c0, .ref x0, .ref f0, .ref w0])), (f0, .inr (3, [.ref t0, .ref x0, .int 0, .int 0, .int 0, .ref fa5, .ref fa6, .ref fa7, .ref fa8, .ref fa9, .ref fa10, .ref fa11, .ref fa12, .int (-1), .int (-1), .ref fa15, .ref fa16]))] s.heap := hP
  have hl := lv_entry ([.ref h0, .int p0, .int p1]) (n := 3) (Nat.le_of_ble_eq_true rfl)
  rw [lg_entry_eq]
  generalize (lg_sl ([.ref h0, .int p0, .int p1]) ++ List.replicate (3 - (lg_sl ([.ref h0, .int p0, .int p1])).length) Slot.unset).toArray = ls at hl ⊢
  have hl : lv_has ls 3 [(0, .ref h0), (1, .int p0), (2, .int p1)] := hl
  obtain ⟨H, hH⟩ : ∃ z, z = s.heap := ⟨_, rfl⟩
  refine x_here hH ?_
  have hP : va_P (dC, dI) vwCl [(h0, .inr (8, [.ref t0, .ref m0, .ref c0, .ref x0, .ref f0, .ref w0])), (f0, .inr (3, [.ref t0, .ref x0, .int 0, .int 0, .int 0, .ref fa5, .ref fa6, .ref fa7, .ref fa8, .ref fa9, .ref fa10, .ref fa11, .ref fa12, .int (-1), .int (-1), .ref fa15, .ref fa16]))] H := by rw [hH]; exact hP
  have hS : va_S A s.heap H [] := by rw [hH]; exact va_S.rf
  clear hH
  refine lv_iload_n hx hb dX8_frame_0 rfl (lv_at hl 2 rfl) ?_
  refine lv_if_lt (tgt := 9) hx hb dX8_frame_1 (by decide) (fun c_1 => ?_) (fun c_1 => ?_)
  · skip
    obtain ⟨sa, hsa⟩ := hG.2.2.1 (210, "no such what") (by decide)
    refine vx_throwS (cls := "java/lang/IllegalArgumentException") (names := ["java/lang/RuntimeException", "java/lang/Exception"]) hx hb hl9 hown (by decide +kernel) (by decide +kernel) k_1 k_2 hsa (x_at1 hG.2.2.2 hts_1) (by decide +kernel) (hG.1.narrow hAb) (hG.2.1.narrow hAb) hS (hl.1.trans hml.symm) dX8_frame_9 dX8_frame_12 dX8_frame_13 dX8_frame_15 dX8_frame_18 (fun z hz => (hno z hz).elim) (Nat.le_of_ble_eq_true rfl) (Nat.le_of_ble_eq_true rfl) (Nat.le_of_ble_eq_true rfl) (Nat.le_of_ble_eq_true rfl) hlocks (fun t ha h1 h2 => ⟨(), trivial, (by rw [show f_X8_frame p0 p1 = (1, 0) from by rw [f_X8_frame, if_pos c_1]]; exact x_thr1), x_mv hS h1 h2⟩) hS.2.2 (Nat.le_of_ble_eq_true rfl) (Nat.le_of_ble_eq_true rfl)
  · skip
    refine lv_iload_n hx hb dX8_frame_4 rfl (lv_at hl 2 rfl) ?_
    refine lv_iconst (v := 3) hx hb dX8_frame_5 (by decide) ?_
    refine lv_icmp_le (tgt := 19) hx hb dX8_frame_6 (by decide) (fun c_2 => ?_) (fun c_2 => ?_)
    · skip
      refine lv_aload_n hx hb dX8_frame_19 rfl (lv_at hl 0 rfl) ?_
      refine va_get (D := (dC, dI)) (ci := 8) (v := .ref f0) (C := RX8) (T := TX8) (N := 6) hx hb hts i_X8_frame_X8 hown hK hP 0 rfl rfl 4 (by decide) k_3 (fun _ h9 => h9) rfl dX8_frame_20 ?_
      refine lv_iload_n hx hb dX8_frame_23 rfl (lv_at hl 1 rfl) ?_
      refine lv_iload_n hx hb dX8_frame_24 rfl (lv_at hl 2 rfl) ?_
      have hPc := hP.sub (ws' := [(f0, .inr (3, [.ref t0, .ref x0, .int 0, .int 0, .int 0, .ref fa5, .ref fa6, .ref fa7, .ref fa8, .ref fa9, .ref fa10, .ref fa11, .ref fa12, .int (-1), .int (-1), .ref fa15, .ref fa16]))]) [1] rfl
      refine va_calli (va_runV (As := [.int p0, .int p1]) (rest := []) ⟨hx, hb, hml, hown, hts⟩ (c_X3_factOf l dC dI cyI cyZ cyJ H.size f0 t0 x0 fa5 fa6 fa7 fa8 fa9 fa10 fa11 fa12 fa15 fa16 p0 p1) (cwV 2 hts gX8_frame_X3_factOf rfl rfl rfl (by decide +kernel) ⟨Nat.le_of_ble_eq_true rfl, Nat.le_of_ble_eq_true rfl⟩) (x_pV hN hK hPc (ci := 3) (q0 := 0) rfl rfl) rfl rfl hl.1 rfl (lv_room (Nat.le_of_ble_eq_true rfl)) dX8_frame_25 ⟨Nat.le_of_ble_eq_true rfl, Nat.le_of_ble_eq_true rfl⟩) hS x_nA (x_nf hA hS) (fun r_25 u t H1 locs ht hvm hw hB hz1 hk1 hS => ?_)
      have hP := x_kp hP hk1
      clear ht hvm hB hz1 hk1 t u hPc
      generalize H1 = H at hP hS ⊢
      obtain rfl := hw
      refine vx_ret ?_
      refine W.widen (k := 1) (n := 6) (Nat.le_of_ble_eq_true rfl) (Nat.le_of_ble_eq_true rfl) ?_
      exact W.iret hx hb hr (fun t ht hW => ⟨⟨_, (), rfl, by rw [f_X8_frame, if_neg c_1, if_pos c_2], trivial⟩, hS.F ht⟩) hS.2.2 dX8_frame_28
    · skip
      obtain ⟨sa, hsa⟩ := hG.2.2.1 (210, "no such what") (by decide)
      refine vx_throwS (cls := "java/lang/IllegalArgumentException") (names := ["java/lang/RuntimeException", "java/lang/Exception"]) hx hb hl9 hown (by decide +kernel) (by decide +kernel) k_1 k_2 hsa (x_at1 hG.2.2.2 hts_1) (by decide +kernel) (hG.1.narrow hAb) (hG.2.1.narrow hAb) hS (hl.1.trans hml.symm) dX8_frame_9 dX8_frame_12 dX8_frame_13 dX8_frame_15 dX8_frame_18 (fun z hz => (hno z hz).elim) (Nat.le_of_ble_eq_true rfl) (Nat.le_of_ble_eq_true rfl) (Nat.le_of_ble_eq_true rfl) (Nat.le_of_ble_eq_true rfl) hlocks (fun t ha h1 h2 => ⟨(), trivial, (by rw [show f_X8_frame p0 p1 = (1, 0) from by rw [f_X8_frame, if_neg c_1, if_neg c_2]]; exact x_thr1), x_mv hS h1 h2⟩) hS.2.2 (Nat.le_of_ble_eq_true rfl) (Nat.le_of_ble_eq_true rfl)

def f_X8_stands (p0 : Int32) (p1 : Int32) : Int32 × Int32 := if (f_X7_isType p0) = (0 : Int32) then (1, 0) else if (f_X7_isType p1) = (0 : Int32) then (1, 0) else (0, (f_X7_mayStand p0 p1))
theorem i_X8_stands_X8 : ∀ w ∈ wsX80, w ∈ wsX8_stands := by decide +kernel
theorem u_X8_stands_1 : ∀ w ∈ (vx_atS RX8 67 "java/lang/IllegalArgumentException" ["java/lang/RuntimeException", "java/lang/Exception"]).filter goodWord, w ∈ wsX8_stands := by decide +kernel
set_option maxHeartbeats 4000000 in
set_option maxRecDepth 100000 in
theorem c_X8_stands (l : Launch) (hl9 : l.stackTraces = false) (dC : Nat → ClassId) (dI : Nat → Nat → Nat) (cyI cyZ cyJ : ClassId) (base : Nat) (sz : Nat) (h0 : Nat) (t0 : Nat) (m0 : Nat) (c0 : Nat) (x0 : Nat) (f0 : Nat) (w0 : Nat) (th1 : Nat) (th2 : Nat) (p0 : Int32) (p1 : Int32) : vx_Met l yX8_stands wsX8_stands ({ frames := 6, cells := 1, slots := 6, locals := 90 }) (va_Pc [.ref h0, .int p0, .int p1] (x_PreX (dC, dI) (x_T cyI cyZ cyJ) [(h0, .inr (8, [.ref t0, .ref m0, .ref c0, .ref x0, .ref f0, .ref w0])), (t0, .inr (7, [.ref th1, .ref th2, .int 4])), (th1, .inl (cyI, 200, .inl x_z0)), (th2, .inl (cyZ, 200, .inl x_face))] base sz)) (va_Qi (fun (r : Int32) (_ : Unit) => f_X8_stands p0 p1 = (0, r)) (fun _ _ => True) (va_A [(h0, .inr (8, [.ref t0, .ref m0, .ref c0, .ref x0, .ref f0, .ref w0])), (t0, .inr (7, [.ref th1, .ref th2, .int 4])), (th1, .inl (cyI, 200, .inl x_z0)), (th2, .inl (cyZ, 200, .inl x_face))] sz)) (vx_X (fun _ : Unit => True) (fun E _ _ => x_thr (f_X8_stands p0 p1).1 E) (va_A [(h0, .inr (8, [.ref t0, .ref m0, .ref c0, .ref x0, .ref f0, .ref w0])), (t0, .inr (7, [.ref th1, .ref th2, .int 4])), (th1, .inl (cyI, 200, .inl x_z0)), (th2, .inl (cyZ, 200, .inl x_face))] sz)) 1 6 (va_A [(h0, .inr (8, [.ref t0, .ref m0, .ref c0, .ref x0, .ref f0, .ref w0])), (t0, .inr (7, [.ref th1, .ref th2, .int 4])), (th1, .inl (cyI, 200, .inl x_z0)), (th2, .inl (cyZ, 200, .inl x_face))] sz) := by
  refine vx_ofW (cc := cX8_stands) (maxL := 3) (ret := (some .boolean)) (by decide) rfl ?_
  intro p e s m args below meth c s₁ B hml hno hv
  obtain ⟨rfl, ⟨⟨hsz, hP, hK, hN⟩, hD0⟩, hDb, hbz, hG⟩ := hv
  have hx := B.exec
  have hb := B.bytes
  have hr := B.returns
  have hts := atoms_spec (ws := wsX8_stands) B.pre
  have hown : s.vm.findClass RX8 = some m.cls := findClass_of_methodNamed B.named
  have hlocks := B.notSynchronized
  have k_1 := hts (.fieldLink RX8 10 "FlowJudge" "types" "LFlowJudge$Types;") (by decide +kernel)
  have k_2 := hts (.classLink RX8 63 "java/lang/IllegalArgumentException") (by decide +kernel)
  have k_3 := hts (.initialized "java/lang/IllegalArgumentException") (by decide +kernel)
  subst hsz
  have hAb : ∀ q, va_A [(h0, .inr (8, [.ref t0, .ref m0, .ref c0, .ref x0, .ref f0, .ref w0])), (t0, .inr (7, [.ref th1, .ref th2, .int 4])), (th1, .inl (cyI, 200, .inl x_z0)), (th2, .inl (cyZ, 200, .inl x_face))] s.heap.size q → x_new base q := x_Ab hDb hbz
  have hts_1 := fun w (h : w ∈ (vx_atS RX8 67 "java/lang/IllegalArgumentException" ["java/lang/RuntimeException", "java/lang/Exception"]).filter goodWord) => hts w (u_X8_stands_1 w h)
  have hD := hD0.self (sz := s.heap.size)
  generalize hAe : va_A [(h0, .inr (8, [.ref t0, .ref m0, .ref c0, .ref x0, .ref f0, .ref w0])), (t0, .inr (7, [.ref th1, .ref th2, .int 4])), (th1, .inl (cyI, 200, .inl x_z0)), (th2, .inl (cyZ, 200, .inl x_face))] s.heap.size = A at hD hAb ⊢
  have hA : ∀ q : Nat, s.heap.size ≤ q → A q := fun q h => by rw [← hAe]; exact Or.inr h
  have hS : va_S A s.heap s.heap [] := va_S.rf
  have hP : va_P (dC, dI) vwCl [(h0, .inr (8, [.ref t0, .ref m0, .ref c0, .ref x0, .ref f0, .ref w0])), (t0, .inr (7, [.ref th1, .ref th2, .int 4])), (th1, .inl (cyI, 200, .inl x_z0)), (th2, .inl (cyZ, 200, .inl x_face))] s.heap := hP
  have hl := lv_entry ([.ref h0, .int p0, .int p1]) (n := 3) (Nat.le_of_ble_eq_true rfl)
  rw [lg_entry_eq]
  generalize (lg_sl ([.ref h0, .int p0, .int p1]) ++ List.replicate (3 - (lg_sl ([.ref h0, .int p0, .int p1])).length) Slot.unset).toArray = ls at hl ⊢
  have hl : lv_has ls 3 [(0, .ref h0), (1, .int p0), (2, .int p1)] := hl
  obtain ⟨H, hH⟩ : ∃ z, z = s.heap := ⟨_, rfl⟩
  refine x_here hH ?_
  have hP : va_P (dC, dI) vwCl [(h0, .inr (8, [.ref t0, .ref m0, .ref c0, .ref x0, .ref f0, .ref w0])), (t0, .inr (7, [.ref th1, .ref th2, .int 4])), (th1, .inl (cyI, 200, .inl x_z0)), (th2, .inl (cyZ, 200, .inl x_face))] H := by rw [hH]; exact hP
  have hS : va_S A s.heap H [] := by rw [hH]; exact va_S.rf
  clear hH
  refine lv_aload_n hx hb dX8_stands_0 rfl (lv_at hl 0 rfl) ?_
  refine va_get (D := (dC, dI)) (ci := 8) (v := .ref t0) (C := RX8) (T := TX8) (N := 6) hx hb hts i_X8_stands_X8 hown hK hP 0 rfl rfl 0 (by decide) k_1 (fun _ h9 => h9) rfl dX8_stands_1 ?_
  refine lv_iload_n hx hb dX8_stands_4 rfl (lv_at hl 1 rfl) ?_
  have hPc := hP.sub (ws' := [(t0, .inr (7, [.ref th1, .ref th2, .int 4]))]) [1] rfl
  refine va_calli (va_runV (As := [.int p0]) (rest := []) ⟨hx, hb, hml, hown, hts⟩ (c_X7_isType l dC dI cyI cyZ cyJ H.size t0 th1 th2 p0) (cwV 1 hts gX8_stands_X7_isType rfl rfl rfl (by decide +kernel) ⟨Nat.le_of_ble_eq_true rfl, Nat.le_of_ble_eq_true rfl⟩) (x_pV hN hK hPc (ci := 7) (q0 := 0) rfl rfl) rfl rfl hl.1 rfl (lv_room (Nat.le_of_ble_eq_true rfl)) dX8_stands_5 ⟨Nat.le_of_ble_eq_true rfl, Nat.le_of_ble_eq_true rfl⟩) hS x_nA (x_nf hA hS) (fun r_5 u t H1 locs ht hvm hw hB hz1 hk1 hS => ?_)
  have hP := x_kp hP hk1
  clear ht hvm hB hz1 hk1 t u hPc
  generalize H1 = H at hP hS ⊢
  obtain rfl := hw
  refine lv_if_eq (tgt := 22) hx hb dX8_stands_8 (by decide) (fun c_1 => ?_) (fun c_1 => ?_)
  · skip
    obtain ⟨sa, hsa⟩ := hG.2.2.1 (113, "no TYPE") (by decide)
    refine vx_throwS (cls := "java/lang/IllegalArgumentException") (names := ["java/lang/RuntimeException", "java/lang/Exception"]) hx hb hl9 hown (by decide +kernel) (by decide +kernel) k_2 k_3 hsa (x_at1 hG.2.2.2 hts_1) (by decide +kernel) (hG.1.narrow hAb) (hG.2.1.narrow hAb) hS (hl.1.trans hml.symm) dX8_stands_22 dX8_stands_25 dX8_stands_26 dX8_stands_28 dX8_stands_31 (fun z hz => (hno z hz).elim) (Nat.le_of_ble_eq_true rfl) (Nat.le_of_ble_eq_true rfl) (Nat.le_of_ble_eq_true rfl) (Nat.le_of_ble_eq_true rfl) hlocks (fun t ha h1 h2 => ⟨(), trivial, (by rw [show f_X8_stands p0 p1 = (1, 0) from by rw [f_X8_stands, if_pos c_1]]; exact x_thr1), x_mv hS h1 h2⟩) hS.2.2 (Nat.le_of_ble_eq_true rfl) (Nat.le_of_ble_eq_true rfl)
  · skip
    refine lv_aload_n hx hb dX8_stands_11 rfl (lv_at hl 0 rfl) ?_
    refine va_get (D := (dC, dI)) (ci := 8) (v := .ref t0) (C := RX8) (T := TX8) (N := 6) hx hb hts i_X8_stands_X8 hown hK hP 0 rfl rfl 0 (by decide) k_1 (fun _ h9 => h9) rfl dX8_stands_12 ?_
    refine lv_iload_n hx hb dX8_stands_15 rfl (lv_at hl 2 rfl) ?_
    have hPc := hP.sub (ws' := [(t0, .inr (7, [.ref th1, .ref th2, .int 4]))]) [1] rfl
    refine va_calli (va_runV (As := [.int p1]) (rest := []) ⟨hx, hb, hml, hown, hts⟩ (c_X7_isType l dC dI cyI cyZ cyJ H.size t0 th1 th2 p1) (cwV 1 hts gX8_stands_X7_isType rfl rfl rfl (by decide +kernel) ⟨Nat.le_of_ble_eq_true rfl, Nat.le_of_ble_eq_true rfl⟩) (x_pV hN hK hPc (ci := 7) (q0 := 0) rfl rfl) rfl rfl hl.1 rfl (lv_room (Nat.le_of_ble_eq_true rfl)) dX8_stands_16 ⟨Nat.le_of_ble_eq_true rfl, Nat.le_of_ble_eq_true rfl⟩) hS x_nA (x_nf hA hS) (fun r_16 u t H1 locs ht hvm hw hB hz1 hk1 hS => ?_)
    have hP := x_kp hP hk1
    clear ht hvm hB hz1 hk1 t u hPc
    generalize H1 = H at hP hS ⊢
    obtain rfl := hw
    refine lv_if_ne (tgt := 32) hx hb dX8_stands_19 (by decide) (fun c_2 => ?_) (fun c_2 => ?_)
    · skip
      refine lv_aload_n hx hb dX8_stands_32 rfl (lv_at hl 0 rfl) ?_
      refine va_get (D := (dC, dI)) (ci := 8) (v := .ref t0) (C := RX8) (T := TX8) (N := 6) hx hb hts i_X8_stands_X8 hown hK hP 0 rfl rfl 0 (by decide) k_1 (fun _ h9 => h9) rfl dX8_stands_33 ?_
      refine lv_iload_n hx hb dX8_stands_36 rfl (lv_at hl 1 rfl) ?_
      refine lv_iload_n hx hb dX8_stands_37 rfl (lv_at hl 2 rfl) ?_
      have hPc := hP.sub (ws' := [(t0, .inr (7, [.ref th1, .ref th2, .int 4])), (th1, .inl (cyI, 200, .inl x_z0)), (th2, .inl (cyZ, 200, .inl x_face))]) [1, 2, 3] rfl
      refine va_calli (va_runV (As := [.int p0, .int p1]) (rest := []) ⟨hx, hb, hml, hown, hts⟩ (c_X7_mayStand l dC dI cyI cyZ cyJ H.size t0 th1 th2 p0 p1) (cwV 2 hts gX8_stands_X7_mayStand rfl rfl rfl (by decide +kernel) ⟨Nat.le_of_ble_eq_true rfl, Nat.le_of_ble_eq_true rfl⟩) (x_pV hN hK hPc (ci := 7) (q0 := 0) rfl rfl) rfl rfl hl.1 rfl (lv_room (Nat.le_of_ble_eq_true rfl)) dX8_stands_38 ⟨Nat.le_of_ble_eq_true rfl, Nat.le_of_ble_eq_true rfl⟩) hS x_nA (x_nf hA hS) (fun r_38 u t H1 locs ht hvm hw hB hz1 hk1 hS => ?_)
      have hP := x_kp hP hk1
      clear ht hvm hB hz1 hk1 t u hPc
      generalize H1 = H at hP hS ⊢
      obtain rfl := hw
      refine vx_ret ?_
      refine W.widen (k := 1) (n := 6) (Nat.le_of_ble_eq_true rfl) (Nat.le_of_ble_eq_true rfl) ?_
      exact W.zret (ty := .boolean) hx hb hr (b_X7_mayStand p0 p1) (fun t ht hW => ⟨⟨_, (), rfl, by rw [f_X8_stands, if_neg c_1, if_neg c_2], trivial⟩, hS.F ht⟩) hS.2.2 dX8_stands_41
    · skip
      obtain ⟨sa, hsa⟩ := hG.2.2.1 (113, "no TYPE") (by decide)
      refine vx_throwS (cls := "java/lang/IllegalArgumentException") (names := ["java/lang/RuntimeException", "java/lang/Exception"]) hx hb hl9 hown (by decide +kernel) (by decide +kernel) k_2 k_3 hsa (x_at1 hG.2.2.2 hts_1) (by decide +kernel) (hG.1.narrow hAb) (hG.2.1.narrow hAb) hS (hl.1.trans hml.symm) dX8_stands_22 dX8_stands_25 dX8_stands_26 dX8_stands_28 dX8_stands_31 (fun z hz => (hno z hz).elim) (Nat.le_of_ble_eq_true rfl) (Nat.le_of_ble_eq_true rfl) (Nat.le_of_ble_eq_true rfl) (Nat.le_of_ble_eq_true rfl) hlocks (fun t ha h1 h2 => ⟨(), trivial, (by rw [show f_X8_stands p0 p1 = (1, 0) from by rw [f_X8_stands, if_neg c_1, if_pos c_2]]; exact x_thr1), x_mv hS h1 h2⟩) hS.2.2 (Nat.le_of_ble_eq_true rfl) (Nat.le_of_ble_eq_true rfl)

def f_X8_common (p0 : Int32) (p1 : Int32) : Int32 × Int32 := if (f_X7_isReference p0) = (0 : Int32) then (1, 0) else if (f_X7_isReference p1) = (0 : Int32) then (1, 0) else (0, (f_X7_sharedOf p0 p1))
theorem i_X8_common_X8 : ∀ w ∈ wsX80, w ∈ wsX8_common := by decide +kernel
theorem u_X8_common_1 : ∀ w ∈ (vx_atS RX8 67 "java/lang/IllegalArgumentException" ["java/lang/RuntimeException", "java/lang/Exception"]).filter goodWord, w ∈ wsX8_common := by decide +kernel
set_option maxHeartbeats 4000000 in
set_option maxRecDepth 100000 in
theorem c_X8_common (l : Launch) (hl9 : l.stackTraces = false) (dC : Nat → ClassId) (dI : Nat → Nat → Nat) (cyI cyZ cyJ : ClassId) (base : Nat) (sz : Nat) (h0 : Nat) (t0 : Nat) (m0 : Nat) (c0 : Nat) (x0 : Nat) (f0 : Nat) (w0 : Nat) (th1 : Nat) (th2 : Nat) (p0 : Int32) (p1 : Int32) : vx_Met l yX8_common wsX8_common ({ frames := 6, cells := 1, slots := 6, locals := 90 }) (va_Pc [.ref h0, .int p0, .int p1] (x_PreX (dC, dI) (x_T cyI cyZ cyJ) [(h0, .inr (8, [.ref t0, .ref m0, .ref c0, .ref x0, .ref f0, .ref w0])), (t0, .inr (7, [.ref th1, .ref th2, .int 4])), (th1, .inl (cyI, 200, .inl x_z0))] base sz)) (va_Qi (fun (r : Int32) (_ : Unit) => f_X8_common p0 p1 = (0, r)) (fun _ _ => True) (va_A [(h0, .inr (8, [.ref t0, .ref m0, .ref c0, .ref x0, .ref f0, .ref w0])), (t0, .inr (7, [.ref th1, .ref th2, .int 4])), (th1, .inl (cyI, 200, .inl x_z0))] sz)) (vx_X (fun _ : Unit => True) (fun E _ _ => x_thr (f_X8_common p0 p1).1 E) (va_A [(h0, .inr (8, [.ref t0, .ref m0, .ref c0, .ref x0, .ref f0, .ref w0])), (t0, .inr (7, [.ref th1, .ref th2, .int 4])), (th1, .inl (cyI, 200, .inl x_z0))] sz)) 1 6 (va_A [(h0, .inr (8, [.ref t0, .ref m0, .ref c0, .ref x0, .ref f0, .ref w0])), (t0, .inr (7, [.ref th1, .ref th2, .int 4])), (th1, .inl (cyI, 200, .inl x_z0))] sz) := by
  refine vx_ofW (cc := cX8_common) (maxL := 3) (ret := (some .int)) (by decide) rfl ?_
  intro p e s m args below meth c s₁ B hml hno hv
  obtain ⟨rfl, ⟨⟨hsz, hP, hK, hN⟩, hD0⟩, hDb, hbz, hG⟩ := hv
  have hx := B.exec
  have hb := B.bytes
  have hr := B.returns
  have hts := atoms_spec (ws := wsX8_common) B.pre
  have hown : s.vm.findClass RX8 = some m.cls := findClass_of_methodNamed B.named
  have hlocks := B.notSynchronized
  have k_1 := hts (.fieldLink RX8 10 "FlowJudge" "types" "LFlowJudge$Types;") (by decide +kernel)
  have k_2 := hts (.classLink RX8 63 "java/lang/IllegalArgumentException") (by decide +kernel)
  have k_3 := hts (.initialized "java/lang/IllegalArgumentException") (by decide +kernel)
  subst hsz
  have hAb : ∀ q, va_A [(h0, .inr (8, [.ref t0, .ref m0, .ref c0, .ref x0, .ref f0, .ref w0])), (t0, .inr (7, [.ref th1, .ref th2, .int 4])), (th1, .inl (cyI, 200, .inl x_z0))] s.heap.size q → x_new base q := x_Ab hDb hbz
  have hts_1 := fun w (h : w ∈ (vx_atS RX8 67 "java/lang/IllegalArgumentException" ["java/lang/RuntimeException", "java/lang/Exception"]).filter goodWord) => hts w (u_X8_common_1 w h)
  have hD := hD0.self (sz := s.heap.size)
  generalize hAe : va_A [(h0, .inr (8, [.ref t0, .ref m0, .ref c0, .ref x0, .ref f0, .ref w0])), (t0, .inr (7, [.ref th1, .ref th2, .int 4])), (th1, .inl (cyI, 200, .inl x_z0))] s.heap.size = A at hD hAb ⊢
  have hA : ∀ q : Nat, s.heap.size ≤ q → A q := fun q h => by rw [← hAe]; exact Or.inr h
  have hS : va_S A s.heap s.heap [] := va_S.rf
  have hP : va_P (dC, dI) vwCl [(h0, .inr (8, [.ref t0, .ref m0, .ref c0, .ref x0, .ref f0, .ref w0])), (t0, .inr (7, [.ref th1, .ref th2, .int 4])), (th1, .inl (cyI, 200, .inl x_z0))] s.heap := hP
  have hl := lv_entry ([.ref h0, .int p0, .int p1]) (n := 3) (Nat.le_of_ble_eq_true rfl)
  rw [lg_entry_eq]
  generalize (lg_sl ([.ref h0, .int p0, .int p1]) ++ List.replicate (3 - (lg_sl ([.ref h0, .int p0, .int p1])).length) Slot.unset).toArray = ls at hl ⊢
  have hl : lv_has ls 3 [(0, .ref h0), (1, .int p0), (2, .int p1)] := hl
  obtain ⟨H, hH⟩ : ∃ z, z = s.heap := ⟨_, rfl⟩
  refine x_here hH ?_
  have hP : va_P (dC, dI) vwCl [(h0, .inr (8, [.ref t0, .ref m0, .ref c0, .ref x0, .ref f0, .ref w0])), (t0, .inr (7, [.ref th1, .ref th2, .int 4])), (th1, .inl (cyI, 200, .inl x_z0))] H := by rw [hH]; exact hP
  have hS : va_S A s.heap H [] := by rw [hH]; exact va_S.rf
  clear hH
  refine lv_aload_n hx hb dX8_common_0 rfl (lv_at hl 0 rfl) ?_
  refine va_get (D := (dC, dI)) (ci := 8) (v := .ref t0) (C := RX8) (T := TX8) (N := 6) hx hb hts i_X8_common_X8 hown hK hP 0 rfl rfl 0 (by decide) k_1 (fun _ h9 => h9) rfl dX8_common_1 ?_
  refine lv_iload_n hx hb dX8_common_4 rfl (lv_at hl 1 rfl) ?_
  have hPc := hP.sub (ws' := [(t0, .inr (7, [.ref th1, .ref th2, .int 4]))]) [1] rfl
  refine va_calli (va_runV (As := [.int p0]) (rest := []) ⟨hx, hb, hml, hown, hts⟩ (c_X7_isReference l dC dI cyI cyZ cyJ H.size t0 th1 th2 p0) (cwV 1 hts gX8_common_X7_isReference rfl rfl rfl (by decide +kernel) ⟨Nat.le_of_ble_eq_true rfl, Nat.le_of_ble_eq_true rfl⟩) (x_pV hN hK hPc (ci := 7) (q0 := 0) rfl rfl) rfl rfl hl.1 rfl (lv_room (Nat.le_of_ble_eq_true rfl)) dX8_common_5 ⟨Nat.le_of_ble_eq_true rfl, Nat.le_of_ble_eq_true rfl⟩) hS x_nA (x_nf hA hS) (fun r_5 u t H1 locs ht hvm hw hB hz1 hk1 hS => ?_)
  have hP := x_kp hP hk1
  clear ht hvm hB hz1 hk1 t u hPc
  generalize H1 = H at hP hS ⊢
  obtain rfl := hw
  refine lv_if_eq (tgt := 22) hx hb dX8_common_8 (by decide) (fun c_1 => ?_) (fun c_1 => ?_)
  · skip
    obtain ⟨sa, hsa⟩ := hG.2.2.1 (233, "no TYPE, or a primitive one") (by decide)
    refine vx_throwS (cls := "java/lang/IllegalArgumentException") (names := ["java/lang/RuntimeException", "java/lang/Exception"]) hx hb hl9 hown (by decide +kernel) (by decide +kernel) k_2 k_3 hsa (x_at1 hG.2.2.2 hts_1) (by decide +kernel) (hG.1.narrow hAb) (hG.2.1.narrow hAb) hS (hl.1.trans hml.symm) dX8_common_22 dX8_common_25 dX8_common_26 dX8_common_28 dX8_common_31 (fun z hz => (hno z hz).elim) (Nat.le_of_ble_eq_true rfl) (Nat.le_of_ble_eq_true rfl) (Nat.le_of_ble_eq_true rfl) (Nat.le_of_ble_eq_true rfl) hlocks (fun t ha h1 h2 => ⟨(), trivial, (by rw [show f_X8_common p0 p1 = (1, 0) from by rw [f_X8_common, if_pos c_1]]; exact x_thr1), x_mv hS h1 h2⟩) hS.2.2 (Nat.le_of_ble_eq_true rfl) (Nat.le_of_ble_eq_true rfl)
  · skip
    refine lv_aload_n hx hb dX8_common_11 rfl (lv_at hl 0 rfl) ?_
    refine va_get (D := (dC, dI)) (ci := 8) (v := .ref t0) (C := RX8) (T := TX8) (N := 6) hx hb hts i_X8_common_X8 hown hK hP 0 rfl rfl 0 (by decide) k_1 (fun _ h9 => h9) rfl dX8_common_12 ?_
    refine lv_iload_n hx hb dX8_common_15 rfl (lv_at hl 2 rfl) ?_
    have hPc := hP.sub (ws' := [(t0, .inr (7, [.ref th1, .ref th2, .int 4]))]) [1] rfl
    refine va_calli (va_runV (As := [.int p1]) (rest := []) ⟨hx, hb, hml, hown, hts⟩ (c_X7_isReference l dC dI cyI cyZ cyJ H.size t0 th1 th2 p1) (cwV 1 hts gX8_common_X7_isReference rfl rfl rfl (by decide +kernel) ⟨Nat.le_of_ble_eq_true rfl, Nat.le_of_ble_eq_true rfl⟩) (x_pV hN hK hPc (ci := 7) (q0 := 0) rfl rfl) rfl rfl hl.1 rfl (lv_room (Nat.le_of_ble_eq_true rfl)) dX8_common_16 ⟨Nat.le_of_ble_eq_true rfl, Nat.le_of_ble_eq_true rfl⟩) hS x_nA (x_nf hA hS) (fun r_16 u t H1 locs ht hvm hw hB hz1 hk1 hS => ?_)
    have hP := x_kp hP hk1
    clear ht hvm hB hz1 hk1 t u hPc
    generalize H1 = H at hP hS ⊢
    obtain rfl := hw
    refine lv_if_ne (tgt := 32) hx hb dX8_common_19 (by decide) (fun c_2 => ?_) (fun c_2 => ?_)
    · skip
      refine lv_aload_n hx hb dX8_common_32 rfl (lv_at hl 0 rfl) ?_
      refine va_get (D := (dC, dI)) (ci := 8) (v := .ref t0) (C := RX8) (T := TX8) (N := 6) hx hb hts i_X8_common_X8 hown hK hP 0 rfl rfl 0 (by decide) k_1 (fun _ h9 => h9) rfl dX8_common_33 ?_
      refine lv_iload_n hx hb dX8_common_36 rfl (lv_at hl 1 rfl) ?_
      refine lv_iload_n hx hb dX8_common_37 rfl (lv_at hl 2 rfl) ?_
      have hPc := hP.sub (ws' := [(t0, .inr (7, [.ref th1, .ref th2, .int 4])), (th1, .inl (cyI, 200, .inl x_z0))]) [1, 2] rfl
      refine va_calli (va_runV (As := [.int p0, .int p1]) (rest := []) ⟨hx, hb, hml, hown, hts⟩ (c_X7_sharedOf l dC dI cyI cyZ cyJ H.size t0 th1 th2 p0 p1) (cwV 2 hts gX8_common_X7_sharedOf rfl rfl rfl (by decide +kernel) ⟨Nat.le_of_ble_eq_true rfl, Nat.le_of_ble_eq_true rfl⟩) (x_pV hN hK hPc (ci := 7) (q0 := 0) rfl rfl) rfl rfl hl.1 rfl (lv_room (Nat.le_of_ble_eq_true rfl)) dX8_common_38 ⟨Nat.le_of_ble_eq_true rfl, Nat.le_of_ble_eq_true rfl⟩) hS x_nA (x_nf hA hS) (fun r_38 u t H1 locs ht hvm hw hB hz1 hk1 hS => ?_)
      have hP := x_kp hP hk1
      clear ht hvm hB hz1 hk1 t u hPc
      generalize H1 = H at hP hS ⊢
      obtain rfl := hw
      refine vx_ret ?_
      refine W.widen (k := 1) (n := 6) (Nat.le_of_ble_eq_true rfl) (Nat.le_of_ble_eq_true rfl) ?_
      exact W.iret hx hb hr (fun t ht hW => ⟨⟨_, (), rfl, by rw [f_X8_common, if_neg c_1, if_neg c_2], trivial⟩, hS.F ht⟩) hS.2.2 dX8_common_41
    · skip
      obtain ⟨sa, hsa⟩ := hG.2.2.1 (233, "no TYPE, or a primitive one") (by decide)
      refine vx_throwS (cls := "java/lang/IllegalArgumentException") (names := ["java/lang/RuntimeException", "java/lang/Exception"]) hx hb hl9 hown (by decide +kernel) (by decide +kernel) k_2 k_3 hsa (x_at1 hG.2.2.2 hts_1) (by decide +kernel) (hG.1.narrow hAb) (hG.2.1.narrow hAb) hS (hl.1.trans hml.symm) dX8_common_22 dX8_common_25 dX8_common_26 dX8_common_28 dX8_common_31 (fun z hz => (hno z hz).elim) (Nat.le_of_ble_eq_true rfl) (Nat.le_of_ble_eq_true rfl) (Nat.le_of_ble_eq_true rfl) (Nat.le_of_ble_eq_true rfl) hlocks (fun t ha h1 h2 => ⟨(), trivial, (by rw [show f_X8_common p0 p1 = (1, 0) from by rw [f_X8_common, if_neg c_1, if_pos c_2]]; exact x_thr1), x_mv hS h1 h2⟩) hS.2.2 (Nat.le_of_ble_eq_true rfl) (Nat.le_of_ble_eq_true rfl)
