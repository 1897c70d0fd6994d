def wsQX0_isSound : List Cond := .code yX0_isSound cX0_isSound 3 (some .boolean) :: ([.fieldLink RX0 59 "FlowJudge$Code" "count" "I", .fieldLink RX0 62 "FlowJudge$Code" "rowCount" "I"] ++ (wsX00))
theorem iQ_X0_isSound_X0 : ∀ w ∈ wsX00, w ∈ wsQX0_isSound := fun _ h => List.mem_cons_of_mem _ (List.mem_append_right _ h)
set_option maxHeartbeats 4000000 in
set_option maxRecDepth 100000 in
theorem cQ_X0_isSound (l : Launch) (dC : Nat → ClassId) (dI : Nat → Nat → Nat) (cyI cyZ cyJ : ClassId) (sz : Nat) (h0 : Nat) (a5 : Nat) (a7 : Nat) (a8 : Nat) (a9 : Nat) (a11 : Nat) (a12 : Nat) (a13 : Nat) (a14 : Nat) (a16 : Nat) : Met l yX0_isSound wsQX0_isSound ({ frames := 0, cells := 0, slots := 0, locals := 0 }) (va_Pc [.ref h0] (x_Pre (dC, dI) (x_T cyI cyZ cyJ) [(h0, .inr (0, [.int 0, .int 0, .int (-1), .int 0, .int 0, .ref a5, .int 0, .ref a7, .ref a8, .ref a9, .int 0, .ref a11, .ref a12, .ref a13, .ref a14, .int 0, .ref a16]))] sz)) (va_Qi (fun (r : Int32) (_ : Unit) => r = 0) (fun _ _ => True) (x_new sz)) 0 0 (x_new sz) := by
  refine Met.ofW (cc := cX0_isSound) (maxL := 3) (ret := (some .boolean)) (by decide) rfl ?_
  intro p e s m args below meth c s₁ B hml hv
  obtain ⟨rfl, hsz, hP, hK, hN⟩ := hv
  have hx := B.exec
  have hb := B.bytes
  have hr := B.returns
  have hts := atoms_spec (ws := wsQX0_isSound) B.pre
  have hown : s.vm.findClass RX0 = some m.cls := findClass_of_methodNamed B.named
  have hlocks := B.notSynchronized
  have k_1 := hts (.fieldLink RX0 59 "FlowJudge$Code" "count" "I") (by decide +kernel)
  have k_2 := hts (.fieldLink RX0 62 "FlowJudge$Code" "rowCount" "I") (by decide +kernel)
  subst hsz
  have hA : ∀ q : Nat, s.heap.size ≤ q → x_new s.heap.size q := fun _ h => h
  have hS : va_S (x_new s.heap.size) s.heap s.heap [] := va_S.rf
  have hP : va_P (dC, dI) vwCl [(h0, .inr (0, [.int 0, .int 0, .int (-1), .int 0, .int 0, .ref a5, .int 0, .ref a7, .ref a8, .ref a9, .int 0, .ref a11, .ref a12, .ref a13, .ref a14, .int 0, .ref a16]))] s.heap := hP
  have hl := lv_entry ([.ref h0]) (n := 3) (Nat.le_of_ble_eq_true rfl)
  rw [lg_entry_eq]
  generalize (lg_sl ([.ref h0]) ++ List.replicate (3 - (lg_sl ([.ref h0])).length) Slot.unset).toArray = ls at hl ⊢
  have hl : lv_has ls 3 [(0, .ref h0)] := hl
  obtain ⟨H, hH⟩ : ∃ z, z = s.heap := ⟨_, rfl⟩
  refine x_here hH ?_
  have hP : va_P (dC, dI) vwCl [(h0, .inr (0, [.int 0, .int 0, .int (-1), .int 0, .int 0, .ref a5, .int 0, .ref a7, .ref a8, .ref a9, .int 0, .ref a11, .ref a12, .ref a13, .ref a14, .int 0, .ref a16]))] H := by rw [hH]; exact hP
  have hS : va_S (x_new s.heap.size) s.heap H [] := by rw [hH]; exact va_S.rf
  clear hH
  refine lv_aload_n hx hb dX0_isSound_0 rfl (lv_at hl 0 rfl) ?_
  refine va_get (D := (dC, dI)) (ci := 0) (v := .int 0) (C := RX0) (T := TX0) (N := 17) hx hb hts iQ_X0_isSound_X0 hown hK hP 0 rfl rfl 10 (by decide) k_1 (fun _ h9 => h9) rfl dX0_isSound_1 ?_
  refine lv_if_le (tgt := 22) hx hb dX0_isSound_4 (by decide) (fun _ => ?_) (fun c_1 => absurd (by decide) c_1)
  refine lv_iconst (v := 0) hx hb dX0_isSound_22 (by decide) ?_
  refine lv_istore_n (lv' := [(1, .int 0), (0, .ref h0)]) hx hb dX0_isSound_23 rfl hl (by decide) rfl (fun ls hl => ?_)
  refine lv_iconst (v := 0) hx hb dX0_isSound_24 (by decide) ?_
  refine lv_istore_n (lv' := [(2, .int 0), (1, .int 0), (0, .ref h0)]) hx hb dX0_isSound_25 rfl hl (by decide) rfl (fun ls hl => ?_)
  refine lv_iload_n hx hb dX0_isSound_26 rfl (lv_at hl 0 rfl) ?_
  refine lv_aload_n hx hb dX0_isSound_27 rfl (lv_at hl 2 rfl) ?_
  refine va_get (D := (dC, dI)) (ci := 0) (v := .int 0) (C := RX0) (T := TX0) (N := 17) hx hb hts iQ_X0_isSound_X0 hown hK hP 0 rfl rfl 10 (by decide) k_1 (fun _ h9 => h9) rfl dX0_isSound_28 ?_
  refine lv_icmp_ge (tgt := 50) hx hb dX0_isSound_31 (by decide) (fun _ => ?_) (fun c_2 => absurd (by decide) c_2)
  refine lv_iconst (v := 0) hx hb dX0_isSound_50 (by decide) ?_
  refine lv_istore_n (lv' := [(2, .int 0), (1, .int 0), (0, .ref h0)]) hx hb dX0_isSound_51 rfl hl (by decide) rfl (fun ls hl => ?_)
  refine lv_iload_n hx hb dX0_isSound_52 rfl (lv_at hl 0 rfl) ?_
  refine lv_aload_n hx hb dX0_isSound_53 rfl (lv_at hl 2 rfl) ?_
  refine va_get (D := (dC, dI)) (ci := 0) (v := .int 0) (C := RX0) (T := TX0) (N := 17) hx hb hts iQ_X0_isSound_X0 hown hK hP 0 rfl rfl 15 (by decide) k_2 (fun _ h9 => h9) rfl dX0_isSound_54 ?_
  refine lv_icmp_ge (tgt := 76) hx hb dX0_isSound_57 (by decide) (fun _ => ?_) (fun c_3 => absurd (by decide) c_3)
  refine lv_iload_n hx hb dX0_isSound_76 rfl (lv_at hl 1 rfl) ?_
  exact W.zret (ty := .boolean) hx hb hr rfl (fun t ht hW => ⟨⟨_, (), rfl, rfl, trivial⟩, hS.F ht⟩) hS.2.2 dX0_isSound_77
def wsQX8_judge : List Cond := .code yX8_judge cX8_judge 4 (some .int) :: ([.fieldLink RX8 26 "FlowJudge" "code" "LFlowJudge$Code;", .fieldLink RX8 42 "FlowJudge" "frames" "LFlowJudge$Frames;", .fieldLink RX8 33 "FlowJudge" "contexts" "LFlowJudge$Contexts;", .constant RX8 192 (12000000), .methodLink RX8 172 yX0_isSound, .instanceMethod yX0_isSound, .selects RX0 yX0_isSound yX0_isSound, .initialized RX0, .code yX0_isSound cX0_isSound 3 (some .boolean), .fieldLink RX0 59 "FlowJudge$Code" "count" "I", .fieldLink RX0 62 "FlowJudge$Code" "rowCount" "I", .methodLink RX8 181 yX3_clear, .instanceMethod yX3_clear, .selects RX3 yX3_clear yX3_clear, .initialized RX3, .code yX3_clear cX3_clear 3 none, .fieldLink RX3 63 "FlowJudge$Frames" "locals" "I", .fieldLink RX3 66 "FlowJudge$Frames" "size" "I", .fieldLink RX3 69 "FlowJudge$Frames" "count" "I", .fieldLink RX3 36 "FlowJudge$Frames" "firstAwaited" "I", .fieldLink RX3 40 "FlowJudge$Frames" "lastAwaited" "I", .fieldLink RX3 27 "FlowJudge$Frames" "heads" "[I", .methodLink RX3 57 yJ7_fill_53178, .static yJ7_fill_53178, .initialized RJ7, .code yJ7_fill_53178 cJ7_fill_53178 4 none, .methodLink RX8 185 yX1_clear, .instanceMethod yX1_clear, .selects RX1 yX1_clear yX1_clear, .initialized RX1, .code yX1_clear cX1_clear 1 none, .fieldLink RX1 21 "FlowJudge$Contexts" "firstBelow" "[I", .fieldLink RX1 27 "FlowJudge$Contexts" "count" "I"] ++ (wsX80 ++ (wsX00 ++ (wsX30 ++ (wsX10)))))
theorem iQ_X8_judge_X8 : ∀ w ∈ wsX80, w ∈ wsQX8_judge := fun _ h => List.mem_cons_of_mem _ (List.mem_append_right _ (List.mem_append_left _ h))
theorem iQ_X8_judge_X0 : ∀ w ∈ wsX00, w ∈ wsQX8_judge := fun _ h => List.mem_cons_of_mem _ (List.mem_append_right _ (List.mem_append_right _ (List.mem_append_left _ h)))
theorem iQ_X8_judge_X3 : ∀ w ∈ wsX30, w ∈ wsQX8_judge := fun _ h => List.mem_cons_of_mem _ (List.mem_append_right _ (List.mem_append_right _ (List.mem_append_right _ (List.mem_append_left _ h))))
theorem iQ_X8_judge_X1 : ∀ w ∈ wsX10, w ∈ wsQX8_judge := fun _ h => List.mem_cons_of_mem _ (List.mem_append_right _ (List.mem_append_right _ (List.mem_append_right _ (List.mem_append_right _ h))))
set_option maxRecDepth 20000 in
theorem ggQX8_judge_X0_isSound : GoodIn wsQX8_judge wsQX0_isSound := goodIn_ca (goodIn_r _ [9, 10, 11] (by decide +kernel) (by decide +kernel)) (goodIn_sub (iQ_X8_judge_X0) (by decide +kernel))
set_option maxRecDepth 20000 in
theorem gQX8_judge_X0_isSound : GoodIn wsQX8_judge (wsV RX8 172 RX0 yX0_isSound wsQX0_isSound) := goodIn_app (goodIn_of _ (by decide +kernel)) ggQX8_judge_X0_isSound
set_option maxRecDepth 20000 in
theorem ggQX8_judge_X3_clear : GoodIn wsQX8_judge wsX3_clear := goodIn_ca (goodIn_r _ [16, 17, 18, 19, 20, 21, 22, 23, 24, 25, 26] (by decide +kernel) (by decide +kernel)) (goodIn_sub (iQ_X8_judge_X3) (by decide +kernel))
set_option maxRecDepth 20000 in
theorem gQX8_judge_X3_clear : GoodIn wsQX8_judge (wsV RX8 181 RX3 yX3_clear wsX3_clear) := goodIn_app (goodIn_of _ (by decide +kernel)) ggQX8_judge_X3_clear
set_option maxRecDepth 20000 in
theorem ggQX8_judge_X1_clear : GoodIn wsQX8_judge wsX1_clear := goodIn_ca (goodIn_r _ [31, 32, 33] (by decide +kernel) (by decide +kernel)) (goodIn_sub (iQ_X8_judge_X1) (by decide +kernel))
set_option maxRecDepth 20000 in
theorem gQX8_judge_X1_clear : GoodIn wsQX8_judge (wsV RX8 185 RX1 yX1_clear wsX1_clear) := goodIn_app (goodIn_of _ (by decide +kernel)) ggQX8_judge_X1_clear
set_option maxHeartbeats 4000000 in
set_option maxRecDepth 100000 in
theorem cQ_X8_judge (l : Launch) (dC : Nat → ClassId) (dI : Nat → Nat → Nat) (cyI cyZ cyJ : ClassId) (sz : Nat) (h0 : Nat) (t0 : Nat) (m0 : Nat) (c0 : Nat) (x0 : Nat) (f0 : Nat) (w0 : Nat) (ca5 : Nat) (ca7 : Nat) (ca8 : Nat) (ca9 : Nat) (ca11 : Nat) (ca12 : Nat) (ca13 : Nat) (ca14 : Nat) (ca16 : Nat) (fa5 : Nat) (fa6 : Nat) (fa7 : Nat) (fa8 : Nat) (fa9 : Nat) (fa10 : Nat) (fa11 : Nat) (fa12 : Nat) (fa15 : Nat) (fa16 : Nat) (xa0 : Nat) (xa1 : Nat) (xa2 : Nat) (xa3 : Nat) (xa4 : Nat) (g0 : Nat → Int32) (g1 : Nat → Int32) : Met l yX8_judge wsQX8_judge ({ frames := 2, cells := 0, slots := 0, locals := 45 }) (va_Pc [.ref h0] (x_PreD (dC, dI) (x_T cyI cyZ cyJ) [(h0, .inr (8, [.ref t0, .ref m0, .ref c0, .ref x0, .ref f0, .ref w0])), (c0, .inr (0, [.int 0, .int 0, .int (-1), .int 0, .int 0, .ref ca5, .int 0, .ref ca7, .ref ca8, .ref ca9, .int 0, .ref ca11, .ref ca12, .ref ca13, .ref ca14, .int 0, .ref ca16])), (f0, .inr (3, [.ref t0, .ref x0, .int 0, .int 0, .int 0, .ref fa5, .ref fa6, .ref fa7, .ref fa8, .ref fa9, .ref fa10, .ref fa11, .ref fa12, .int (-1), .int (-1), .ref fa15, .ref fa16])), (fa10, .inl (cyI, 256, .inl g0)), (x0, .inr (1, [.ref xa0, .ref xa1, .ref xa2, .ref xa3, .ref xa4, .int 1])), (xa3, .inl (cyI, 16, .inl g1))] sz)) (va_Qi (fun (r : Int32) (_ : Unit) => r = (-1)) (fun _ _ => True) (va_A [(h0, .inr (8, [.ref t0, .ref m0, .ref c0, .ref x0, .ref f0, .ref w0])), (c0, .inr (0, [.int 0, .int 0, .int (-1), .int 0, .int 0, .ref ca5, .int 0, .ref ca7, .ref ca8, .ref ca9, .int 0, .ref ca11, .ref ca12, .ref ca13, .ref ca14, .int 0, .ref ca16])), (f0, .inr (3, [.ref t0, .ref x0, .int 0, .int 0, .int 0, .ref fa5, .ref fa6, .ref fa7, .ref fa8, .ref fa9, .ref fa10, .ref fa11, .ref fa12, .int (-1), .int (-1), .ref fa15, .ref fa16])), (fa10, .inl (cyI, 256, .inl g0)), (x0, .inr (1, [.ref xa0, .ref xa1, .ref xa2, .ref xa3, .ref xa4, .int 1])), (xa3, .inl (cyI, 16, .inl g1))] sz)) 0 0 (va_A [(h0, .inr (8, [.ref t0, .ref m0, .ref c0, .ref x0, .ref f0, .ref w0])), (c0, .inr (0, [.int 0, .int 0, .int (-1), .int 0, .int 0, .ref ca5, .int 0, .ref ca7, .ref ca8, .ref ca9, .int 0, .ref ca11, .ref ca12, .ref ca13, .ref ca14, .int 0, .ref ca16])), (f0, .inr (3, [.ref t0, .ref x0, .int 0, .int 0, .int 0, .ref fa5, .ref fa6, .ref fa7, .ref fa8, .ref fa9, .ref fa10, .ref fa11, .ref fa12, .int (-1), .int (-1), .ref fa15, .ref fa16])), (fa10, .inl (cyI, 256, .inl g0)), (x0, .inr (1, [.ref xa0, .ref xa1, .ref xa2, .ref xa3, .ref xa4, .int 1])), (xa3, .inl (cyI, 16, .inl g1))] sz) := by
  refine Met.ofW (cc := cX8_judge) (maxL := 4) (ret := (some .int)) (by decide) rfl ?_
  intro p e s m args below meth c s₁ B hml hv
  obtain ⟨rfl, ⟨hsz, hP, hK, hN⟩, hD0⟩ := hv
  have hx := B.exec
  have hb := B.bytes
  have hr := B.returns
  have hts := atoms_spec (ws := wsQX8_judge) B.pre
  have hown : s.vm.findClass RX8 = some m.cls := findClass_of_methodNamed B.named
  have hlocks := B.notSynchronized
  have k_1 := hts (.fieldLink RX8 26 "FlowJudge" "code" "LFlowJudge$Code;") (by decide +kernel)
  have k_2 := hts (.fieldLink RX8 42 "FlowJudge" "frames" "LFlowJudge$Frames;") (by decide +kernel)
  have k_3 := hts (.fieldLink RX8 33 "FlowJudge" "contexts" "LFlowJudge$Contexts;") (by decide +kernel)
  have k_4 := hts (.constant RX8 192 (12000000)) (by decide +kernel)
  subst hsz
  have hD := hD0.self (sz := s.heap.size)
  generalize hAe : va_A [(h0, .inr (8, [.ref t0, .ref m0, .ref c0, .ref x0, .ref f0, .ref w0])), (c0, .inr (0, [.int 0, .int 0, .int (-1), .int 0, .int 0, .ref ca5, .int 0, .ref ca7, .ref ca8, .ref ca9, .int 0, .ref ca11, .ref ca12, .ref ca13, .ref ca14, .int 0, .ref ca16])), (f0, .inr (3, [.ref t0, .ref x0, .int 0, .int 0, .int 0, .ref fa5, .ref fa6, .ref fa7, .ref fa8, .ref fa9, .ref fa10, .ref fa11, .ref fa12, .int (-1), .int (-1), .ref fa15, .ref fa16])), (fa10, .inl (cyI, 256, .inl g0)), (x0, .inr (1, [.ref xa0, .ref xa1, .ref xa2, .ref xa3, .ref xa4, .int 1])), (xa3, .inl (cyI, 16, .inl g1))] s.heap.size = A at hD ⊢
  have hA : ∀ q : Nat, s.heap.size ≤ q → A q := fun q h => by rw [← hAe]; exact Or.inr h
  have hS : va_S A s.heap s.heap [] := va_S.rf
  have hP : va_P (dC, dI) vwCl [(h0, .inr (8, [.ref t0, .ref m0, .ref c0, .ref x0, .ref f0, .ref w0])), (c0, .inr (0, [.int 0, .int 0, .int (-1), .int 0, .int 0, .ref ca5, .int 0, .ref ca7, .ref ca8, .ref ca9, .int 0, .ref ca11, .ref ca12, .ref ca13, .ref ca14, .int 0, .ref ca16])), (f0, .inr (3, [.ref t0, .ref x0, .int 0, .int 0, .int 0, .ref fa5, .ref fa6, .ref fa7, .ref fa8, .ref fa9, .ref fa10, .ref fa11, .ref fa12, .int (-1), .int (-1), .ref fa15, .ref fa16])), (fa10, .inl (cyI, 256, .inl g0)), (x0, .inr (1, [.ref xa0, .ref xa1, .ref xa2, .ref xa3, .ref xa4, .int 1])), (xa3, .inl (cyI, 16, .inl g1))] s.heap := hP
  have hl := lv_entry ([.ref h0]) (n := 4) (Nat.le_of_ble_eq_true rfl)
  rw [lg_entry_eq]
  generalize (lg_sl ([.ref h0]) ++ List.replicate (4 - (lg_sl ([.ref h0])).length) Slot.unset).toArray = ls at hl ⊢
  have hl : lv_has ls 4 [(0, .ref h0)] := hl
  obtain ⟨H, hH⟩ : ∃ z, z = s.heap := ⟨_, rfl⟩
  refine x_here hH ?_
  have hP : va_P (dC, dI) vwCl [(h0, .inr (8, [.ref t0, .ref m0, .ref c0, .ref x0, .ref f0, .ref w0])), (c0, .inr (0, [.int 0, .int 0, .int (-1), .int 0, .int 0, .ref ca5, .int 0, .ref ca7, .ref ca8, .ref ca9, .int 0, .ref ca11, .ref ca12, .ref ca13, .ref ca14, .int 0, .ref ca16])), (f0, .inr (3, [.ref t0, .ref x0, .int 0, .int 0, .int 0, .ref fa5, .ref fa6, .ref fa7, .ref fa8, .ref fa9, .ref fa10, .ref fa11, .ref fa12, .int (-1), .int (-1), .ref fa15, .ref fa16])), (fa10, .inl (cyI, 256, .inl g0)), (x0, .inr (1, [.ref xa0, .ref xa1, .ref xa2, .ref xa3, .ref xa4, .int 1])), (xa3, .inl (cyI, 16, .inl g1))] H := by rw [hH]; exact hP
  have hS : va_S A s.heap H [] := by rw [hH]; exact va_S.rf
  clear hH
  refine lv_aload_n hx hb dX8_judge_0 rfl (lv_at hl 0 rfl) ?_
  refine va_get (D := (dC, dI)) (ci := 8) (v := .ref c0) (C := RX8) (T := TX8) (N := 6) hx hb hts iQ_X8_judge_X8 hown hK hP 0 rfl rfl 2 (by decide) k_1 (fun _ h9 => h9) rfl dX8_judge_1 ?_
  have hPc := hP.sub (ws' := [(c0, .inr (0, [.int 0, .int 0, .int (-1), .int 0, .int 0, .ref ca5, .int 0, .ref ca7, .ref ca8, .ref ca9, .int 0, .ref ca11, .ref ca12, .ref ca13, .ref ca14, .int 0, .ref ca16]))]) [1] rfl
  refine va_calli (va_runV (As := []) (rest := []) ⟨hx, hb, hml, hown, hts⟩ (cQ_X0_isSound l dC dI cyI cyZ cyJ H.size c0 ca5 ca7 ca8 ca9 ca11 ca12 ca13 ca14 ca16) (cwV 0 hts gQX8_judge_X0_isSound rfl rfl rfl (by decide +kernel) ⟨Nat.le_of_ble_eq_true rfl, Nat.le_of_ble_eq_true rfl⟩) (x_pV hN hK hPc (ci := 0) (q0 := 0) rfl rfl) rfl rfl hl.1 rfl (lv_room (Nat.le_of_ble_eq_true rfl)) dX8_judge_4 ⟨Nat.le_of_ble_eq_true rfl, Nat.le_of_ble_eq_true rfl⟩) hS x_nA (x_nf hA hS) (fun r_4 u t H1 locs ht hvm hw hB hz1 hk1 hS => ?_)
  have hP := x_kp hP hk1
  clear ht hvm hB hz1 hk1 t u hPc
  generalize H1 = H at hP hS ⊢
  obtain rfl := hw
  refine lv_istore_n (lv' := [(1, .int 0), (0, .ref h0)]) hx hb dX8_judge_7 rfl hl (by decide) rfl (fun ls hl => ?_)
  refine lv_aload_n hx hb dX8_judge_8 rfl (lv_at hl 1 rfl) ?_
  refine va_get (D := (dC, dI)) (ci := 8) (v := .ref f0) (C := RX8) (T := TX8) (N := 6) hx hb hts iQ_X8_judge_X8 hown hK hP 0 rfl rfl 4 (by decide) k_2 (fun _ h9 => h9) rfl dX8_judge_9 ?_
  refine lv_aload_n hx hb dX8_judge_12 rfl (lv_at hl 1 rfl) ?_
  refine va_get (D := (dC, dI)) (ci := 8) (v := .ref c0) (C := RX8) (T := TX8) (N := 6) hx hb hts iQ_X8_judge_X8 hown hK hP 0 rfl rfl 2 (by decide) k_1 (fun _ h9 => h9) rfl dX8_judge_13 ?_
  refine va_getN (D := (dC, dI)) (ci := 0) (v := .int 0) (C := RX0) (T := TX0) (N := 17) hx hb hts iQ_X8_judge_X0 hown hK hP 1 rfl rfl 3 (by decide) ((hN.1 (175, "FlowJudge$Code", "locals", "I") (by decide)).use rfl) (fun _ h9 => h9) rfl dX8_judge_16 ?_
  refine lv_aload_n hx hb dX8_judge_19 rfl (lv_at hl 1 rfl) ?_
  refine va_get (D := (dC, dI)) (ci := 8) (v := .ref c0) (C := RX8) (T := TX8) (N := 6) hx hb hts iQ_X8_judge_X8 hown hK hP 0 rfl rfl 2 (by decide) k_1 (fun _ h9 => h9) rfl dX8_judge_20 ?_
  refine va_getN (D := (dC, dI)) (ci := 0) (v := .int 0) (C := RX0) (T := TX0) (N := 17) hx hb hts iQ_X8_judge_X0 hown hK hP 1 rfl rfl 4 (by decide) ((hN.1 (178, "FlowJudge$Code", "stack", "I") (by decide)).use rfl) (fun _ h9 => h9) rfl dX8_judge_23 ?_
  have hPc := hP.sub (ws' := [(f0, .inr (3, [.ref t0, .ref x0, .int 0, .int 0, .int 0, .ref fa5, .ref fa6, .ref fa7, .ref fa8, .ref fa9, .ref fa10, .ref fa11, .ref fa12, .int (-1), .int (-1), .ref fa15, .ref fa16])), (fa10, .inl (cyI, 256, .inl g0))]) [2, 3] rfl
  have hDc := hD.sub (ws' := [(f0, .inr (3, [.ref t0, .ref x0, .int 0, .int 0, .int 0, .ref fa5, .ref fa6, .ref fa7, .ref fa8, .ref fa9, .ref fa10, .ref fa11, .ref fa12, .int (-1), .int (-1), .ref fa15, .ref fa16])), (fa10, .inl (cyI, 256, .inl g0))]) [2, 3] (by decide) rfl
  have hFc := va_free (wc := [(f0, .inr (3, [.ref t0, .ref x0, .int 0, .int 0, .int 0, .ref fa5, .ref fa6, .ref fa7, .ref fa8, .ref fa9, .ref fa10, .ref fa11, .ref fa12, .int (-1), .int (-1), .ref fa15, .ref fa16])), (fa10, .inl (cyI, 256, .inl g0))]) hD hS hA [2, 3] rfl
  refine va_callv (va_runV (As := [.int 0, .int 0]) (rest := []) ⟨hx, hb, hml, hown, hts⟩ (c_X3_clear l dC dI cyI cyZ cyJ H.size f0 t0 x0 fa5 fa6 fa7 fa8 fa9 fa10 fa11 fa12 fa15 fa16 g0) (cwV 2 hts gQX8_judge_X3_clear rfl rfl rfl (by decide +kernel) ⟨Nat.le_of_ble_eq_true rfl, Nat.le_of_ble_eq_true rfl⟩) (x_pVD hN hK hPc hDc (ci := 3) (q0 := 0) rfl rfl) rfl rfl hl.1 rfl (lv_room (Nat.le_of_ble_eq_true rfl)) dX8_judge_26 ⟨Nat.le_of_ble_eq_true rfl, Nat.le_of_ble_eq_true rfl⟩) hS (fun q _ h => hFc q h) hFc (fun u t H1 locs ht hvm hw hB hz1 hk1 hS => ?_)
  obtain ⟨gn_1, hP1, hK1, hD1⟩ := hB
  rw [ht] at hP1
  obtain ⟨hP, hD⟩ := va_join (wr := [(h0, .inr (8, [.ref t0, .ref m0, .ref c0, .ref x0, .ref f0, .ref w0])), (c0, .inr (0, [.int 0, .int 0, .int (-1), .int 0, .int 0, .ref ca5, .int 0, .ref ca7, .ref ca8, .ref ca9, .int 0, .ref ca11, .ref ca12, .ref ca13, .ref ca14, .int 0, .ref ca16])), (x0, .inr (1, [.ref xa0, .ref xa1, .ref xa2, .ref xa3, .ref xa4, .int 1])), (xa3, .inl (cyI, 16, .inl g1))]) (w1 := [(f0, .inr (3, [.ref t0, .ref x0, .int 0, .int 0, .int 0, .ref fa5, .ref fa6, .ref fa7, .ref fa8, .ref fa9, .ref fa10, .ref fa11, .ref fa12, .int (-1), .int (-1), .ref fa15, .ref fa16])), (fa10, .inl (cyI, 256, .inl gn_1))]) hP hD [2, 3] [0, 1, 4, 5] rfl rfl (by decide) (by decide) hk1 hFc hP1 hD1
  clear hz1 hk1 hPc hDc hFc hP1 hK1 hD1 ht hvm t u
  generalize H1 = H at hP hS ⊢
  have hP : va_P (dC, dI) vwCl [(h0, .inr (8, [.ref t0, .ref m0, .ref c0, .ref x0, .ref f0, .ref w0])), (c0, .inr (0, [.int 0, .int 0, .int (-1), .int 0, .int 0, .ref ca5, .int 0, .ref ca7, .ref ca8, .ref ca9, .int 0, .ref ca11, .ref ca12, .ref ca13, .ref ca14, .int 0, .ref ca16])), (x0, .inr (1, [.ref xa0, .ref xa1, .ref xa2, .ref xa3, .ref xa4, .int 1])), (xa3, .inl (cyI, 16, .inl g1)), (f0, .inr (3, [.ref t0, .ref x0, .int 0, .int 0, .int 0, .ref fa5, .ref fa6, .ref fa7, .ref fa8, .ref fa9, .ref fa10, .ref fa11, .ref fa12, .int (-1), .int (-1), .ref fa15, .ref fa16])), (fa10, .inl (cyI, 256, .inl gn_1))] H := hP
  have hD : va_D A [(h0, .inr (8, [.ref t0, .ref m0, .ref c0, .ref x0, .ref f0, .ref w0])), (c0, .inr (0, [.int 0, .int 0, .int (-1), .int 0, .int 0, .ref ca5, .int 0, .ref ca7, .ref ca8, .ref ca9, .int 0, .ref ca11, .ref ca12, .ref ca13, .ref ca14, .int 0, .ref ca16])), (x0, .inr (1, [.ref xa0, .ref xa1, .ref xa2, .ref xa3, .ref xa4, .int 1])), (xa3, .inl (cyI, 16, .inl g1)), (f0, .inr (3, [.ref t0, .ref x0, .int 0, .int 0, .int 0, .ref fa5, .ref fa6, .ref fa7, .ref fa8, .ref fa9, .ref fa10, .ref fa11, .ref fa12, .int (-1), .int (-1), .ref fa15, .ref fa16])), (fa10, .inl (cyI, 256, .inl gn_1))] := hD
  refine lv_aload_n hx hb dX8_judge_29 rfl (lv_at hl 1 rfl) ?_
  refine va_get (D := (dC, dI)) (ci := 8) (v := .ref x0) (C := RX8) (T := TX8) (N := 6) hx hb hts iQ_X8_judge_X8 hown hK hP 0 rfl rfl 3 (by decide) k_3 (fun _ h9 => h9) rfl dX8_judge_30 ?_
  have hPc := hP.sub (ws' := [(x0, .inr (1, [.ref xa0, .ref xa1, .ref xa2, .ref xa3, .ref xa4, .int 1])), (xa3, .inl (cyI, 16, .inl g1))]) [2, 3] rfl
  have hDc := hD.sub (ws' := [(x0, .inr (1, [.ref xa0, .ref xa1, .ref xa2, .ref xa3, .ref xa4, .int 1])), (xa3, .inl (cyI, 16, .inl g1))]) [2, 3] (by decide) rfl
  have hFc := va_free (wc := [(x0, .inr (1, [.ref xa0, .ref xa1, .ref xa2, .ref xa3, .ref xa4, .int 1])), (xa3, .inl (cyI, 16, .inl g1))]) hD hS hA [2, 3] rfl
  refine va_callv (va_runV (As := []) (rest := []) ⟨hx, hb, hml, hown, hts⟩ (c_X1_clear l dC dI cyI cyZ cyJ H.size x0 xa0 xa1 xa2 xa3 xa4 g1) (cwV 0 hts gQX8_judge_X1_clear rfl rfl rfl (by decide +kernel) ⟨Nat.le_of_ble_eq_true rfl, Nat.le_of_ble_eq_true rfl⟩) (x_pVD hN hK hPc hDc (ci := 1) (q0 := 0) rfl rfl) rfl rfl hl.1 rfl (lv_room (Nat.le_of_ble_eq_true rfl)) dX8_judge_33 ⟨Nat.le_of_ble_eq_true rfl, Nat.le_of_ble_eq_true rfl⟩) hS (fun q _ h => hFc q h) hFc (fun u t H1 locs ht hvm hw hB hz1 hk1 hS => ?_)
  obtain ⟨gn_2, hP1, hK1, hD1⟩ := hB
  rw [ht] at hP1
  obtain ⟨hP, hD⟩ := va_join (wr := [(h0, .inr (8, [.ref t0, .ref m0, .ref c0, .ref x0, .ref f0, .ref w0])), (c0, .inr (0, [.int 0, .int 0, .int (-1), .int 0, .int 0, .ref ca5, .int 0, .ref ca7, .ref ca8, .ref ca9, .int 0, .ref ca11, .ref ca12, .ref ca13, .ref ca14, .int 0, .ref ca16])), (f0, .inr (3, [.ref t0, .ref x0, .int 0, .int 0, .int 0, .ref fa5, .ref fa6, .ref fa7, .ref fa8, .ref fa9, .ref fa10, .ref fa11, .ref fa12, .int (-1), .int (-1), .ref fa15, .ref fa16])), (fa10, .inl (cyI, 256, .inl gn_1))]) (w1 := [(x0, .inr (1, [.ref xa0, .ref xa1, .ref xa2, .ref xa3, .ref xa4, .int 1])), (xa3, .inl (cyI, 16, .inl gn_2))]) hP hD [2, 3] [0, 1, 4, 5] rfl rfl (by decide) (by decide) hk1 hFc hP1 hD1
  clear hz1 hk1 hPc hDc hFc hP1 hK1 hD1 ht hvm t u
  generalize H1 = H at hP hS ⊢
  have hP : va_P (dC, dI) vwCl [(h0, .inr (8, [.ref t0, .ref m0, .ref c0, .ref x0, .ref f0, .ref w0])), (c0, .inr (0, [.int 0, .int 0, .int (-1), .int 0, .int 0, .ref ca5, .int 0, .ref ca7, .ref ca8, .ref ca9, .int 0, .ref ca11, .ref ca12, .ref ca13, .ref ca14, .int 0, .ref ca16])), (f0, .inr (3, [.ref t0, .ref x0, .int 0, .int 0, .int 0, .ref fa5, .ref fa6, .ref fa7, .ref fa8, .ref fa9, .ref fa10, .ref fa11, .ref fa12, .int (-1), .int (-1), .ref fa15, .ref fa16])), (fa10, .inl (cyI, 256, .inl gn_1)), (x0, .inr (1, [.ref xa0, .ref xa1, .ref xa2, .ref xa3, .ref xa4, .int 1])), (xa3, .inl (cyI, 16, .inl gn_2))] H := hP
  have hD : va_D A [(h0, .inr (8, [.ref t0, .ref m0, .ref c0, .ref x0, .ref f0, .ref w0])), (c0, .inr (0, [.int 0, .int 0, .int (-1), .int 0, .int 0, .ref ca5, .int 0, .ref ca7, .ref ca8, .ref ca9, .int 0, .ref ca11, .ref ca12, .ref ca13, .ref ca14, .int 0, .ref ca16])), (f0, .inr (3, [.ref t0, .ref x0, .int 0, .int 0, .int 0, .ref fa5, .ref fa6, .ref fa7, .ref fa8, .ref fa9, .ref fa10, .ref fa11, .ref fa12, .int (-1), .int (-1), .ref fa15, .ref fa16])), (fa10, .inl (cyI, 256, .inl gn_1)), (x0, .inr (1, [.ref xa0, .ref xa1, .ref xa2, .ref xa3, .ref xa4, .int 1])), (xa3, .inl (cyI, 16, .inl gn_2))] := hD
  refine lv_iload_n hx hb dX8_judge_36 rfl (lv_at hl 0 rfl) ?_
  refine lv_if_eq (tgt := 55) hx hb dX8_judge_37 (by decide) (fun _ => ?_) (fun c_3 => absurd (by decide) c_3)
  refine lv_iconst (v := 0) hx hb dX8_judge_55 (by decide) ?_
  refine lv_istore_n (lv' := [(2, .int 0), (1, .int 0), (0, .ref h0)]) hx hb dX8_judge_56 rfl hl (by decide) rfl (fun ls hl => ?_)
  refine lv_iload_n hx hb dX8_judge_57 rfl (lv_at hl 0 rfl) ?_
  refine lv_ldc (v := 12000000) hx hb hown k_4 dX8_judge_58 ?_
  refine lv_icmp_ge (tgt := 98) hx hb dX8_judge_60 (by decide) (fun c_4 => absurd c_4 (by decide)) (fun _ => ?_)
  refine lv_iload_n hx hb dX8_judge_63 rfl (lv_at hl 1 rfl) ?_
  refine lv_if_eq (tgt := 98) hx hb dX8_judge_64 (by decide) (fun _ => ?_) (fun c_5 => absurd (by decide) c_5)
  refine lv_iload_n hx hb dX8_judge_98 rfl (lv_at hl 1 rfl) ?_
  refine lv_if_eq (tgt := 116) hx hb dX8_judge_99 (by decide) (fun _ => ?_) (fun c_6 => absurd (by decide) c_6)
  refine lv_iconst (v := 0) hx hb dX8_judge_116 (by decide) ?_
  refine lv_istore_n (lv' := [(2, .int 0), (1, .int 0), (0, .ref h0)]) hx hb dX8_judge_117 rfl hl (by decide) rfl (fun ls hl => ?_)
  refine lv_iconst (v := 0) hx hb dX8_judge_118 (by decide) ?_
  refine lv_istore_n (lv' := [(3, .int 0), (2, .int 0), (1, .int 0), (0, .ref h0)]) hx hb dX8_judge_119 rfl hl (by decide) rfl (fun ls hl => ?_)
  refine lv_iload_n hx hb dX8_judge_120 rfl (lv_at hl 0 rfl) ?_
  refine lv_aload_n hx hb dX8_judge_121 rfl (lv_at hl 3 rfl) ?_
  refine va_get (D := (dC, dI)) (ci := 8) (v := .ref f0) (C := RX8) (T := TX8) (N := 6) hx hb hts iQ_X8_judge_X8 hown hK hP 0 rfl rfl 4 (by decide) k_2 (fun _ h9 => h9) rfl dX8_judge_122 ?_
  refine va_getN (D := (dC, dI)) (ci := 3) (v := .int 0) (C := RX3) (T := TX3) (N := 17) hx hb hts iQ_X8_judge_X3 hown hK hP 2 rfl rfl 4 (by decide) ((hN.1 (206, "FlowJudge$Frames", "count", "I") (by decide)).use rfl) (fun _ h9 => h9) rfl dX8_judge_125 ?_
  refine lv_icmp_ge (tgt := 154) hx hb dX8_judge_128 (by decide) (fun _ => ?_) (fun c_7 => absurd (by decide) c_7)
  refine lv_iload_n hx hb dX8_judge_154 rfl (lv_at hl 2 rfl) ?_
  refine lv_if_eq (tgt := 168) hx hb dX8_judge_155 (by decide) (fun _ => ?_) (fun c_8 => absurd (by decide) c_8)
  refine lv_aload_n hx hb dX8_judge_168 rfl (lv_at hl 3 rfl) ?_
  refine va_get (D := (dC, dI)) (ci := 8) (v := .ref f0) (C := RX8) (T := TX8) (N := 6) hx hb hts iQ_X8_judge_X8 hown hK hP 0 rfl rfl 4 (by decide) k_2 (fun _ h9 => h9) rfl dX8_judge_169 ?_
  refine lv_aload_n hx hb dX8_judge_172 rfl (lv_at hl 3 rfl) ?_
  refine va_get (D := (dC, dI)) (ci := 8) (v := .ref c0) (C := RX8) (T := TX8) (N := 6) hx hb hts iQ_X8_judge_X8 hown hK hP 0 rfl rfl 2 (by decide) k_1 (fun _ h9 => h9) rfl dX8_judge_173 ?_
  refine va_getN (D := (dC, dI)) (ci := 0) (v := .int 0) (C := RX0) (T := TX0) (N := 17) hx hb hts iQ_X8_judge_X0 hown hK hP 1 rfl rfl 3 (by decide) ((hN.1 (175, "FlowJudge$Code", "locals", "I") (by decide)).use rfl) (fun _ h9 => h9) rfl dX8_judge_176 ?_
  refine lv_aload_n hx hb dX8_judge_179 rfl (lv_at hl 3 rfl) ?_
  refine va_get (D := (dC, dI)) (ci := 8) (v := .ref c0) (C := RX8) (T := TX8) (N := 6) hx hb hts iQ_X8_judge_X8 hown hK hP 0 rfl rfl 2 (by decide) k_1 (fun _ h9 => h9) rfl dX8_judge_180 ?_
  refine va_getN (D := (dC, dI)) (ci := 0) (v := .int 0) (C := RX0) (T := TX0) (N := 17) hx hb hts iQ_X8_judge_X0 hown hK hP 1 rfl rfl 4 (by decide) ((hN.1 (178, "FlowJudge$Code", "stack", "I") (by decide)).use rfl) (fun _ h9 => h9) rfl dX8_judge_183 ?_
  have hPc := hP.sub (ws' := [(f0, .inr (3, [.ref t0, .ref x0, .int 0, .int 0, .int 0, .ref fa5, .ref fa6, .ref fa7, .ref fa8, .ref fa9, .ref fa10, .ref fa11, .ref fa12, .int (-1), .int (-1), .ref fa15, .ref fa16])), (fa10, .inl (cyI, 256, .inl gn_1))]) [2, 3] rfl
  have hDc := hD.sub (ws' := [(f0, .inr (3, [.ref t0, .ref x0, .int 0, .int 0, .int 0, .ref fa5, .ref fa6, .ref fa7, .ref fa8, .ref fa9, .ref fa10, .ref fa11, .ref fa12, .int (-1), .int (-1), .ref fa15, .ref fa16])), (fa10, .inl (cyI, 256, .inl gn_1))]) [2, 3] (by decide) rfl
  have hFc := va_free (wc := [(f0, .inr (3, [.ref t0, .ref x0, .int 0, .int 0, .int 0, .ref fa5, .ref fa6, .ref fa7, .ref fa8, .ref fa9, .ref fa10, .ref fa11, .ref fa12, .int (-1), .int (-1), .ref fa15, .ref fa16])), (fa10, .inl (cyI, 256, .inl gn_1))]) hD hS hA [2, 3] rfl
  refine va_callv (va_runV (As := [.int 0, .int 0]) (rest := []) ⟨hx, hb, hml, hown, hts⟩ (c_X3_clear l dC dI cyI cyZ cyJ H.size f0 t0 x0 fa5 fa6 fa7 fa8 fa9 fa10 fa11 fa12 fa15 fa16 gn_1) (cwV 2 hts gQX8_judge_X3_clear rfl rfl rfl (by decide +kernel) ⟨Nat.le_of_ble_eq_true rfl, Nat.le_of_ble_eq_true rfl⟩) (x_pVD hN hK hPc hDc (ci := 3) (q0 := 0) rfl rfl) rfl rfl hl.1 rfl (lv_room (Nat.le_of_ble_eq_true rfl)) dX8_judge_186 ⟨Nat.le_of_ble_eq_true rfl, Nat.le_of_ble_eq_true rfl⟩) hS (fun q _ h => hFc q h) hFc (fun u t H1 locs ht hvm hw hB hz1 hk1 hS => ?_)
  obtain ⟨gn_9, hP1, hK1, hD1⟩ := hB
  rw [ht] at hP1
  obtain ⟨hP, hD⟩ := va_join (wr := [(h0, .inr (8, [.ref t0, .ref m0, .ref c0, .ref x0, .ref f0, .ref w0])), (c0, .inr (0, [.int 0, .int 0, .int (-1), .int 0, .int 0, .ref ca5, .int 0, .ref ca7, .ref ca8, .ref ca9, .int 0, .ref ca11, .ref ca12, .ref ca13, .ref ca14, .int 0, .ref ca16])), (x0, .inr (1, [.ref xa0, .ref xa1, .ref xa2, .ref xa3, .ref xa4, .int 1])), (xa3, .inl (cyI, 16, .inl gn_2))]) (w1 := [(f0, .inr (3, [.ref t0, .ref x0, .int 0, .int 0, .int 0, .ref fa5, .ref fa6, .ref fa7, .ref fa8, .ref fa9, .ref fa10, .ref fa11, .ref fa12, .int (-1), .int (-1), .ref fa15, .ref fa16])), (fa10, .inl (cyI, 256, .inl gn_9))]) hP hD [2, 3] [0, 1, 4, 5] rfl rfl (by decide) (by decide) hk1 hFc hP1 hD1
  clear hz1 hk1 hPc hDc hFc hP1 hK1 hD1 ht hvm t u
  generalize H1 = H at hP hS ⊢
  have hP : va_P (dC, dI) vwCl [(h0, .inr (8, [.ref t0, .ref m0, .ref c0, .ref x0, .ref f0, .ref w0])), (c0, .inr (0, [.int 0, .int 0, .int (-1), .int 0, .int 0, .ref ca5, .int 0, .ref ca7, .ref ca8, .ref ca9, .int 0, .ref ca11, .ref ca12, .ref ca13, .ref ca14, .int 0, .ref ca16])), (x0, .inr (1, [.ref xa0, .ref xa1, .ref xa2, .ref xa3, .ref xa4, .int 1])), (xa3, .inl (cyI, 16, .inl gn_2)), (f0, .inr (3, [.ref t0, .ref x0, .int 0, .int 0, .int 0, .ref fa5, .ref fa6, .ref fa7, .ref fa8, .ref fa9, .ref fa10, .ref fa11, .ref fa12, .int (-1), .int (-1), .ref fa15, .ref fa16])), (fa10, .inl (cyI, 256, .inl gn_9))] H := hP
  have hD : va_D A [(h0, .inr (8, [.ref t0, .ref m0, .ref c0, .ref x0, .ref f0, .ref w0])), (c0, .inr (0, [.int 0, .int 0, .int (-1), .int 0, .int 0, .ref ca5, .int 0, .ref ca7, .ref ca8, .ref ca9, .int 0, .ref ca11, .ref ca12, .ref ca13, .ref ca14, .int 0, .ref ca16])), (x0, .inr (1, [.ref xa0, .ref xa1, .ref xa2, .ref xa3, .ref xa4, .int 1])), (xa3, .inl (cyI, 16, .inl gn_2)), (f0, .inr (3, [.ref t0, .ref x0, .int 0, .int 0, .int 0, .ref fa5, .ref fa6, .ref fa7, .ref fa8, .ref fa9, .ref fa10, .ref fa11, .ref fa12, .int (-1), .int (-1), .ref fa15, .ref fa16])), (fa10, .inl (cyI, 256, .inl gn_9))] := hD
  refine lv_iconst (v := (-1)) hx hb dX8_judge_189 (by decide) ?_
  exact W.iret hx hb hr (fun t ht hW => ⟨⟨_, (), rfl, rfl, trivial⟩, hS.F ht⟩) hS.2.2 dX8_judge_190
set_option maxRecDepth 20000 in
theorem ggL_law_X8_judge : GoodIn wsL_law wsQX8_judge := goodIn_ca (goodIn_r _ [455, 24, 32, 28, 456, 457, 458, 459, 23, 460, 310, 311, 479, 480, 481, 31, 482, 483, 484, 485, 91, 92, 88, 97, 98, 99, 100, 486, 487, 488, 27, 489, 76, 78] (by decide +kernel) (by decide +kernel)) (goodIn_app (goodIn_sub (inlX8) (by decide +kernel)) (goodIn_app (goodIn_sub (inlX0) (by decide +kernel)) (goodIn_app (goodIn_sub (inlX3) (by decide +kernel)) (goodIn_sub (inlX1) (by decide +kernel)))))
set_option maxRecDepth 20000 in
theorem gL_law_X8_judge : GoodIn wsL_law (wsV RL 101 RX8 yX8_judge wsQX8_judge) := goodIn_app (goodIn_of _ (by decide +kernel)) ggL_law_X8_judge
def wsQX9_formed : List Cond := .code yX9_formed cX9_formed 5 (some .boolean) :: ([.fieldLink RX9 179 "FlowJudgeModel" "many" "I"] ++ (wsX90))
theorem iQ_X9_formed_X9 : ∀ w ∈ wsX90, w ∈ wsQX9_formed := fun _ h => List.mem_cons_of_mem _ (List.mem_append_right _ h)
set_option maxHeartbeats 4000000 in
set_option maxRecDepth 100000 in
theorem cQ_X9_formed (l : Launch) (dC : Nat → ClassId) (dI : Nat → Nat → Nat) (cyI cyZ cyJ : ClassId) (sz : Nat) (h0 : Nat) (a4 : Nat) (a5 : Nat) (a6 : Nat) (a7 : Nat) (a8 : Nat) (a9 : Nat) (a10 : Nat) (a11 : Nat) (a12 : Nat) (a19 : Nat) (a23 : Nat) (a24 : Nat) (a25 : Nat) (a26 : Nat) (a27 : Nat) (a28 : Nat) (a29 : Nat) (a30 : Nat) (a31 : Nat) (a32 : Nat) (a33 : Nat) (a34 : Nat) (a37 : Nat) (a38 : Nat) (a39 : Nat) (a40 : Nat) (a41 : Nat) (a43 : Nat) (a44 : Nat) (a45 : Nat) (a46 : Nat) (a47 : Nat) (a52 : Nat) (a53 : Nat) (a56 : Nat) (a57 : Nat) (a59 : Nat) (a60 : Nat) (a61 : Nat) : Met l yX9_formed wsQX9_formed ({ frames := 0, cells := 0, slots := 0, locals := 0 }) (va_Pc [.ref h0] (x_Pre (dC, dI) (x_T cyI cyZ cyJ) [(h0, .inr (9, [.int 0, .int 4, .int 0, .int 0, .ref a4, .ref a5, .ref a6, .ref a7, .ref a8, .ref a9, .ref a10, .ref a11, .ref a12, .int 0, .int 0, .int (-1), .int 0, .int 0, .int 0, .ref a19, .int 0, .int 0, .int 0, .ref a23, .ref a24, .ref a25, .ref a26, .ref a27, .ref a28, .ref a29, .ref a30, .ref a31, .ref a32, .ref a33, .ref a34, .int 0, .int 0, .ref a37, .ref a38, .ref a39, .ref a40, .ref a41, .int 0, .ref a43, .ref a44, .ref a45, .ref a46, .ref a47, .int 0, .int 0, .int 0, .int 0, .ref a52, .ref a53, .int 0, .int 0, .ref a56, .ref a57, .int 0, .ref a59, .ref a60, .ref a61]))] sz)) (va_Qi (fun (r : Int32) (_ : Unit) => r = 0) (fun _ _ => True) (x_new sz)) 0 0 (x_new sz) := by
  refine Met.ofW (cc := cX9_formed) (maxL := 5) (ret := (some .boolean)) (by decide) rfl ?_
  intro p e s m args below meth c s₁ B hml hv
  obtain ⟨rfl, hsz, hP, hK, hN⟩ := hv
  have hx := B.exec
  have hb := B.bytes
  have hr := B.returns
  have hts := atoms_spec (ws := wsQX9_formed) B.pre
  have hown : s.vm.findClass RX9 = some m.cls := findClass_of_methodNamed B.named
  have hlocks := B.notSynchronized
  have k_1 := hts (.fieldLink RX9 179 "FlowJudgeModel" "many" "I") (by decide +kernel)
  subst hsz
  have hA : ∀ q : Nat, s.heap.size ≤ q → x_new s.heap.size q := fun _ h => h
  have hS : va_S (x_new s.heap.size) s.heap s.heap [] := va_S.rf
  have hP : va_P (dC, dI) vwCl [(h0, .inr (9, [.int 0, .int 4, .int 0, .int 0, .ref a4, .ref a5, .ref a6, .ref a7, .ref a8, .ref a9, .ref a10, .ref a11, .ref a12, .int 0, .int 0, .int (-1), .int 0, .int 0, .int 0, .ref a19, .int 0, .int 0, .int 0, .ref a23, .ref a24, .ref a25, .ref a26, .ref a27, .ref a28, .ref a29, .ref a30, .ref a31, .ref a32, .ref a33, .ref a34, .int 0, .int 0, .ref a37, .ref a38, .ref a39, .ref a40, .ref a41, .int 0, .ref a43, .ref a44, .ref a45, .ref a46, .ref a47, .int 0, .int 0, .int 0, .int 0, .ref a52, .ref a53, .int 0, .int 0, .ref a56, .ref a57, .int 0, .ref a59, .ref a60, .ref a61]))] s.heap := hP
  have hl := lv_entry ([.ref h0]) (n := 5) (Nat.le_of_ble_eq_true rfl)
  rw [lg_entry_eq]
  generalize (lg_sl ([.ref h0]) ++ List.replicate (5 - (lg_sl ([.ref h0])).length) Slot.unset).toArray = ls at hl ⊢
  have hl : lv_has ls 5 [(0, .ref h0)] := hl
  obtain ⟨H, hH⟩ : ∃ z, z = s.heap := ⟨_, rfl⟩
  refine x_here hH ?_
  have hP : va_P (dC, dI) vwCl [(h0, .inr (9, [.int 0, .int 4, .int 0, .int 0, .ref a4, .ref a5, .ref a6, .ref a7, .ref a8, .ref a9, .ref a10, .ref a11, .ref a12, .int 0, .int 0, .int (-1), .int 0, .int 0, .int 0, .ref a19, .int 0, .int 0, .int 0, .ref a23, .ref a24, .ref a25, .ref a26, .ref a27, .ref a28, .ref a29, .ref a30, .ref a31, .ref a32, .ref a33, .ref a34, .int 0, .int 0, .ref a37, .ref a38, .ref a39, .ref a40, .ref a41, .int 0, .ref a43, .ref a44, .ref a45, .ref a46, .ref a47, .int 0, .int 0, .int 0, .int 0, .ref a52, .ref a53, .int 0, .int 0, .ref a56, .ref a57, .int 0, .ref a59, .ref a60, .ref a61]))] H := by rw [hH]; exact hP
  have hS : va_S (x_new s.heap.size) s.heap H [] := by rw [hH]; exact va_S.rf
  clear hH
  refine lv_aload_n hx hb dX9_formed_0 rfl (lv_at hl 0 rfl) ?_
  refine va_get (D := (dC, dI)) (ci := 9) (v := .int 0) (C := RX9) (T := TX9) (N := 62) hx hb hts iQ_X9_formed_X9 hown hK hP 0 rfl rfl 20 (by decide) k_1 (fun _ h9 => h9) rfl dX9_formed_1 ?_
  refine lv_if_ne (tgt := 9) hx hb dX9_formed_4 (by decide) (fun c_1 => absurd (by decide) c_1) (fun _ => ?_)
  refine lv_iconst (v := 0) hx hb dX9_formed_7 (by decide) ?_
  exact W.zret (ty := .boolean) hx hb hr rfl (fun t ht hW => ⟨⟨_, (), rfl, rfl, trivial⟩, hS.F ht⟩) hS.2.2 dX9_formed_8
def wsQX9_judge : List Cond := .code yX9_judge cX9_judge 5 (some .int) :: ([.fieldLink RX9 1 "FlowJudgeModel" "thrown" "I", .fieldLink RX9 260 "FlowJudgeModel" "told" "I", .fieldLink RX9 170 "FlowJudgeModel" "maxL" "I", .fieldLink RX9 263 "FlowJudgeModel" "toldL" "I", .fieldLink RX9 173 "FlowJudgeModel" "maxS" "I", .fieldLink RX9 266 "FlowJudgeModel" "toldS" "I", .methodLink RX9 269 yX9_formed, .instanceMethod yX9_formed, .selects RX9 yX9_formed yX9_formed, .initialized RX9, .code yX9_formed cX9_formed 5 (some .boolean), .fieldLink RX9 179 "FlowJudgeModel" "many" "I"] ++ (wsX90))
theorem iQ_X9_judge_X9 : ∀ w ∈ wsX90, w ∈ wsQX9_judge := fun _ h => List.mem_cons_of_mem _ (List.mem_append_right _ h)
set_option maxRecDepth 20000 in
theorem ggQX9_judge_X9_formed : GoodIn wsQX9_judge wsQX9_formed := goodIn_ca (goodIn_r _ [11, 12] (by decide +kernel) (by decide +kernel)) (goodIn_sub (iQ_X9_judge_X9) (by decide +kernel))
set_option maxRecDepth 20000 in
theorem gQX9_judge_X9_formed : GoodIn wsQX9_judge (wsV RX9 269 RX9 yX9_formed wsQX9_formed) := goodIn_app (goodIn_of _ (by decide +kernel)) ggQX9_judge_X9_formed
set_option maxHeartbeats 4000000 in
set_option maxRecDepth 100000 in
theorem cQ_X9_judge (l : Launch) (dC : Nat → ClassId) (dI : Nat → Nat → Nat) (cyI cyZ cyJ : ClassId) (sz : Nat) (h0 : Nat) (a4 : Nat) (a5 : Nat) (a6 : Nat) (a7 : Nat) (a8 : Nat) (a9 : Nat) (a10 : Nat) (a11 : Nat) (a12 : Nat) (a19 : Nat) (a23 : Nat) (a24 : Nat) (a25 : Nat) (a26 : Nat) (a27 : Nat) (a28 : Nat) (a29 : Nat) (a30 : Nat) (a31 : Nat) (a32 : Nat) (a33 : Nat) (a34 : Nat) (a37 : Nat) (a38 : Nat) (a39 : Nat) (a40 : Nat) (a41 : Nat) (a43 : Nat) (a44 : Nat) (a45 : Nat) (a46 : Nat) (a47 : Nat) (a52 : Nat) (a53 : Nat) (a56 : Nat) (a57 : Nat) (a59 : Nat) (a60 : Nat) (a61 : Nat) : Met l yX9_judge wsQX9_judge ({ frames := 1, cells := 0, slots := 0, locals := 24 }) (va_Pc [.ref h0] (x_PreD (dC, dI) (x_T cyI cyZ cyJ) [(h0, .inr (9, [.int 0, .int 4, .int 0, .int 0, .ref a4, .ref a5, .ref a6, .ref a7, .ref a8, .ref a9, .ref a10, .ref a11, .ref a12, .int 0, .int 0, .int (-1), .int 0, .int 0, .int 0, .ref a19, .int 0, .int 0, .int 0, .ref a23, .ref a24, .ref a25, .ref a26, .ref a27, .ref a28, .ref a29, .ref a30, .ref a31, .ref a32, .ref a33, .ref a34, .int 0, .int 0, .ref a37, .ref a38, .ref a39, .ref a40, .ref a41, .int 0, .ref a43, .ref a44, .ref a45, .ref a46, .ref a47, .int 0, .int 0, .int 0, .int 0, .ref a52, .ref a53, .int 0, .int 0, .ref a56, .ref a57, .int 0, .ref a59, .ref a60, .ref a61]))] sz)) (va_Qi (fun (r : Int32) (_ : Unit) => r = (-1)) (fun _ _ => True) (va_A [(h0, .inr (9, [.int 0, .int 4, .int 0, .int 0, .ref a4, .ref a5, .ref a6, .ref a7, .ref a8, .ref a9, .ref a10, .ref a11, .ref a12, .int 0, .int 0, .int (-1), .int 0, .int 0, .int 0, .ref a19, .int 0, .int 0, .int 0, .ref a23, .ref a24, .ref a25, .ref a26, .ref a27, .ref a28, .ref a29, .ref a30, .ref a31, .ref a32, .ref a33, .ref a34, .int 0, .int 0, .ref a37, .ref a38, .ref a39, .ref a40, .ref a41, .int 0, .ref a43, .ref a44, .ref a45, .ref a46, .ref a47, .int 0, .int 0, .int 0, .int 0, .ref a52, .ref a53, .int 0, .int 0, .ref a56, .ref a57, .int 0, .ref a59, .ref a60, .ref a61]))] sz)) 0 0 (va_A [(h0, .inr (9, [.int 0, .int 4, .int 0, .int 0, .ref a4, .ref a5, .ref a6, .ref a7, .ref a8, .ref a9, .ref a10, .ref a11, .ref a12, .int 0, .int 0, .int (-1), .int 0, .int 0, .int 0, .ref a19, .int 0, .int 0, .int 0, .ref a23, .ref a24, .ref a25, .ref a26, .ref a27, .ref a28, .ref a29, .ref a30, .ref a31, .ref a32, .ref a33, .ref a34, .int 0, .int 0, .ref a37, .ref a38, .ref a39, .ref a40, .ref a41, .int 0, .ref a43, .ref a44, .ref a45, .ref a46, .ref a47, .int 0, .int 0, .int 0, .int 0, .ref a52, .ref a53, .int 0, .int 0, .ref a56, .ref a57, .int 0, .ref a59, .ref a60, .ref a61]))] sz) := by
  refine Met.ofW (cc := cX9_judge) (maxL := 5) (ret := (some .int)) (by decide) rfl ?_
  intro p e s m args below meth c s₁ B hml hv
  obtain ⟨rfl, ⟨hsz, hP, hK, hN⟩, hD0⟩ := hv
  have hx := B.exec
  have hb := B.bytes
  have hr := B.returns
  have hts := atoms_spec (ws := wsQX9_judge) B.pre
  have hown : s.vm.findClass RX9 = some m.cls := findClass_of_methodNamed B.named
  have hlocks := B.notSynchronized
  have k_1 := hts (.fieldLink RX9 1 "FlowJudgeModel" "thrown" "I") (by decide +kernel)
  have k_2 := hts (.fieldLink RX9 260 "FlowJudgeModel" "told" "I") (by decide +kernel)
  have k_3 := hts (.fieldLink RX9 170 "FlowJudgeModel" "maxL" "I") (by decide +kernel)
  have k_4 := hts (.fieldLink RX9 263 "FlowJudgeModel" "toldL" "I") (by decide +kernel)
  have k_5 := hts (.fieldLink RX9 173 "FlowJudgeModel" "maxS" "I") (by decide +kernel)
  have k_6 := hts (.fieldLink RX9 266 "FlowJudgeModel" "toldS" "I") (by decide +kernel)
  subst hsz
  have hD := hD0.self (sz := s.heap.size)
  generalize hAe : va_A [(h0, .inr (9, [.int 0, .int 4, .int 0, .int 0, .ref a4, .ref a5, .ref a6, .ref a7, .ref a8, .ref a9, .ref a10, .ref a11, .ref a12, .int 0, .int 0, .int (-1), .int 0, .int 0, .int 0, .ref a19, .int 0, .int 0, .int 0, .ref a23, .ref a24, .ref a25, .ref a26, .ref a27, .ref a28, .ref a29, .ref a30, .ref a31, .ref a32, .ref a33, .ref a34, .int 0, .int 0, .ref a37, .ref a38, .ref a39, .ref a40, .ref a41, .int 0, .ref a43, .ref a44, .ref a45, .ref a46, .ref a47, .int 0, .int 0, .int 0, .int 0, .ref a52, .ref a53, .int 0, .int 0, .ref a56, .ref a57, .int 0, .ref a59, .ref a60, .ref a61]))] s.heap.size = A at hD ⊢
  have hA : ∀ q : Nat, s.heap.size ≤ q → A q := fun q h => by rw [← hAe]; exact Or.inr h
  have hS : va_S A s.heap s.heap [] := va_S.rf
  have hP : va_P (dC, dI) vwCl [(h0, .inr (9, [.int 0, .int 4, .int 0, .int 0, .ref a4, .ref a5, .ref a6, .ref a7, .ref a8, .ref a9, .ref a10, .ref a11, .ref a12, .int 0, .int 0, .int (-1), .int 0, .int 0, .int 0, .ref a19, .int 0, .int 0, .int 0, .ref a23, .ref a24, .ref a25, .ref a26, .ref a27, .ref a28, .ref a29, .ref a30, .ref a31, .ref a32, .ref a33, .ref a34, .int 0, .int 0, .ref a37, .ref a38, .ref a39, .ref a40, .ref a41, .int 0, .ref a43, .ref a44, .ref a45, .ref a46, .ref a47, .int 0, .int 0, .int 0, .int 0, .ref a52, .ref a53, .int 0, .int 0, .ref a56, .ref a57, .int 0, .ref a59, .ref a60, .ref a61]))] s.heap := hP
  have hl := lv_entry ([.ref h0]) (n := 5) (Nat.le_of_ble_eq_true rfl)
  rw [lg_entry_eq]
  generalize (lg_sl ([.ref h0]) ++ List.replicate (5 - (lg_sl ([.ref h0])).length) Slot.unset).toArray = ls at hl ⊢
  have hl : lv_has ls 5 [(0, .ref h0)] := hl
  obtain ⟨H, hH⟩ : ∃ z, z = s.heap := ⟨_, rfl⟩
  refine x_here hH ?_
  have hP : va_P (dC, dI) vwCl [(h0, .inr (9, [.int 0, .int 4, .int 0, .int 0, .ref a4, .ref a5, .ref a6, .ref a7, .ref a8, .ref a9, .ref a10, .ref a11, .ref a12, .int 0, .int 0, .int (-1), .int 0, .int 0, .int 0, .ref a19, .int 0, .int 0, .int 0, .ref a23, .ref a24, .ref a25, .ref a26, .ref a27, .ref a28, .ref a29, .ref a30, .ref a31, .ref a32, .ref a33, .ref a34, .int 0, .int 0, .ref a37, .ref a38, .ref a39, .ref a40, .ref a41, .int 0, .ref a43, .ref a44, .ref a45, .ref a46, .ref a47, .int 0, .int 0, .int 0, .int 0, .ref a52, .ref a53, .int 0, .int 0, .ref a56, .ref a57, .int 0, .ref a59, .ref a60, .ref a61]))] H := by rw [hH]; exact hP
  have hS : va_S A s.heap H [] := by rw [hH]; exact va_S.rf
  clear hH
  refine lv_aload_n hx hb dX9_judge_0 rfl (lv_at hl 0 rfl) ?_
  refine lv_iconst (v := 0) hx hb dX9_judge_1 (by decide) ?_
  refine va_put (D := (dC, dI)) (ci := 9) (v := .int 0) (ty := .int) (C := RX9) (T := TX9) (N := 62) hx hb hts iQ_X9_judge_X9 tyX9 tyX9_ok nmX9 hown hK hP hD hS 0 rfl rfl 0 (by decide) k_1 (fun _ h9 => h9) rfl (by decide +kernel) rfl rfl (Nat.le_of_ble_eq_true rfl) dX9_judge_2 (fun H locs hP hD hS => ?_)
  have hP : va_P (dC, dI) vwCl [(h0, .inr (9, [.int 0, .int 4, .int 0, .int 0, .ref a4, .ref a5, .ref a6, .ref a7, .ref a8, .ref a9, .ref a10, .ref a11, .ref a12, .int 0, .int 0, .int (-1), .int 0, .int 0, .int 0, .ref a19, .int 0, .int 0, .int 0, .ref a23, .ref a24, .ref a25, .ref a26, .ref a27, .ref a28, .ref a29, .ref a30, .ref a31, .ref a32, .ref a33, .ref a34, .int 0, .int 0, .ref a37, .ref a38, .ref a39, .ref a40, .ref a41, .int 0, .ref a43, .ref a44, .ref a45, .ref a46, .ref a47, .int 0, .int 0, .int 0, .int 0, .ref a52, .ref a53, .int 0, .int 0, .ref a56, .ref a57, .int 0, .ref a59, .ref a60, .ref a61]))] H := hP
  have hD : va_D A [(h0, .inr (9, [.int 0, .int 4, .int 0, .int 0, .ref a4, .ref a5, .ref a6, .ref a7, .ref a8, .ref a9, .ref a10, .ref a11, .ref a12, .int 0, .int 0, .int (-1), .int 0, .int 0, .int 0, .ref a19, .int 0, .int 0, .int 0, .ref a23, .ref a24, .ref a25, .ref a26, .ref a27, .ref a28, .ref a29, .ref a30, .ref a31, .ref a32, .ref a33, .ref a34, .int 0, .int 0, .ref a37, .ref a38, .ref a39, .ref a40, .ref a41, .int 0, .ref a43, .ref a44, .ref a45, .ref a46, .ref a47, .int 0, .int 0, .int 0, .int 0, .ref a52, .ref a53, .int 0, .int 0, .ref a56, .ref a57, .int 0, .ref a59, .ref a60, .ref a61]))] := hD
  refine lv_aload_n hx hb dX9_judge_5 rfl (lv_at hl 0 rfl) ?_
  refine lv_iconst (v := 0) hx hb dX9_judge_6 (by decide) ?_
  refine va_put (D := (dC, dI)) (ci := 9) (v := .int 0) (ty := .int) (C := RX9) (T := TX9) (N := 62) hx hb hts iQ_X9_judge_X9 tyX9 tyX9_ok nmX9 hown hK hP hD hS 0 rfl rfl 49 (by decide) k_2 (fun _ h9 => h9) rfl (by decide +kernel) rfl rfl (Nat.le_of_ble_eq_true rfl) dX9_judge_7 (fun H locs hP hD hS => ?_)
  have hP : va_P (dC, dI) vwCl [(h0, .inr (9, [.int 0, .int 4, .int 0, .int 0, .ref a4, .ref a5, .ref a6, .ref a7, .ref a8, .ref a9, .ref a10, .ref a11, .ref a12, .int 0, .int 0, .int (-1), .int 0, .int 0, .int 0, .ref a19, .int 0, .int 0, .int 0, .ref a23, .ref a24, .ref a25, .ref a26, .ref a27, .ref a28, .ref a29, .ref a30, .ref a31, .ref a32, .ref a33, .ref a34, .int 0, .int 0, .ref a37, .ref a38, .ref a39, .ref a40, .ref a41, .int 0, .ref a43, .ref a44, .ref a45, .ref a46, .ref a47, .int 0, .int 0, .int 0, .int 0, .ref a52, .ref a53, .int 0, .int 0, .ref a56, .ref a57, .int 0, .ref a59, .ref a60, .ref a61]))] H := hP
  have hD : va_D A [(h0, .inr (9, [.int 0, .int 4, .int 0, .int 0, .ref a4, .ref a5, .ref a6, .ref a7, .ref a8, .ref a9, .ref a10, .ref a11, .ref a12, .int 0, .int 0, .int (-1), .int 0, .int 0, .int 0, .ref a19, .int 0, .int 0, .int 0, .ref a23, .ref a24, .ref a25, .ref a26, .ref a27, .ref a28, .ref a29, .ref a30, .ref a31, .ref a32, .ref a33, .ref a34, .int 0, .int 0, .ref a37, .ref a38, .ref a39, .ref a40, .ref a41, .int 0, .ref a43, .ref a44, .ref a45, .ref a46, .ref a47, .int 0, .int 0, .int 0, .int 0, .ref a52, .ref a53, .int 0, .int 0, .ref a56, .ref a57, .int 0, .ref a59, .ref a60, .ref a61]))] := hD
  refine lv_aload_n hx hb dX9_judge_10 rfl (lv_at hl 0 rfl) ?_
  refine lv_aload_n hx hb dX9_judge_11 rfl (lv_at hl 0 rfl) ?_
  refine va_get (D := (dC, dI)) (ci := 9) (v := .int 0) (C := RX9) (T := TX9) (N := 62) hx hb hts iQ_X9_judge_X9 hown hK hP 0 rfl rfl 16 (by decide) k_3 (fun _ h9 => h9) rfl dX9_judge_12 ?_
  refine va_put (D := (dC, dI)) (ci := 9) (v := .int 0) (ty := .int) (C := RX9) (T := TX9) (N := 62) hx hb hts iQ_X9_judge_X9 tyX9 tyX9_ok nmX9 hown hK hP hD hS 0 rfl rfl 50 (by decide) k_4 (fun _ h9 => h9) rfl (by decide +kernel) rfl rfl (Nat.le_of_ble_eq_true rfl) dX9_judge_15 (fun H locs hP hD hS => ?_)
  have hP : va_P (dC, dI) vwCl [(h0, .inr (9, [.int 0, .int 4, .int 0, .int 0, .ref a4, .ref a5, .ref a6, .ref a7, .ref a8, .ref a9, .ref a10, .ref a11, .ref a12, .int 0, .int 0, .int (-1), .int 0, .int 0, .int 0, .ref a19, .int 0, .int 0, .int 0, .ref a23, .ref a24, .ref a25, .ref a26, .ref a27, .ref a28, .ref a29, .ref a30, .ref a31, .ref a32, .ref a33, .ref a34, .int 0, .int 0, .ref a37, .ref a38, .ref a39, .ref a40, .ref a41, .int 0, .ref a43, .ref a44, .ref a45, .ref a46, .ref a47, .int 0, .int 0, .int 0, .int 0, .ref a52, .ref a53, .int 0, .int 0, .ref a56, .ref a57, .int 0, .ref a59, .ref a60, .ref a61]))] H := hP
  have hD : va_D A [(h0, .inr (9, [.int 0, .int 4, .int 0, .int 0, .ref a4, .ref a5, .ref a6, .ref a7, .ref a8, .ref a9, .ref a10, .ref a11, .ref a12, .int 0, .int 0, .int (-1), .int 0, .int 0, .int 0, .ref a19, .int 0, .int 0, .int 0, .ref a23, .ref a24, .ref a25, .ref a26, .ref a27, .ref a28, .ref a29, .ref a30, .ref a31, .ref a32, .ref a33, .ref a34, .int 0, .int 0, .ref a37, .ref a38, .ref a39, .ref a40, .ref a41, .int 0, .ref a43, .ref a44, .ref a45, .ref a46, .ref a47, .int 0, .int 0, .int 0, .int 0, .ref a52, .ref a53, .int 0, .int 0, .ref a56, .ref a57, .int 0, .ref a59, .ref a60, .ref a61]))] := hD
  refine lv_aload_n hx hb dX9_judge_18 rfl (lv_at hl 0 rfl) ?_
  refine lv_aload_n hx hb dX9_judge_19 rfl (lv_at hl 0 rfl) ?_
  refine va_get (D := (dC, dI)) (ci := 9) (v := .int 0) (C := RX9) (T := TX9) (N := 62) hx hb hts iQ_X9_judge_X9 hown hK hP 0 rfl rfl 17 (by decide) k_5 (fun _ h9 => h9) rfl dX9_judge_20 ?_
  refine va_put (D := (dC, dI)) (ci := 9) (v := .int 0) (ty := .int) (C := RX9) (T := TX9) (N := 62) hx hb hts iQ_X9_judge_X9 tyX9 tyX9_ok nmX9 hown hK hP hD hS 0 rfl rfl 51 (by decide) k_6 (fun _ h9 => h9) rfl (by decide +kernel) rfl rfl (Nat.le_of_ble_eq_true rfl) dX9_judge_23 (fun H locs hP hD hS => ?_)
  have hP : va_P (dC, dI) vwCl [(h0, .inr (9, [.int 0, .int 4, .int 0, .int 0, .ref a4, .ref a5, .ref a6, .ref a7, .ref a8, .ref a9, .ref a10, .ref a11, .ref a12, .int 0, .int 0, .int (-1), .int 0, .int 0, .int 0, .ref a19, .int 0, .int 0, .int 0, .ref a23, .ref a24, .ref a25, .ref a26, .ref a27, .ref a28, .ref a29, .ref a30, .ref a31, .ref a32, .ref a33, .ref a34, .int 0, .int 0, .ref a37, .ref a38, .ref a39, .ref a40, .ref a41, .int 0, .ref a43, .ref a44, .ref a45, .ref a46, .ref a47, .int 0, .int 0, .int 0, .int 0, .ref a52, .ref a53, .int 0, .int 0, .ref a56, .ref a57, .int 0, .ref a59, .ref a60, .ref a61]))] H := hP
  have hD : va_D A [(h0, .inr (9, [.int 0, .int 4, .int 0, .int 0, .ref a4, .ref a5, .ref a6, .ref a7, .ref a8, .ref a9, .ref a10, .ref a11, .ref a12, .int 0, .int 0, .int (-1), .int 0, .int 0, .int 0, .ref a19, .int 0, .int 0, .int 0, .ref a23, .ref a24, .ref a25, .ref a26, .ref a27, .ref a28, .ref a29, .ref a30, .ref a31, .ref a32, .ref a33, .ref a34, .int 0, .int 0, .ref a37, .ref a38, .ref a39, .ref a40, .ref a41, .int 0, .ref a43, .ref a44, .ref a45, .ref a46, .ref a47, .int 0, .int 0, .int 0, .int 0, .ref a52, .ref a53, .int 0, .int 0, .ref a56, .ref a57, .int 0, .ref a59, .ref a60, .ref a61]))] := hD
  refine lv_aload_n hx hb dX9_judge_26 rfl (lv_at hl 0 rfl) ?_
  have hPc := hP.sub (ws' := [(h0, .inr (9, [.int 0, .int 4, .int 0, .int 0, .ref a4, .ref a5, .ref a6, .ref a7, .ref a8, .ref a9, .ref a10, .ref a11, .ref a12, .int 0, .int 0, .int (-1), .int 0, .int 0, .int 0, .ref a19, .int 0, .int 0, .int 0, .ref a23, .ref a24, .ref a25, .ref a26, .ref a27, .ref a28, .ref a29, .ref a30, .ref a31, .ref a32, .ref a33, .ref a34, .int 0, .int 0, .ref a37, .ref a38, .ref a39, .ref a40, .ref a41, .int 0, .ref a43, .ref a44, .ref a45, .ref a46, .ref a47, .int 0, .int 0, .int 0, .int 0, .ref a52, .ref a53, .int 0, .int 0, .ref a56, .ref a57, .int 0, .ref a59, .ref a60, .ref a61]))]) [0] rfl
  refine va_calli (va_runV (As := []) (rest := []) ⟨hx, hb, hml, hown, hts⟩ (cQ_X9_formed l dC dI cyI cyZ cyJ H.size h0 a4 a5 a6 a7 a8 a9 a10 a11 a12 a19 a23 a24 a25 a26 a27 a28 a29 a30 a31 a32 a33 a34 a37 a38 a39 a40 a41 a43 a44 a45 a46 a47 a52 a53 a56 a57 a59 a60 a61) (cwV 0 hts gQX9_judge_X9_formed rfl rfl rfl (by decide +kernel) ⟨Nat.le_of_ble_eq_true rfl, Nat.le_of_ble_eq_true rfl⟩) (x_pV hN hK hPc (ci := 9) (q0 := 0) rfl rfl) rfl rfl hl.1 rfl (lv_room (Nat.le_of_ble_eq_true rfl)) dX9_judge_27 ⟨Nat.le_of_ble_eq_true rfl, Nat.le_of_ble_eq_true rfl⟩) hS x_nA (x_nf hA hS) (fun r_27 u t H1 locs ht hvm hw hB hz1 hk1 hS => ?_)
  have hP := x_kp hP hk1
  clear ht hvm hB hz1 hk1 t u hPc
  generalize H1 = H at hP hS ⊢
  obtain rfl := hw
  refine lv_if_eq (tgt := 40) hx hb dX9_judge_30 (by decide) (fun _ => ?_) (fun c_1 => absurd (by decide) c_1)
  refine lv_iconst (v := (-1)) hx hb dX9_judge_40 (by decide) ?_
  exact W.iret hx hb hr (fun t ht hW => ⟨⟨_, (), rfl, rfl, trivial⟩, hS.F ht⟩) hS.2.2 dX9_judge_41
set_option maxRecDepth 20000 in
theorem ggL_law_X9_judge : GoodIn wsL_law wsQX9_judge := goodIn_ca (goodIn_r _ [806, 204, 807, 318, 808, 319, 809, 812, 813, 814, 5, 815, 321] (by decide +kernel) (by decide +kernel)) (goodIn_sub (inlX9) (by decide +kernel))
set_option maxRecDepth 20000 in
theorem gL_law_X9_judge : GoodIn wsL_law (wsV RL 104 RX9 yX9_judge wsQX9_judge) := goodIn_app (goodIn_of _ (by decide +kernel)) ggL_law_X9_judge
