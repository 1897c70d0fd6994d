theorem i_X8_method_X7 : ∀ w ∈ wsX70, w ∈ wsX8_method := by decide +kernel
theorem i_X8_method_X8 : ∀ w ∈ wsX80, w ∈ wsX8_method := by decide +kernel
theorem u_X8_method_1 : ∀ w ∈ (vx_atS RX8 67 "java/lang/IllegalArgumentException" ["java/lang/RuntimeException", "java/lang/Exception"]).filter goodWord, w ∈ wsX8_method := by decide +kernel
set_option maxHeartbeats 4000000 in
set_option maxRecDepth 100000 in
theorem c_X8_method (l : Launch) (hl9 : l.stackTraces = false) (dC : Nat → ClassId) (dI : Nat → Nat → Nat) (cyI cyZ cyJ : ClassId) (sz : Nat) (base : Nat) (o8 : Nat) (o7 : Nat) (o4 : Nat) (o0 : Nat) (o1 : Nat) (o3 : Nat) (o2 : Nat) (a7_0 : Nat) (a7_1 : Nat) (v7_2 : Int32) (g7_1 : Nat → Int32) (v0_0 : Int32) (v0_1 : Int32) (v0_2 : Int32) (v0_3 : Int32) (v0_4 : Int32) (a0_5 : Nat) (v0_6 : Int32) (a0_7 : Nat) (a0_8 : Nat) (a0_9 : Nat) (v0_10 : Int32) (a0_11 : Nat) (a0_12 : Nat) (a0_13 : Nat) (a0_14 : Nat) (v0_15 : Int32) (a0_16 : Nat) (p1 : Int32) (p2 : Int32) (p3 : Int32) (p4 : Int32) (p5 : Int32) (R : Int32 × Int32 × Int32 × Int32 × Int32 × Int32 × Int32 × Int32 × Int32 × Int32) (hf : f_X8_method v7_2 g7_1 v0_0 v0_1 v0_2 v0_3 v0_4 v0_6 v0_10 v0_15 p1 p2 p3 p4 p5 = some R) : vx_Met l yX8_method wsX8_method ({ frames := 6, cells := 1, slots := 6, locals := 90 }) (va_Pc [.ref o8, .int p1, .int p2, .int p3, .int p4, .int p5] (x_PreX (dC, dI) (x_T cyI cyZ cyJ) [(o8, .inr (8, [.ref o7, .ref o4, .ref o0, .ref o1, .ref o3, .ref o2])), (o7, .inr (7, [.ref a7_0, .ref a7_1, .int v7_2])), (a7_1, .inl (cyZ, 200, .inl g7_1)), (o0, .inr (0, [.int v0_0, .int v0_1, .int v0_2, .int v0_3, .int v0_4, .ref a0_5, .int v0_6, .ref a0_7, .ref a0_8, .ref a0_9, .int v0_10, .ref a0_11, .ref a0_12, .ref a0_13, .ref a0_14, .int v0_15, .ref a0_16]))] base sz)) (va_Qi (fun (r : Int32) (_ : Unit) => R.1 = 0 ∧ r = R.2.1) (fun (_ : Unit) (t : State) => va_P (dC, dI) vwCl [(o8, .inr (8, [.ref o7, .ref o4, .ref o0, .ref o1, .ref o3, .ref o2])), (o7, .inr (7, [.ref a7_0, .ref a7_1, .int v7_2])), (a7_1, .inl (cyZ, 200, .inl g7_1)), (o0, .inr (0, [.int (R.2.2.1), .int (R.2.2.2.1), .int (R.2.2.2.2.1), .int (R.2.2.2.2.2.1), .int (R.2.2.2.2.2.2.1), .ref a0_5, .int (R.2.2.2.2.2.2.2.1), .ref a0_7, .ref a0_8, .ref a0_9, .int (R.2.2.2.2.2.2.2.2.1), .ref a0_11, .ref a0_12, .ref a0_13, .ref a0_14, .int (R.2.2.2.2.2.2.2.2.2), .ref a0_16]))] t.heap ∧ va_K (dC, dI) vwCl (x_T cyI cyZ cyJ) t ∧ va_D (va_A [(o8, .inr (8, [.ref o7, .ref o4, .ref o0, .ref o1, .ref o3, .ref o2])), (o7, .inr (7, [.ref a7_0, .ref a7_1, .int v7_2])), (a7_1, .inl (cyZ, 200, .inl g7_1)), (o0, .inr (0, [.int v0_0, .int v0_1, .int v0_2, .int v0_3, .int v0_4, .ref a0_5, .int v0_6, .ref a0_7, .ref a0_8, .ref a0_9, .int v0_10, .ref a0_11, .ref a0_12, .ref a0_13, .ref a0_14, .int v0_15, .ref a0_16]))] sz) [(o8, .inr (8, [.ref o7, .ref o4, .ref o0, .ref o1, .ref o3, .ref o2])), (o7, .inr (7, [.ref a7_0, .ref a7_1, .int v7_2])), (a7_1, .inl (cyZ, 200, .inl g7_1)), (o0, .inr (0, [.int (R.2.2.1), .int (R.2.2.2.1), .int (R.2.2.2.2.1), .int (R.2.2.2.2.2.1), .int (R.2.2.2.2.2.2.1), .ref a0_5, .int (R.2.2.2.2.2.2.2.1), .ref a0_7, .ref a0_8, .ref a0_9, .int (R.2.2.2.2.2.2.2.2.1), .ref a0_11, .ref a0_12, .ref a0_13, .ref a0_14, .int (R.2.2.2.2.2.2.2.2.2), .ref a0_16]))]) (va_A [(o8, .inr (8, [.ref o7, .ref o4, .ref o0, .ref o1, .ref o3, .ref o2])), (o7, .inr (7, [.ref a7_0, .ref a7_1, .int v7_2])), (a7_1, .inl (cyZ, 200, .inl g7_1)), (o0, .inr (0, [.int v0_0, .int v0_1, .int v0_2, .int v0_3, .int v0_4, .ref a0_5, .int v0_6, .ref a0_7, .ref a0_8, .ref a0_9, .int v0_10, .ref a0_11, .ref a0_12, .ref a0_13, .ref a0_14, .int v0_15, .ref a0_16]))] sz)) (vx_X (fun _ : Unit => True) (fun (E : String) (_ : Unit) (t : State) => (R.1 = 1 ∧ E = "java/lang/IllegalArgumentException") ∧ (va_P (dC, dI) vwCl [(o8, .inr (8, [.ref o7, .ref o4, .ref o0, .ref o1, .ref o3, .ref o2])), (o7, .inr (7, [.ref a7_0, .ref a7_1, .int v7_2])), (a7_1, .inl (cyZ, 200, .inl g7_1)), (o0, .inr (0, [.int (R.2.2.1), .int (R.2.2.2.1), .int (R.2.2.2.2.1), .int (R.2.2.2.2.2.1), .int (R.2.2.2.2.2.2.1), .ref a0_5, .int (R.2.2.2.2.2.2.2.1), .ref a0_7, .ref a0_8, .ref a0_9, .int (R.2.2.2.2.2.2.2.2.1), .ref a0_11, .ref a0_12, .ref a0_13, .ref a0_14, .int (R.2.2.2.2.2.2.2.2.2), .ref a0_16]))] t.heap ∧ va_K (dC, dI) vwCl (x_T cyI cyZ cyJ) t ∧ va_D (va_A [(o8, .inr (8, [.ref o7, .ref o4, .ref o0, .ref o1, .ref o3, .ref o2])), (o7, .inr (7, [.ref a7_0, .ref a7_1, .int v7_2])), (a7_1, .inl (cyZ, 200, .inl g7_1)), (o0, .inr (0, [.int v0_0, .int v0_1, .int v0_2, .int v0_3, .int v0_4, .ref a0_5, .int v0_6, .ref a0_7, .ref a0_8, .ref a0_9, .int v0_10, .ref a0_11, .ref a0_12, .ref a0_13, .ref a0_14, .int v0_15, .ref a0_16]))] sz) [(o8, .inr (8, [.ref o7, .ref o4, .ref o0, .ref o1, .ref o3, .ref o2])), (o7, .inr (7, [.ref a7_0, .ref a7_1, .int v7_2])), (a7_1, .inl (cyZ, 200, .inl g7_1)), (o0, .inr (0, [.int (R.2.2.1), .int (R.2.2.2.1), .int (R.2.2.2.2.1), .int (R.2.2.2.2.2.1), .int (R.2.2.2.2.2.2.1), .ref a0_5, .int (R.2.2.2.2.2.2.2.1), .ref a0_7, .ref a0_8, .ref a0_9, .int (R.2.2.2.2.2.2.2.2.1), .ref a0_11, .ref a0_12, .ref a0_13, .ref a0_14, .int (R.2.2.2.2.2.2.2.2.2), .ref a0_16]))])) (va_A [(o8, .inr (8, [.ref o7, .ref o4, .ref o0, .ref o1, .ref o3, .ref o2])), (o7, .inr (7, [.ref a7_0, .ref a7_1, .int v7_2])), (a7_1, .inl (cyZ, 200, .inl g7_1)), (o0, .inr (0, [.int v0_0, .int v0_1, .int v0_2, .int v0_3, .int v0_4, .ref a0_5, .int v0_6, .ref a0_7, .ref a0_8, .ref a0_9, .int v0_10, .ref a0_11, .ref a0_12, .ref a0_13, .ref a0_14, .int v0_15, .ref a0_16]))] sz)) 1 6 (va_A [(o8, .inr (8, [.ref o7, .ref o4, .ref o0, .ref o1, .ref o3, .ref o2])), (o7, .inr (7, [.ref a7_0, .ref a7_1, .int v7_2])), (a7_1, .inl (cyZ, 200, .inl g7_1)), (o0, .inr (0, [.int v0_0, .int v0_1, .int v0_2, .int v0_3, .int v0_4, .ref a0_5, .int v0_6, .ref a0_7, .ref a0_8, .ref a0_9, .int v0_10, .ref a0_11, .ref a0_12, .ref a0_13, .ref a0_14, .int v0_15, .ref a0_16]))] sz) := by
  refine vx_ofW (cc := cX8_method) (maxL := 6) (ret := (some .int)) (by decide) rfl ?_
  intro p e s m args below meth c s₁ B hml hno hv
  obtain ⟨rfl, ⟨⟨hsz, hP, hK, hN⟩, hD0⟩, hDb, hbz, hG⟩ := hv
  have hx := B.exec
  have hb := B.bytes
  have hr := B.returns
  have hts := atoms_spec (ws := wsX8_method) B.pre
  have hown : s.vm.findClass RX8 = some m.cls := findClass_of_methodNamed B.named
  have hlocks := B.notSynchronized
  have hts_1 := fun w (h : w ∈ (vx_atS RX8 67 "java/lang/IllegalArgumentException" ["java/lang/RuntimeException", "java/lang/Exception"]).filter goodWord) => hts w (u_X8_method_1 w h)
  have k_1 := hts (.fieldLink RX8 10 "FlowJudge" "types" "LFlowJudge$Types;") (by decide +kernel)
  have k_2 := hts (.classLink RX8 63 "java/lang/IllegalArgumentException") (by decide +kernel)
  have k_3 := hts (.initialized "java/lang/IllegalArgumentException") (by decide +kernel)
  have k_4 := hts (.fieldLink RX8 26 "FlowJudge" "code" "LFlowJudge$Code;") (by decide +kernel)
  subst hsz
  have hAb : ∀ q, va_A [(o8, .inr (8, [.ref o7, .ref o4, .ref o0, .ref o1, .ref o3, .ref o2])), (o7, .inr (7, [.ref a7_0, .ref a7_1, .int v7_2])), (a7_1, .inl (cyZ, 200, .inl g7_1)), (o0, .inr (0, [.int v0_0, .int v0_1, .int v0_2, .int v0_3, .int v0_4, .ref a0_5, .int v0_6, .ref a0_7, .ref a0_8, .ref a0_9, .int v0_10, .ref a0_11, .ref a0_12, .ref a0_13, .ref a0_14, .int v0_15, .ref a0_16]))] s.heap.size q → x_new base q := x_Ab hDb hbz
  have hD := hD0.self (sz := s.heap.size)
  generalize hAe : va_A [(o8, .inr (8, [.ref o7, .ref o4, .ref o0, .ref o1, .ref o3, .ref o2])), (o7, .inr (7, [.ref a7_0, .ref a7_1, .int v7_2])), (a7_1, .inl (cyZ, 200, .inl g7_1)), (o0, .inr (0, [.int v0_0, .int v0_1, .int v0_2, .int v0_3, .int v0_4, .ref a0_5, .int v0_6, .ref a0_7, .ref a0_8, .ref a0_9, .int v0_10, .ref a0_11, .ref a0_12, .ref a0_13, .ref a0_14, .int v0_15, .ref a0_16]))] s.heap.size = A at hD hAb ⊢
  have hA : ∀ q : Nat, s.heap.size ≤ q → A q := fun q h => by rw [← hAe]; exact Or.inr h
  have hP : va_P (dC, dI) vwCl [(o8, .inr (8, [.ref o7, .ref o4, .ref o0, .ref o1, .ref o3, .ref o2])), (o7, .inr (7, [.ref a7_0, .ref a7_1, .int v7_2])), (a7_1, .inl (cyZ, 200, .inl g7_1)), (o0, .inr (0, [.int v0_0, .int v0_1, .int v0_2, .int v0_3, .int v0_4, .ref a0_5, .int v0_6, .ref a0_7, .ref a0_8, .ref a0_9, .int v0_10, .ref a0_11, .ref a0_12, .ref a0_13, .ref a0_14, .int v0_15, .ref a0_16]))] s.heap := hP
  have hl := lv_entry ([.ref o8, .int p1, .int p2, .int p3, .int p4, .int p5]) (n := 6) (Nat.le_of_ble_eq_true rfl)
  rw [lg_entry_eq]
  generalize (lg_sl ([.ref o8, .int p1, .int p2, .int p3, .int p4, .int p5]) ++ List.replicate (6 - (lg_sl ([.ref o8, .int p1, .int p2, .int p3, .int p4, .int p5])).length) Slot.unset).toArray = ls at hl ⊢
  have hl : lv_has ls 6 [(0, .ref o8), (1, .int p1), (2, .int p2), (3, .int p3), (4, .int p4), (5, .int p5)] := hl
  obtain ⟨H, hH⟩ : ∃ z, z = s.heap := ⟨_, rfl⟩
  refine x_here hH ?_
  have hP : va_P (dC, dI) vwCl [(o8, .inr (8, [.ref o7, .ref o4, .ref o0, .ref o1, .ref o3, .ref o2])), (o7, .inr (7, [.ref a7_0, .ref a7_1, .int v7_2])), (a7_1, .inl (cyZ, 200, .inl g7_1)), (o0, .inr (0, [.int v0_0, .int v0_1, .int v0_2, .int v0_3, .int v0_4, .ref a0_5, .int v0_6, .ref a0_7, .ref a0_8, .ref a0_9, .int v0_10, .ref a0_11, .ref a0_12, .ref a0_13, .ref a0_14, .int v0_15, .ref a0_16]))] H := by rw [hH]; exact hP
  have hS : va_S A s.heap H [] := by rw [hH]; exact va_S.rf
  clear hH
  obtain ⟨locs, hlo⟩ : ∃ z : List Loc, z = [] := ⟨_, rfl⟩
  refine x_herl hlo ?_
  have hS : va_S A s.heap H locs := by rw [hlo]; exact hS
  clear hlo
  unfold f_X8_method at hf
  refine lv_aload_n hx hb dX8_method_0 rfl (lv_at hl 0 rfl) ?_
  refine va_get (D := (dC, dI)) (ci := 8) (v := .ref o7) (C := RX8) (T := TX8) (N := 6) hx hb hts i_X8_method_X8 hown hK hP 0 rfl rfl 0 (by decide) k_1 (fun _ h9 => h9) rfl dX8_method_1 ?_
  refine lv_iload_n hx hb dX8_method_4 rfl (lv_at hl 1 rfl) ?_
  obtain ⟨r_1, h_1, hf⟩ := x_bi hf
  have hPc := hP.sub (ws' := [(o7, .inr (7, [.ref a7_0, .ref a7_1, .int v7_2]))]) [1] rfl
  refine va_calli (va_runV (As := [.int p1]) (rest := []) ⟨hx, hb, hml, hown, hts⟩ (c_X7_isClass l dC dI cyI cyZ cyJ H.size o7 a7_0 a7_1 v7_2 p1 r_1 h_1) (cwV 1 hts gX8_method_X7_isClass rfl rfl rfl (by decide +kernel) ⟨Nat.le_of_ble_eq_true rfl, Nat.le_of_ble_eq_true rfl⟩) (x_pV hN hK hPc (ci := 7) (q0 := 0) rfl rfl) rfl rfl hl.1 rfl (lv_room (Nat.le_of_ble_eq_true rfl)) dX8_method_5 ⟨Nat.le_of_ble_eq_true rfl, Nat.le_of_ble_eq_true rfl⟩) hS x_nA (x_nf hA hS) (fun q_1 u t H1 locs ht hvm hw hB hz1 hk1 hS => ?_)
  have hP := x_kp hP hk1
  clear ht hvm hB hz1 hk1 t u hPc
  generalize H1 = H at hP hS ⊢
  obtain ⟨hw, b_1⟩ := hw
  obtain rfl := hw.symm
  refine lv_if_eq (tgt := 31) hx hb dX8_method_8 (by decide) (fun c_2 => ?_) (fun c_2 => ?_)
  · replace hf := x_ip c_2 hf
    obtain rfl := Option.some.inj hf
    obtain ⟨sa, hsa⟩ := hG.2.2.1 (125, "no CLASS, no such how, or no result") (by decide)
    have hP9 := hP.sub (ws' := [(o8, .inr (8, [.ref o7, .ref o4, .ref o0, .ref o1, .ref o3, .ref o2])), (o7, .inr (7, [.ref a7_0, .ref a7_1, .int v7_2])), (a7_1, .inl (cyZ, 200, .inl g7_1)), (o0, .inr (0, [.int v0_0, .int v0_1, .int v0_2, .int v0_3, .int v0_4, .ref a0_5, .int v0_6, .ref a0_7, .ref a0_8, .ref a0_9, .int v0_10, .ref a0_11, .ref a0_12, .ref a0_13, .ref a0_14, .int v0_15, .ref a0_16]))]) [0, 1, 2, 3] rfl
    have hD9 := hD.sub (ws' := [(o8, .inr (8, [.ref o7, .ref o4, .ref o0, .ref o1, .ref o3, .ref o2])), (o7, .inr (7, [.ref a7_0, .ref a7_1, .int v7_2])), (a7_1, .inl (cyZ, 200, .inl g7_1)), (o0, .inr (0, [.int v0_0, .int v0_1, .int v0_2, .int v0_3, .int v0_4, .ref a0_5, .int v0_6, .ref a0_7, .ref a0_8, .ref a0_9, .int v0_10, .ref a0_11, .ref a0_12, .ref a0_13, .ref a0_14, .int v0_15, .ref a0_16]))]) [0, 1, 2, 3] (by decide) rfl
    refine vx_throwS (cls := "java/lang/IllegalArgumentException") (names := ["java/lang/RuntimeException", "java/lang/Exception"]) hx hb hl9 hown (by decide +kernel) (by decide +kernel) k_2 k_3 hsa (x_at1 hG.2.2.2 hts_1) (by decide +kernel) (hG.1.narrow hAb) (hG.2.1.narrow hAb) hS (hl.1.trans hml.symm) dX8_method_31 dX8_method_34 dX8_method_35 dX8_method_37 dX8_method_40 (fun z hz => (hno z hz).elim) (Nat.le_of_ble_eq_true rfl) (Nat.le_of_ble_eq_true rfl) (Nat.le_of_ble_eq_true rfl) (Nat.le_of_ble_eq_true rfl) hlocks (fun t ha h1 h2 => ⟨(), trivial, ⟨⟨rfl, rfl⟩, x_kp hP9 (fun q h _ => h2 q h), va_K.moved ha hK, hD9⟩, x_mv hS h1 h2⟩) hS.2.2 (Nat.le_of_ble_eq_true rfl) (Nat.le_of_ble_eq_true rfl)
  · replace hf := x_in c_2 hf
    refine lv_iload_n hx hb dX8_method_11 rfl (lv_at hl 2 rfl) ?_
    refine lv_if_lt (tgt := 31) hx hb dX8_method_12 (by decide) (fun c_3 => ?_) (fun c_3 => ?_)
    · replace hf := x_ip c_3 hf
      obtain rfl := Option.some.inj hf
      obtain ⟨sa, hsa⟩ := hG.2.2.1 (125, "no CLASS, no such how, or no result") (by decide)
      have hP9 := hP.sub (ws' := [(o8, .inr (8, [.ref o7, .ref o4, .ref o0, .ref o1, .ref o3, .ref o2])), (o7, .inr (7, [.ref a7_0, .ref a7_1, .int v7_2])), (a7_1, .inl (cyZ, 200, .inl g7_1)), (o0, .inr (0, [.int v0_0, .int v0_1, .int v0_2, .int v0_3, .int v0_4, .ref a0_5, .int v0_6, .ref a0_7, .ref a0_8, .ref a0_9, .int v0_10, .ref a0_11, .ref a0_12, .ref a0_13, .ref a0_14, .int v0_15, .ref a0_16]))]) [0, 1, 2, 3] rfl
      have hD9 := hD.sub (ws' := [(o8, .inr (8, [.ref o7, .ref o4, .ref o0, .ref o1, .ref o3, .ref o2])), (o7, .inr (7, [.ref a7_0, .ref a7_1, .int v7_2])), (a7_1, .inl (cyZ, 200, .inl g7_1)), (o0, .inr (0, [.int v0_0, .int v0_1, .int v0_2, .int v0_3, .int v0_4, .ref a0_5, .int v0_6, .ref a0_7, .ref a0_8, .ref a0_9, .int v0_10, .ref a0_11, .ref a0_12, .ref a0_13, .ref a0_14, .int v0_15, .ref a0_16]))]) [0, 1, 2, 3] (by decide) rfl
      refine vx_throwS (cls := "java/lang/IllegalArgumentException") (names := ["java/lang/RuntimeException", "java/lang/Exception"]) hx hb hl9 hown (by decide +kernel) (by decide +kernel) k_2 k_3 hsa (x_at1 hG.2.2.2 hts_1) (by decide +kernel) (hG.1.narrow hAb) (hG.2.1.narrow hAb) hS (hl.1.trans hml.symm) dX8_method_31 dX8_method_34 dX8_method_35 dX8_method_37 dX8_method_40 (fun z hz => (hno z hz).elim) (Nat.le_of_ble_eq_true rfl) (Nat.le_of_ble_eq_true rfl) (Nat.le_of_ble_eq_true rfl) (Nat.le_of_ble_eq_true rfl) hlocks (fun t ha h1 h2 => ⟨(), trivial, ⟨⟨rfl, rfl⟩, x_kp hP9 (fun q h _ => h2 q h), va_K.moved ha hK, hD9⟩, x_mv hS h1 h2⟩) hS.2.2 (Nat.le_of_ble_eq_true rfl) (Nat.le_of_ble_eq_true rfl)
    · replace hf := x_in c_3 hf
      refine lv_iload_n hx hb dX8_method_15 rfl (lv_at hl 2 rfl) ?_
      refine lv_iconst (v := 2) hx hb dX8_method_16 (by decide) ?_
      refine lv_icmp_gt (tgt := 31) hx hb dX8_method_17 (by decide) (fun c_4 => ?_) (fun c_4 => ?_)
      · replace hf := x_ip c_4 hf
        obtain rfl := Option.some.inj hf
        obtain ⟨sa, hsa⟩ := hG.2.2.1 (125, "no CLASS, no such how, or no result") (by decide)
        have hP9 := hP.sub (ws' := [(o8, .inr (8, [.ref o7, .ref o4, .ref o0, .ref o1, .ref o3, .ref o2])), (o7, .inr (7, [.ref a7_0, .ref a7_1, .int v7_2])), (a7_1, .inl (cyZ, 200, .inl g7_1)), (o0, .inr (0, [.int v0_0, .int v0_1, .int v0_2, .int v0_3, .int v0_4, .ref a0_5, .int v0_6, .ref a0_7, .ref a0_8, .ref a0_9, .int v0_10, .ref a0_11, .ref a0_12, .ref a0_13, .ref a0_14, .int v0_15, .ref a0_16]))]) [0, 1, 2, 3] rfl
        have hD9 := hD.sub (ws' := [(o8, .inr (8, [.ref o7, .ref o4, .ref o0, .ref o1, .ref o3, .ref o2])), (o7, .inr (7, [.ref a7_0, .ref a7_1, .int v7_2])), (a7_1, .inl (cyZ, 200, .inl g7_1)), (o0, .inr (0, [.int v0_0, .int v0_1, .int v0_2, .int v0_3, .int v0_4, .ref a0_5, .int v0_6, .ref a0_7, .ref a0_8, .ref a0_9, .int v0_10, .ref a0_11, .ref a0_12, .ref a0_13, .ref a0_14, .int v0_15, .ref a0_16]))]) [0, 1, 2, 3] (by decide) rfl
        refine vx_throwS (cls := "java/lang/IllegalArgumentException") (names := ["java/lang/RuntimeException", "java/lang/Exception"]) hx hb hl9 hown (by decide +kernel) (by decide +kernel) k_2 k_3 hsa (x_at1 hG.2.2.2 hts_1) (by decide +kernel) (hG.1.narrow hAb) (hG.2.1.narrow hAb) hS (hl.1.trans hml.symm) dX8_method_31 dX8_method_34 dX8_method_35 dX8_method_37 dX8_method_40 (fun z hz => (hno z hz).elim) (Nat.le_of_ble_eq_true rfl) (Nat.le_of_ble_eq_true rfl) (Nat.le_of_ble_eq_true rfl) (Nat.le_of_ble_eq_true rfl) hlocks (fun t ha h1 h2 => ⟨(), trivial, ⟨⟨rfl, rfl⟩, x_kp hP9 (fun q h _ => h2 q h), va_K.moved ha hK, hD9⟩, x_mv hS h1 h2⟩) hS.2.2 (Nat.le_of_ble_eq_true rfl) (Nat.le_of_ble_eq_true rfl)
      · replace hf := x_in c_4 hf
        refine lv_aload_n hx hb dX8_method_20 rfl (lv_at hl 0 rfl) ?_
        refine va_get (D := (dC, dI)) (ci := 8) (v := .ref o7) (C := RX8) (T := TX8) (N := 6) hx hb hts i_X8_method_X8 hown hK hP 0 rfl rfl 0 (by decide) k_1 (fun _ h9 => h9) rfl dX8_method_21 ?_
        refine lv_iload_n hx hb dX8_method_24 rfl (lv_at hl 3 rfl) ?_
        obtain ⟨r_5, h_5, hf⟩ := x_bi hf
        have hPc := hP.sub (ws' := [(o7, .inr (7, [.ref a7_0, .ref a7_1, .int v7_2]))]) [1] rfl
        refine va_calli (va_runV (As := [.int p3]) (rest := []) ⟨hx, hb, hml, hown, hts⟩ (c_X7_isResult l dC dI cyI cyZ cyJ H.size o7 a7_0 a7_1 v7_2 p3 r_5 h_5) (cwV 1 hts gX8_method_X7_isResult rfl rfl rfl (by decide +kernel) ⟨Nat.le_of_ble_eq_true rfl, Nat.le_of_ble_eq_true rfl⟩) (x_pV hN hK hPc (ci := 7) (q0 := 0) rfl rfl) rfl rfl hl.1 rfl (lv_room (Nat.le_of_ble_eq_true rfl)) dX8_method_25 ⟨Nat.le_of_ble_eq_true rfl, Nat.le_of_ble_eq_true rfl⟩) hS x_nA (x_nf hA hS) (fun q_5 u t H1 locs ht hvm hw hB hz1 hk1 hS => ?_)
        have hP := x_kp hP hk1
        clear ht hvm hB hz1 hk1 t u hPc
        generalize H1 = H at hP hS ⊢
        obtain ⟨hw, b_5⟩ := hw
        obtain rfl := hw.symm
        refine lv_if_ne (tgt := 41) hx hb dX8_method_28 (by decide) (fun c_6 => ?_) (fun c_6 => ?_)
        · replace hf := x_in c_6 hf
          refine lv_iload_n hx hb dX8_method_41 rfl (lv_at hl 2 rfl) ?_
          refine lv_iconst (v := 2) hx hb dX8_method_42 (by decide) ?_
          refine lv_icmp_ne (tgt := 73) hx hb dX8_method_43 (by decide) (fun c_7 => ?_) (fun c_7 => ?_)
          · replace hf := x_in c_7 hf
            refine lv_iload hx hb dX8_method_73 (lv_at hl 4 rfl) ?_
            refine lv_if_lt (tgt := 99) hx hb dX8_method_75 (by decide) (fun c_8 => ?_) (fun c_8 => ?_)
            · replace hf := x_ip c_8 hf
              obtain rfl := Option.some.inj hf
              obtain ⟨sa, hsa⟩ := hG.2.2.1 (127, "no such number of places") (by decide)
              have hP9 := hP.sub (ws' := [(o8, .inr (8, [.ref o7, .ref o4, .ref o0, .ref o1, .ref o3, .ref o2])), (o7, .inr (7, [.ref a7_0, .ref a7_1, .int v7_2])), (a7_1, .inl (cyZ, 200, .inl g7_1)), (o0, .inr (0, [.int v0_0, .int v0_1, .int v0_2, .int v0_3, .int v0_4, .ref a0_5, .int v0_6, .ref a0_7, .ref a0_8, .ref a0_9, .int v0_10, .ref a0_11, .ref a0_12, .ref a0_13, .ref a0_14, .int v0_15, .ref a0_16]))]) [0, 1, 2, 3] rfl
              have hD9 := hD.sub (ws' := [(o8, .inr (8, [.ref o7, .ref o4, .ref o0, .ref o1, .ref o3, .ref o2])), (o7, .inr (7, [.ref a7_0, .ref a7_1, .int v7_2])), (a7_1, .inl (cyZ, 200, .inl g7_1)), (o0, .inr (0, [.int v0_0, .int v0_1, .int v0_2, .int v0_3, .int v0_4, .ref a0_5, .int v0_6, .ref a0_7, .ref a0_8, .ref a0_9, .int v0_10, .ref a0_11, .ref a0_12, .ref a0_13, .ref a0_14, .int v0_15, .ref a0_16]))]) [0, 1, 2, 3] (by decide) rfl
              refine vx_throwS (cls := "java/lang/IllegalArgumentException") (names := ["java/lang/RuntimeException", "java/lang/Exception"]) hx hb hl9 hown (by decide +kernel) (by decide +kernel) k_2 k_3 hsa (x_at1 hG.2.2.2 hts_1) (by decide +kernel) (hG.1.narrow hAb) (hG.2.1.narrow hAb) hS (hl.1.trans hml.symm) dX8_method_99 dX8_method_102 dX8_method_103 dX8_method_105 dX8_method_108 (fun z hz => (hno z hz).elim) (Nat.le_of_ble_eq_true rfl) (Nat.le_of_ble_eq_true rfl) (Nat.le_of_ble_eq_true rfl) (Nat.le_of_ble_eq_true rfl) hlocks (fun t ha h1 h2 => ⟨(), trivial, ⟨⟨rfl, rfl⟩, x_kp hP9 (fun q h _ => h2 q h), va_K.moved ha hK, hD9⟩, x_mv hS h1 h2⟩) hS.2.2 (Nat.le_of_ble_eq_true rfl) (Nat.le_of_ble_eq_true rfl)
            · replace hf := x_in c_8 hf
              refine lv_iload hx hb dX8_method_78 (lv_at hl 4 rfl) ?_
              refine lv_sipush (v := 200) hx hb dX8_method_80 (by decide) ?_
              refine lv_icmp_gt (tgt := 99) hx hb dX8_method_83 (by decide) (fun c_9 => ?_) (fun c_9 => ?_)
              · replace hf := x_ip c_9 hf
                obtain rfl := Option.some.inj hf
                obtain ⟨sa, hsa⟩ := hG.2.2.1 (127, "no such number of places") (by decide)
                have hP9 := hP.sub (ws' := [(o8, .inr (8, [.ref o7, .ref o4, .ref o0, .ref o1, .ref o3, .ref o2])), (o7, .inr (7, [.ref a7_0, .ref a7_1, .int v7_2])), (a7_1, .inl (cyZ, 200, .inl g7_1)), (o0, .inr (0, [.int v0_0, .int v0_1, .int v0_2, .int v0_3, .int v0_4, .ref a0_5, .int v0_6, .ref a0_7, .ref a0_8, .ref a0_9, .int v0_10, .ref a0_11, .ref a0_12, .ref a0_13, .ref a0_14, .int v0_15, .ref a0_16]))]) [0, 1, 2, 3] rfl
                have hD9 := hD.sub (ws' := [(o8, .inr (8, [.ref o7, .ref o4, .ref o0, .ref o1, .ref o3, .ref o2])), (o7, .inr (7, [.ref a7_0, .ref a7_1, .int v7_2])), (a7_1, .inl (cyZ, 200, .inl g7_1)), (o0, .inr (0, [.int v0_0, .int v0_1, .int v0_2, .int v0_3, .int v0_4, .ref a0_5, .int v0_6, .ref a0_7, .ref a0_8, .ref a0_9, .int v0_10, .ref a0_11, .ref a0_12, .ref a0_13, .ref a0_14, .int v0_15, .ref a0_16]))]) [0, 1, 2, 3] (by decide) rfl
                refine vx_throwS (cls := "java/lang/IllegalArgumentException") (names := ["java/lang/RuntimeException", "java/lang/Exception"]) hx hb hl9 hown (by decide +kernel) (by decide +kernel) k_2 k_3 hsa (x_at1 hG.2.2.2 hts_1) (by decide +kernel) (hG.1.narrow hAb) (hG.2.1.narrow hAb) hS (hl.1.trans hml.symm) dX8_method_99 dX8_method_102 dX8_method_103 dX8_method_105 dX8_method_108 (fun z hz => (hno z hz).elim) (Nat.le_of_ble_eq_true rfl) (Nat.le_of_ble_eq_true rfl) (Nat.le_of_ble_eq_true rfl) (Nat.le_of_ble_eq_true rfl) hlocks (fun t ha h1 h2 => ⟨(), trivial, ⟨⟨rfl, rfl⟩, x_kp hP9 (fun q h _ => h2 q h), va_K.moved ha hK, hD9⟩, x_mv hS h1 h2⟩) hS.2.2 (Nat.le_of_ble_eq_true rfl) (Nat.le_of_ble_eq_true rfl)
              · replace hf := x_in c_9 hf
                refine lv_iload hx hb dX8_method_86 (lv_at hl 5 rfl) ?_
                refine lv_if_lt (tgt := 99) hx hb dX8_method_88 (by decide) (fun c_10 => ?_) (fun c_10 => ?_)
                · replace hf := x_ip c_10 hf
                  obtain rfl := Option.some.inj hf
                  obtain ⟨sa, hsa⟩ := hG.2.2.1 (127, "no such number of places") (by decide)
                  have hP9 := hP.sub (ws' := [(o8, .inr (8, [.ref o7, .ref o4, .ref o0, .ref o1, .ref o3, .ref o2])), (o7, .inr (7, [.ref a7_0, .ref a7_1, .int v7_2])), (a7_1, .inl (cyZ, 200, .inl g7_1)), (o0, .inr (0, [.int v0_0, .int v0_1, .int v0_2, .int v0_3, .int v0_4, .ref a0_5, .int v0_6, .ref a0_7, .ref a0_8, .ref a0_9, .int v0_10, .ref a0_11, .ref a0_12, .ref a0_13, .ref a0_14, .int v0_15, .ref a0_16]))]) [0, 1, 2, 3] rfl
                  have hD9 := hD.sub (ws' := [(o8, .inr (8, [.ref o7, .ref o4, .ref o0, .ref o1, .ref o3, .ref o2])), (o7, .inr (7, [.ref a7_0, .ref a7_1, .int v7_2])), (a7_1, .inl (cyZ, 200, .inl g7_1)), (o0, .inr (0, [.int v0_0, .int v0_1, .int v0_2, .int v0_3, .int v0_4, .ref a0_5, .int v0_6, .ref a0_7, .ref a0_8, .ref a0_9, .int v0_10, .ref a0_11, .ref a0_12, .ref a0_13, .ref a0_14, .int v0_15, .ref a0_16]))]) [0, 1, 2, 3] (by decide) rfl
                  refine vx_throwS (cls := "java/lang/IllegalArgumentException") (names := ["java/lang/RuntimeException", "java/lang/Exception"]) hx hb hl9 hown (by decide +kernel) (by decide +kernel) k_2 k_3 hsa (x_at1 hG.2.2.2 hts_1) (by decide +kernel) (hG.1.narrow hAb) (hG.2.1.narrow hAb) hS (hl.1.trans hml.symm) dX8_method_99 dX8_method_102 dX8_method_103 dX8_method_105 dX8_method_108 (fun z hz => (hno z hz).elim) (Nat.le_of_ble_eq_true rfl) (Nat.le_of_ble_eq_true rfl) (Nat.le_of_ble_eq_true rfl) (Nat.le_of_ble_eq_true rfl) hlocks (fun t ha h1 h2 => ⟨(), trivial, ⟨⟨rfl, rfl⟩, x_kp hP9 (fun q h _ => h2 q h), va_K.moved ha hK, hD9⟩, x_mv hS h1 h2⟩) hS.2.2 (Nat.le_of_ble_eq_true rfl) (Nat.le_of_ble_eq_true rfl)
                · replace hf := x_in c_10 hf
                  refine lv_iload hx hb dX8_method_91 (lv_at hl 5 rfl) ?_
                  refine lv_sipush (v := 200) hx hb dX8_method_93 (by decide) ?_
                  refine lv_icmp_le (tgt := 109) hx hb dX8_method_96 (by decide) (fun c_11 => ?_) (fun c_11 => ?_)
                  · replace hf := x_ip c_11 hf
                    refine lv_aload_n hx hb dX8_method_109 rfl (lv_at hl 0 rfl) ?_
                    refine va_get (D := (dC, dI)) (ci := 8) (v := .ref o0) (C := RX8) (T := TX8) (N := 6) hx hb hts i_X8_method_X8 hown hK hP 0 rfl rfl 2 (by decide) k_4 (fun _ h9 => h9) rfl dX8_method_110 ?_
                    refine lv_iload_n hx hb dX8_method_113 rfl (lv_at hl 1 rfl) ?_
                    refine lv_iload_n hx hb dX8_method_114 rfl (lv_at hl 2 rfl) ?_
                    refine lv_iload_n hx hb dX8_method_115 rfl (lv_at hl 3 rfl) ?_
                    refine lv_iload hx hb dX8_method_116 (lv_at hl 4 rfl) ?_
                    refine lv_iload hx hb dX8_method_118 (lv_at hl 5 rfl) ?_
                    obtain ⟨r_12, h_12, hf⟩ := x_bi hf
                    have hPc := hP.sub (ws' := [(o0, .inr (0, [.int v0_0, .int v0_1, .int v0_2, .int v0_3, .int v0_4, .ref a0_5, .int v0_6, .ref a0_7, .ref a0_8, .ref a0_9, .int v0_10, .ref a0_11, .ref a0_12, .ref a0_13, .ref a0_14, .int v0_15, .ref a0_16]))]) [3] rfl
                    have hDc := hD.sub (ws' := [(o0, .inr (0, [.int v0_0, .int v0_1, .int v0_2, .int v0_3, .int v0_4, .ref a0_5, .int v0_6, .ref a0_7, .ref a0_8, .ref a0_9, .int v0_10, .ref a0_11, .ref a0_12, .ref a0_13, .ref a0_14, .int v0_15, .ref a0_16]))]) [3] (by decide) rfl
                    have hFc := va_free (wc := [(o0, .inr (0, [.int v0_0, .int v0_1, .int v0_2, .int v0_3, .int v0_4, .ref a0_5, .int v0_6, .ref a0_7, .ref a0_8, .ref a0_9, .int v0_10, .ref a0_11, .ref a0_12, .ref a0_13, .ref a0_14, .int v0_15, .ref a0_16]))]) hD hS hA [3] rfl
                    refine va_callv (va_runV (As := [.int p1, .int p2, .int p3, .int p4, .int p5]) (rest := []) ⟨hx, hb, hml, hown, hts⟩ (c_X0_begin l dC dI cyI cyZ cyJ H.size o0 v0_0 v0_1 v0_2 v0_3 v0_4 a0_5 v0_6 a0_7 a0_8 a0_9 v0_10 a0_11 a0_12 a0_13 a0_14 v0_15 a0_16 p1 p2 p3 p4 p5 r_12 h_12) (cwV 5 hts gX8_method_X0_begin rfl rfl rfl (by decide +kernel) ⟨Nat.le_of_ble_eq_true rfl, Nat.le_of_ble_eq_true rfl⟩) (x_pVD hN hK hPc hDc (ci := 0) (q0 := 0) rfl rfl) rfl rfl hl.1 rfl (lv_room (Nat.le_of_ble_eq_true rfl)) dX8_method_120 ⟨Nat.le_of_ble_eq_true rfl, Nat.le_of_ble_eq_true rfl⟩) hS (fun q _ h => hFc q h) hFc (fun u t H1 locs ht hvm hw hB hz1 hk1 hS => ?_)
                    obtain ⟨hP1, hK1, hD1⟩ := hB
                    rw [ht] at hP1
                    obtain ⟨hP, hD⟩ := va_join (wr := [(o8, .inr (8, [.ref o7, .ref o4, .ref o0, .ref o1, .ref o3, .ref o2])), (o7, .inr (7, [.ref a7_0, .ref a7_1, .int v7_2])), (a7_1, .inl (cyZ, 200, .inl g7_1))]) (w1 := [(o0, .inr (0, [.int (r_12.1), .int (r_12.2.1), .int (r_12.2.2.1), .int (r_12.2.2.2.1), .int (r_12.2.2.2.2.1), .ref a0_5, .int (r_12.2.2.2.2.2.1), .ref a0_7, .ref a0_8, .ref a0_9, .int (r_12.2.2.2.2.2.2.1), .ref a0_11, .ref a0_12, .ref a0_13, .ref a0_14, .int (r_12.2.2.2.2.2.2.2), .ref a0_16]))]) hP hD [3] [0, 1, 2] rfl rfl (by decide) (by decide) hk1 hFc hP1 hD1
                    clear hz1 hk1 hPc hDc hFc hP1 hK1 hD1 ht hvm t u
                    generalize H1 = H at hP hS ⊢
                    have hP : va_P (dC, dI) vwCl [(o8, .inr (8, [.ref o7, .ref o4, .ref o0, .ref o1, .ref o3, .ref o2])), (o7, .inr (7, [.ref a7_0, .ref a7_1, .int v7_2])), (a7_1, .inl (cyZ, 200, .inl g7_1)), (o0, .inr (0, [.int (r_12.1), .int (r_12.2.1), .int (r_12.2.2.1), .int (r_12.2.2.2.1), .int (r_12.2.2.2.2.1), .ref a0_5, .int (r_12.2.2.2.2.2.1), .ref a0_7, .ref a0_8, .ref a0_9, .int (r_12.2.2.2.2.2.2.1), .ref a0_11, .ref a0_12, .ref a0_13, .ref a0_14, .int (r_12.2.2.2.2.2.2.2), .ref a0_16]))] H := hP
                    have hD : va_D A [(o8, .inr (8, [.ref o7, .ref o4, .ref o0, .ref o1, .ref o3, .ref o2])), (o7, .inr (7, [.ref a7_0, .ref a7_1, .int v7_2])), (a7_1, .inl (cyZ, 200, .inl g7_1)), (o0, .inr (0, [.int (r_12.1), .int (r_12.2.1), .int (r_12.2.2.1), .int (r_12.2.2.2.1), .int (r_12.2.2.2.2.1), .ref a0_5, .int (r_12.2.2.2.2.2.1), .ref a0_7, .ref a0_8, .ref a0_9, .int (r_12.2.2.2.2.2.2.1), .ref a0_11, .ref a0_12, .ref a0_13, .ref a0_14, .int (r_12.2.2.2.2.2.2.2), .ref a0_16]))] := hD
                    refine lv_iconst (v := 0) hx hb dX8_method_123 (by decide) ?_
                    obtain rfl := Option.some.inj hf
                    have hP9 := hP.sub (ws' := [(o8, .inr (8, [.ref o7, .ref o4, .ref o0, .ref o1, .ref o3, .ref o2])), (o7, .inr (7, [.ref a7_0, .ref a7_1, .int v7_2])), (a7_1, .inl (cyZ, 200, .inl g7_1)), (o0, .inr (0, [.int (r_12.1), .int (r_12.2.1), .int (r_12.2.2.1), .int (r_12.2.2.2.1), .int (r_12.2.2.2.2.1), .ref a0_5, .int (r_12.2.2.2.2.2.1), .ref a0_7, .ref a0_8, .ref a0_9, .int (r_12.2.2.2.2.2.2.1), .ref a0_11, .ref a0_12, .ref a0_13, .ref a0_14, .int (r_12.2.2.2.2.2.2.2), .ref a0_16]))]) [0, 1, 2, 3] rfl
                    have hD9 := hD.sub (ws' := [(o8, .inr (8, [.ref o7, .ref o4, .ref o0, .ref o1, .ref o3, .ref o2])), (o7, .inr (7, [.ref a7_0, .ref a7_1, .int v7_2])), (a7_1, .inl (cyZ, 200, .inl g7_1)), (o0, .inr (0, [.int (r_12.1), .int (r_12.2.1), .int (r_12.2.2.1), .int (r_12.2.2.2.1), .int (r_12.2.2.2.2.1), .ref a0_5, .int (r_12.2.2.2.2.2.1), .ref a0_7, .ref a0_8, .ref a0_9, .int (r_12.2.2.2.2.2.2.1), .ref a0_11, .ref a0_12, .ref a0_13, .ref a0_14, .int (r_12.2.2.2.2.2.2.2), .ref a0_16]))]) [0, 1, 2, 3] (by decide) rfl
                    refine vx_ret ?_
                    refine W.widen (k := 1) (n := 6) (Nat.le_of_ble_eq_true rfl) (Nat.le_of_ble_eq_true rfl) ?_
                    exact W.iret hx hb hr (fun t ht hW => ⟨⟨_, (), rfl, ⟨rfl, rfl⟩, by rw [ht]; exact hP9, va_K.moved hW.alike hK, hD9⟩, hS.F ht⟩) hS.2.2 dX8_method_124
                  · replace hf := x_in c_11 hf
                    obtain rfl := Option.some.inj hf
                    obtain ⟨sa, hsa⟩ := hG.2.2.1 (127, "no such number of places") (by decide)
                    have hP9 := hP.sub (ws' := [(o8, .inr (8, [.ref o7, .ref o4, .ref o0, .ref o1, .ref o3, .ref o2])), (o7, .inr (7, [.ref a7_0, .ref a7_1, .int v7_2])), (a7_1, .inl (cyZ, 200, .inl g7_1)), (o0, .inr (0, [.int v0_0, .int v0_1, .int v0_2, .int v0_3, .int v0_4, .ref a0_5, .int v0_6, .ref a0_7, .ref a0_8, .ref a0_9, .int v0_10, .ref a0_11, .ref a0_12, .ref a0_13, .ref a0_14, .int v0_15, .ref a0_16]))]) [0, 1, 2, 3] rfl
                    have hD9 := hD.sub (ws' := [(o8, .inr (8, [.ref o7, .ref o4, .ref o0, .ref o1, .ref o3, .ref o2])), (o7, .inr (7, [.ref a7_0, .ref a7_1, .int v7_2])), (a7_1, .inl (cyZ, 200, .inl g7_1)), (o0, .inr (0, [.int v0_0, .int v0_1, .int v0_2, .int v0_3, .int v0_4, .ref a0_5, .int v0_6, .ref a0_7, .ref a0_8, .ref a0_9, .int v0_10, .ref a0_11, .ref a0_12, .ref a0_13, .ref a0_14, .int v0_15, .ref a0_16]))]) [0, 1, 2, 3] (by decide) rfl
                    refine vx_throwS (cls := "java/lang/IllegalArgumentException") (names := ["java/lang/RuntimeException", "java/lang/Exception"]) hx hb hl9 hown (by decide +kernel) (by decide +kernel) k_2 k_3 hsa (x_at1 hG.2.2.2 hts_1) (by decide +kernel) (hG.1.narrow hAb) (hG.2.1.narrow hAb) hS (hl.1.trans hml.symm) dX8_method_99 dX8_method_102 dX8_method_103 dX8_method_105 dX8_method_108 (fun z hz => (hno z hz).elim) (Nat.le_of_ble_eq_true rfl) (Nat.le_of_ble_eq_true rfl) (Nat.le_of_ble_eq_true rfl) (Nat.le_of_ble_eq_true rfl) hlocks (fun t ha h1 h2 => ⟨(), trivial, ⟨⟨rfl, rfl⟩, x_kp hP9 (fun q h _ => h2 q h), va_K.moved ha hK, hD9⟩, x_mv hS h1 h2⟩) hS.2.2 (Nat.le_of_ble_eq_true rfl) (Nat.le_of_ble_eq_true rfl)
          · replace hf := x_ip c_7 hf
            refine lv_iload_n hx hb dX8_method_46 rfl (lv_at hl 3 rfl) ?_
            refine lv_iconst (v := (-1)) hx hb dX8_method_47 (by decide) ?_
            refine lv_icmp_ne (tgt := 63) hx hb dX8_method_48 (by decide) (fun c_13 => ?_) (fun c_13 => ?_)
            · replace hf := x_in c_13 hf
              obtain rfl := Option.some.inj hf
              obtain ⟨sa, hsa⟩ := hG.2.2.1 (102, "no constructor is like this") (by decide)
              have hP9 := hP.sub (ws' := [(o8, .inr (8, [.ref o7, .ref o4, .ref o0, .ref o1, .ref o3, .ref o2])), (o7, .inr (7, [.ref a7_0, .ref a7_1, .int v7_2])), (a7_1, .inl (cyZ, 200, .inl g7_1)), (o0, .inr (0, [.int v0_0, .int v0_1, .int v0_2, .int v0_3, .int v0_4, .ref a0_5, .int v0_6, .ref a0_7, .ref a0_8, .ref a0_9, .int v0_10, .ref a0_11, .ref a0_12, .ref a0_13, .ref a0_14, .int v0_15, .ref a0_16]))]) [0, 1, 2, 3] rfl
              have hD9 := hD.sub (ws' := [(o8, .inr (8, [.ref o7, .ref o4, .ref o0, .ref o1, .ref o3, .ref o2])), (o7, .inr (7, [.ref a7_0, .ref a7_1, .int v7_2])), (a7_1, .inl (cyZ, 200, .inl g7_1)), (o0, .inr (0, [.int v0_0, .int v0_1, .int v0_2, .int v0_3, .int v0_4, .ref a0_5, .int v0_6, .ref a0_7, .ref a0_8, .ref a0_9, .int v0_10, .ref a0_11, .ref a0_12, .ref a0_13, .ref a0_14, .int v0_15, .ref a0_16]))]) [0, 1, 2, 3] (by decide) rfl
              refine vx_throwS (cls := "java/lang/IllegalArgumentException") (names := ["java/lang/RuntimeException", "java/lang/Exception"]) hx hb hl9 hown (by decide +kernel) (by decide +kernel) k_2 k_3 hsa (x_at1 hG.2.2.2 hts_1) (by decide +kernel) (hG.1.narrow hAb) (hG.2.1.narrow hAb) hS (hl.1.trans hml.symm) dX8_method_63 dX8_method_66 dX8_method_67 dX8_method_69 dX8_method_72 (fun z hz => (hno z hz).elim) (Nat.le_of_ble_eq_true rfl) (Nat.le_of_ble_eq_true rfl) (Nat.le_of_ble_eq_true rfl) (Nat.le_of_ble_eq_true rfl) hlocks (fun t ha h1 h2 => ⟨(), trivial, ⟨⟨rfl, rfl⟩, x_kp hP9 (fun q h _ => h2 q h), va_K.moved ha hK, hD9⟩, x_mv hS h1 h2⟩) hS.2.2 (Nat.le_of_ble_eq_true rfl) (Nat.le_of_ble_eq_true rfl)
            · replace hf := x_ip c_13 hf
              refine lv_aload_n hx hb dX8_method_51 rfl (lv_at hl 0 rfl) ?_
              refine va_get (D := (dC, dI)) (ci := 8) (v := .ref o7) (C := RX8) (T := TX8) (N := 6) hx hb hts i_X8_method_X8 hown hK hP 0 rfl rfl 0 (by decide) k_1 (fun _ h9 => h9) rfl dX8_method_52 ?_
              refine va_getN (D := (dC, dI)) (ci := 7) (v := .ref a7_1) (C := RX7) (T := TX7) (N := 3) hx hb hts i_X8_method_X7 hown hK hP 1 rfl rfl 1 (by decide) ((hN.1 ("FlowJudge", 59, "FlowJudge$Types", "isInterface", "[Z") (List.mem_of_getElem? (i := 0) rfl)).use rfl) (fun _ h9 => h9) rfl dX8_method_55 ?_
              refine lv_iload_n hx hb dX8_method_58 rfl (lv_at hl 1 rfl) ?_
              obtain ⟨g_14, hf⟩ := x_gu hf
              refine va_zald hx hb hK hP 2 1 rfl rfl (x_gdin g_14) dX8_method_59 ?_
              refine lv_if_eq (tgt := 73) hx hb dX8_method_60 (by decide) (fun c_15 => ?_) (fun c_15 => ?_)
              · replace hf := x_ip c_15 hf
                refine lv_iload hx hb dX8_method_73 (lv_at hl 4 rfl) ?_
                refine lv_if_lt (tgt := 99) hx hb dX8_method_75 (by decide) (fun c_16 => ?_) (fun c_16 => ?_)
                · replace hf := x_ip c_16 hf
                  obtain rfl := Option.some.inj hf
                  obtain ⟨sa, hsa⟩ := hG.2.2.1 (127, "no such number of places") (by decide)
                  have hP9 := hP.sub (ws' := [(o8, .inr (8, [.ref o7, .ref o4, .ref o0, .ref o1, .ref o3, .ref o2])), (o7, .inr (7, [.ref a7_0, .ref a7_1, .int v7_2])), (a7_1, .inl (cyZ, 200, .inl g7_1)), (o0, .inr (0, [.int v0_0, .int v0_1, .int v0_2, .int v0_3, .int v0_4, .ref a0_5, .int v0_6, .ref a0_7, .ref a0_8, .ref a0_9, .int v0_10, .ref a0_11, .ref a0_12, .ref a0_13, .ref a0_14, .int v0_15, .ref a0_16]))]) [0, 1, 2, 3] rfl
                  have hD9 := hD.sub (ws' := [(o8, .inr (8, [.ref o7, .ref o4, .ref o0, .ref o1, .ref o3, .ref o2])), (o7, .inr (7, [.ref a7_0, .ref a7_1, .int v7_2])), (a7_1, .inl (cyZ, 200, .inl g7_1)), (o0, .inr (0, [.int v0_0, .int v0_1, .int v0_2, .int v0_3, .int v0_4, .ref a0_5, .int v0_6, .ref a0_7, .ref a0_8, .ref a0_9, .int v0_10, .ref a0_11, .ref a0_12, .ref a0_13, .ref a0_14, .int v0_15, .ref a0_16]))]) [0, 1, 2, 3] (by decide) rfl
                  refine vx_throwS (cls := "java/lang/IllegalArgumentException") (names := ["java/lang/RuntimeException", "java/lang/Exception"]) hx hb hl9 hown (by decide +kernel) (by decide +kernel) k_2 k_3 hsa (x_at1 hG.2.2.2 hts_1) (by decide +kernel) (hG.1.narrow hAb) (hG.2.1.narrow hAb) hS (hl.1.trans hml.symm) dX8_method_99 dX8_method_102 dX8_method_103 dX8_method_105 dX8_method_108 (fun z hz => (hno z hz).elim) (Nat.le_of_ble_eq_true rfl) (Nat.le_of_ble_eq_true rfl) (Nat.le_of_ble_eq_true rfl) (Nat.le_of_ble_eq_true rfl) hlocks (fun t ha h1 h2 => ⟨(), trivial, ⟨⟨rfl, rfl⟩, x_kp hP9 (fun q h _ => h2 q h), va_K.moved ha hK, hD9⟩, x_mv hS h1 h2⟩) hS.2.2 (Nat.le_of_ble_eq_true rfl) (Nat.le_of_ble_eq_true rfl)
                · replace hf := x_in c_16 hf
                  refine lv_iload hx hb dX8_method_78 (lv_at hl 4 rfl) ?_
                  refine lv_sipush (v := 200) hx hb dX8_method_80 (by decide) ?_
                  refine lv_icmp_gt (tgt := 99) hx hb dX8_method_83 (by decide) (fun c_17 => ?_) (fun c_17 => ?_)
                  · replace hf := x_ip c_17 hf
                    obtain rfl := Option.some.inj hf
                    obtain ⟨sa, hsa⟩ := hG.2.2.1 (127, "no such number of places") (by decide)
                    have hP9 := hP.sub (ws' := [(o8, .inr (8, [.ref o7, .ref o4, .ref o0, .ref o1, .ref o3, .ref o2])), (o7, .inr (7, [.ref a7_0, .ref a7_1, .int v7_2])), (a7_1, .inl (cyZ, 200, .inl g7_1)), (o0, .inr (0, [.int v0_0, .int v0_1, .int v0_2, .int v0_3, .int v0_4, .ref a0_5, .int v0_6, .ref a0_7, .ref a0_8, .ref a0_9, .int v0_10, .ref a0_11, .ref a0_12, .ref a0_13, .ref a0_14, .int v0_15, .ref a0_16]))]) [0, 1, 2, 3] rfl
                    have hD9 := hD.sub (ws' := [(o8, .inr (8, [.ref o7, .ref o4, .ref o0, .ref o1, .ref o3, .ref o2])), (o7, .inr (7, [.ref a7_0, .ref a7_1, .int v7_2])), (a7_1, .inl (cyZ, 200, .inl g7_1)), (o0, .inr (0, [.int v0_0, .int v0_1, .int v0_2, .int v0_3, .int v0_4, .ref a0_5, .int v0_6, .ref a0_7, .ref a0_8, .ref a0_9, .int v0_10, .ref a0_11, .ref a0_12, .ref a0_13, .ref a0_14, .int v0_15, .ref a0_16]))]) [0, 1, 2, 3] (by decide) rfl
                    refine vx_throwS (cls := "java/lang/IllegalArgumentException") (names := ["java/lang/RuntimeException", "java/lang/Exception"]) hx hb hl9 hown (by decide +kernel) (by decide +kernel) k_2 k_3 hsa (x_at1 hG.2.2.2 hts_1) (by decide +kernel) (hG.1.narrow hAb) (hG.2.1.narrow hAb) hS (hl.1.trans hml.symm) dX8_method_99 dX8_method_102 dX8_method_103 dX8_method_105 dX8_method_108 (fun z hz => (hno z hz).elim) (Nat.le_of_ble_eq_true rfl) (Nat.le_of_ble_eq_true rfl) (Nat.le_of_ble_eq_true rfl) (Nat.le_of_ble_eq_true rfl) hlocks (fun t ha h1 h2 => ⟨(), trivial, ⟨⟨rfl, rfl⟩, x_kp hP9 (fun q h _ => h2 q h), va_K.moved ha hK, hD9⟩, x_mv hS h1 h2⟩) hS.2.2 (Nat.le_of_ble_eq_true rfl) (Nat.le_of_ble_eq_true rfl)
                  · replace hf := x_in c_17 hf
                    refine lv_iload hx hb dX8_method_86 (lv_at hl 5 rfl) ?_
                    refine lv_if_lt (tgt := 99) hx hb dX8_method_88 (by decide) (fun c_18 => ?_) (fun c_18 => ?_)
                    · replace hf := x_ip c_18 hf
                      obtain rfl := Option.some.inj hf
                      obtain ⟨sa, hsa⟩ := hG.2.2.1 (127, "no such number of places") (by decide)
                      have hP9 := hP.sub (ws' := [(o8, .inr (8, [.ref o7, .ref o4, .ref o0, .ref o1, .ref o3, .ref o2])), (o7, .inr (7, [.ref a7_0, .ref a7_1, .int v7_2])), (a7_1, .inl (cyZ, 200, .inl g7_1)), (o0, .inr (0, [.int v0_0, .int v0_1, .int v0_2, .int v0_3, .int v0_4, .ref a0_5, .int v0_6, .ref a0_7, .ref a0_8, .ref a0_9, .int v0_10, .ref a0_11, .ref a0_12, .ref a0_13, .ref a0_14, .int v0_15, .ref a0_16]))]) [0, 1, 2, 3] rfl
                      have hD9 := hD.sub (ws' := [(o8, .inr (8, [.ref o7, .ref o4, .ref o0, .ref o1, .ref o3, .ref o2])), (o7, .inr (7, [.ref a7_0, .ref a7_1, .int v7_2])), (a7_1, .inl (cyZ, 200, .inl g7_1)), (o0, .inr (0, [.int v0_0, .int v0_1, .int v0_2, .int v0_3, .int v0_4, .ref a0_5, .int v0_6, .ref a0_7, .ref a0_8, .ref a0_9, .int v0_10, .ref a0_11, .ref a0_12, .ref a0_13, .ref a0_14, .int v0_15, .ref a0_16]))]) [0, 1, 2, 3] (by decide) rfl
                      refine vx_throwS (cls := "java/lang/IllegalArgumentException") (names := ["java/lang/RuntimeException", "java/lang/Exception"]) hx hb hl9 hown (by decide +kernel) (by decide +kernel) k_2 k_3 hsa (x_at1 hG.2.2.2 hts_1) (by decide +kernel) (hG.1.narrow hAb) (hG.2.1.narrow hAb) hS (hl.1.trans hml.symm) dX8_method_99 dX8_method_102 dX8_method_103 dX8_method_105 dX8_method_108 (fun z hz => (hno z hz).elim) (Nat.le_of_ble_eq_true rfl) (Nat.le_of_ble_eq_true rfl) (Nat.le_of_ble_eq_true rfl) (Nat.le_of_ble_eq_true rfl) hlocks (fun t ha h1 h2 => ⟨(), trivial, ⟨⟨rfl, rfl⟩, x_kp hP9 (fun q h _ => h2 q h), va_K.moved ha hK, hD9⟩, x_mv hS h1 h2⟩) hS.2.2 (Nat.le_of_ble_eq_true rfl) (Nat.le_of_ble_eq_true rfl)
                    · replace hf := x_in c_18 hf
                      refine lv_iload hx hb dX8_method_91 (lv_at hl 5 rfl) ?_
                      refine lv_sipush (v := 200) hx hb dX8_method_93 (by decide) ?_
                      refine lv_icmp_le (tgt := 109) hx hb dX8_method_96 (by decide) (fun c_19 => ?_) (fun c_19 => ?_)
                      · replace hf := x_ip c_19 hf
                        refine lv_aload_n hx hb dX8_method_109 rfl (lv_at hl 0 rfl) ?_
                        refine va_get (D := (dC, dI)) (ci := 8) (v := .ref o0) (C := RX8) (T := TX8) (N := 6) hx hb hts i_X8_method_X8 hown hK hP 0 rfl rfl 2 (by decide) k_4 (fun _ h9 => h9) rfl dX8_method_110 ?_
                        refine lv_iload_n hx hb dX8_method_113 rfl (lv_at hl 1 rfl) ?_
                        refine lv_iload_n hx hb dX8_method_114 rfl (lv_at hl 2 rfl) ?_
                        refine lv_iload_n hx hb dX8_method_115 rfl (lv_at hl 3 rfl) ?_
                        refine lv_iload hx hb dX8_method_116 (lv_at hl 4 rfl) ?_
                        refine lv_iload hx hb dX8_method_118 (lv_at hl 5 rfl) ?_
                        obtain ⟨r_20, h_20, hf⟩ := x_bi hf
                        have hPc := hP.sub (ws' := [(o0, .inr (0, [.int v0_0, .int v0_1, .int v0_2, .int v0_3, .int v0_4, .ref a0_5, .int v0_6, .ref a0_7, .ref a0_8, .ref a0_9, .int v0_10, .ref a0_11, .ref a0_12, .ref a0_13, .ref a0_14, .int v0_15, .ref a0_16]))]) [3] rfl
                        have hDc := hD.sub (ws' := [(o0, .inr (0, [.int v0_0, .int v0_1, .int v0_2, .int v0_3, .int v0_4, .ref a0_5, .int v0_6, .ref a0_7, .ref a0_8, .ref a0_9, .int v0_10, .ref a0_11, .ref a0_12, .ref a0_13, .ref a0_14, .int v0_15, .ref a0_16]))]) [3] (by decide) rfl
                        have hFc := va_free (wc := [(o0, .inr (0, [.int v0_0, .int v0_1, .int v0_2, .int v0_3, .int v0_4, .ref a0_5, .int v0_6, .ref a0_7, .ref a0_8, .ref a0_9, .int v0_10, .ref a0_11, .ref a0_12, .ref a0_13, .ref a0_14, .int v0_15, .ref a0_16]))]) hD hS hA [3] rfl
                        refine va_callv (va_runV (As := [.int p1, .int p2, .int p3, .int p4, .int p5]) (rest := []) ⟨hx, hb, hml, hown, hts⟩ (c_X0_begin l dC dI cyI cyZ cyJ H.size o0 v0_0 v0_1 v0_2 v0_3 v0_4 a0_5 v0_6 a0_7 a0_8 a0_9 v0_10 a0_11 a0_12 a0_13 a0_14 v0_15 a0_16 p1 p2 p3 p4 p5 r_20 h_20) (cwV 5 hts gX8_method_X0_begin rfl rfl rfl (by decide +kernel) ⟨Nat.le_of_ble_eq_true rfl, Nat.le_of_ble_eq_true rfl⟩) (x_pVD hN hK hPc hDc (ci := 0) (q0 := 0) rfl rfl) rfl rfl hl.1 rfl (lv_room (Nat.le_of_ble_eq_true rfl)) dX8_method_120 ⟨Nat.le_of_ble_eq_true rfl, Nat.le_of_ble_eq_true rfl⟩) hS (fun q _ h => hFc q h) hFc (fun u t H1 locs ht hvm hw hB hz1 hk1 hS => ?_)
                        obtain ⟨hP1, hK1, hD1⟩ := hB
                        rw [ht] at hP1
                        obtain ⟨hP, hD⟩ := va_join (wr := [(o8, .inr (8, [.ref o7, .ref o4, .ref o0, .ref o1, .ref o3, .ref o2])), (o7, .inr (7, [.ref a7_0, .ref a7_1, .int v7_2])), (a7_1, .inl (cyZ, 200, .inl g7_1))]) (w1 := [(o0, .inr (0, [.int (r_20.1), .int (r_20.2.1), .int (r_20.2.2.1), .int (r_20.2.2.2.1), .int (r_20.2.2.2.2.1), .ref a0_5, .int (r_20.2.2.2.2.2.1), .ref a0_7, .ref a0_8, .ref a0_9, .int (r_20.2.2.2.2.2.2.1), .ref a0_11, .ref a0_12, .ref a0_13, .ref a0_14, .int (r_20.2.2.2.2.2.2.2), .ref a0_16]))]) hP hD [3] [0, 1, 2] rfl rfl (by decide) (by decide) hk1 hFc hP1 hD1
                        clear hz1 hk1 hPc hDc hFc hP1 hK1 hD1 ht hvm t u
                        generalize H1 = H at hP hS ⊢
                        have hP : va_P (dC, dI) vwCl [(o8, .inr (8, [.ref o7, .ref o4, .ref o0, .ref o1, .ref o3, .ref o2])), (o7, .inr (7, [.ref a7_0, .ref a7_1, .int v7_2])), (a7_1, .inl (cyZ, 200, .inl g7_1)), (o0, .inr (0, [.int (r_20.1), .int (r_20.2.1), .int (r_20.2.2.1), .int (r_20.2.2.2.1), .int (r_20.2.2.2.2.1), .ref a0_5, .int (r_20.2.2.2.2.2.1), .ref a0_7, .ref a0_8, .ref a0_9, .int (r_20.2.2.2.2.2.2.1), .ref a0_11, .ref a0_12, .ref a0_13, .ref a0_14, .int (r_20.2.2.2.2.2.2.2), .ref a0_16]))] H := hP
                        have hD : va_D A [(o8, .inr (8, [.ref o7, .ref o4, .ref o0, .ref o1, .ref o3, .ref o2])), (o7, .inr (7, [.ref a7_0, .ref a7_1, .int v7_2])), (a7_1, .inl (cyZ, 200, .inl g7_1)), (o0, .inr (0, [.int (r_20.1), .int (r_20.2.1), .int (r_20.2.2.1), .int (r_20.2.2.2.1), .int (r_20.2.2.2.2.1), .ref a0_5, .int (r_20.2.2.2.2.2.1), .ref a0_7, .ref a0_8, .ref a0_9, .int (r_20.2.2.2.2.2.2.1), .ref a0_11, .ref a0_12, .ref a0_13, .ref a0_14, .int (r_20.2.2.2.2.2.2.2), .ref a0_16]))] := hD
                        refine lv_iconst (v := 0) hx hb dX8_method_123 (by decide) ?_
                        obtain rfl := Option.some.inj hf
                        have hP9 := hP.sub (ws' := [(o8, .inr (8, [.ref o7, .ref o4, .ref o0, .ref o1, .ref o3, .ref o2])), (o7, .inr (7, [.ref a7_0, .ref a7_1, .int v7_2])), (a7_1, .inl (cyZ, 200, .inl g7_1)), (o0, .inr (0, [.int (r_20.1), .int (r_20.2.1), .int (r_20.2.2.1), .int (r_20.2.2.2.1), .int (r_20.2.2.2.2.1), .ref a0_5, .int (r_20.2.2.2.2.2.1), .ref a0_7, .ref a0_8, .ref a0_9, .int (r_20.2.2.2.2.2.2.1), .ref a0_11, .ref a0_12, .ref a0_13, .ref a0_14, .int (r_20.2.2.2.2.2.2.2), .ref a0_16]))]) [0, 1, 2, 3] rfl
                        have hD9 := hD.sub (ws' := [(o8, .inr (8, [.ref o7, .ref o4, .ref o0, .ref o1, .ref o3, .ref o2])), (o7, .inr (7, [.ref a7_0, .ref a7_1, .int v7_2])), (a7_1, .inl (cyZ, 200, .inl g7_1)), (o0, .inr (0, [.int (r_20.1), .int (r_20.2.1), .int (r_20.2.2.1), .int (r_20.2.2.2.1), .int (r_20.2.2.2.2.1), .ref a0_5, .int (r_20.2.2.2.2.2.1), .ref a0_7, .ref a0_8, .ref a0_9, .int (r_20.2.2.2.2.2.2.1), .ref a0_11, .ref a0_12, .ref a0_13, .ref a0_14, .int (r_20.2.2.2.2.2.2.2), .ref a0_16]))]) [0, 1, 2, 3] (by decide) rfl
                        refine vx_ret ?_
                        refine W.widen (k := 1) (n := 6) (Nat.le_of_ble_eq_true rfl) (Nat.le_of_ble_eq_true rfl) ?_
                        exact W.iret hx hb hr (fun t ht hW => ⟨⟨_, (), rfl, ⟨rfl, rfl⟩, by rw [ht]; exact hP9, va_K.moved hW.alike hK, hD9⟩, hS.F ht⟩) hS.2.2 dX8_method_124
                      · replace hf := x_in c_19 hf
                        obtain rfl := Option.some.inj hf
                        obtain ⟨sa, hsa⟩ := hG.2.2.1 (127, "no such number of places") (by decide)
                        have hP9 := hP.sub (ws' := [(o8, .inr (8, [.ref o7, .ref o4, .ref o0, .ref o1, .ref o3, .ref o2])), (o7, .inr (7, [.ref a7_0, .ref a7_1, .int v7_2])), (a7_1, .inl (cyZ, 200, .inl g7_1)), (o0, .inr (0, [.int v0_0, .int v0_1, .int v0_2, .int v0_3, .int v0_4, .ref a0_5, .int v0_6, .ref a0_7, .ref a0_8, .ref a0_9, .int v0_10, .ref a0_11, .ref a0_12, .ref a0_13, .ref a0_14, .int v0_15, .ref a0_16]))]) [0, 1, 2, 3] rfl
                        have hD9 := hD.sub (ws' := [(o8, .inr (8, [.ref o7, .ref o4, .ref o0, .ref o1, .ref o3, .ref o2])), (o7, .inr (7, [.ref a7_0, .ref a7_1, .int v7_2])), (a7_1, .inl (cyZ, 200, .inl g7_1)), (o0, .inr (0, [.int v0_0, .int v0_1, .int v0_2, .int v0_3, .int v0_4, .ref a0_5, .int v0_6, .ref a0_7, .ref a0_8, .ref a0_9, .int v0_10, .ref a0_11, .ref a0_12, .ref a0_13, .ref a0_14, .int v0_15, .ref a0_16]))]) [0, 1, 2, 3] (by decide) rfl
                        refine vx_throwS (cls := "java/lang/IllegalArgumentException") (names := ["java/lang/RuntimeException", "java/lang/Exception"]) hx hb hl9 hown (by decide +kernel) (by decide +kernel) k_2 k_3 hsa (x_at1 hG.2.2.2 hts_1) (by decide +kernel) (hG.1.narrow hAb) (hG.2.1.narrow hAb) hS (hl.1.trans hml.symm) dX8_method_99 dX8_method_102 dX8_method_103 dX8_method_105 dX8_method_108 (fun z hz => (hno z hz).elim) (Nat.le_of_ble_eq_true rfl) (Nat.le_of_ble_eq_true rfl) (Nat.le_of_ble_eq_true rfl) (Nat.le_of_ble_eq_true rfl) hlocks (fun t ha h1 h2 => ⟨(), trivial, ⟨⟨rfl, rfl⟩, x_kp hP9 (fun q h _ => h2 q h), va_K.moved ha hK, hD9⟩, x_mv hS h1 h2⟩) hS.2.2 (Nat.le_of_ble_eq_true rfl) (Nat.le_of_ble_eq_true rfl)
              · replace hf := x_in c_15 hf
                obtain rfl := Option.some.inj hf
                obtain ⟨sa, hsa⟩ := hG.2.2.1 (102, "no constructor is like this") (by decide)
                have hP9 := hP.sub (ws' := [(o8, .inr (8, [.ref o7, .ref o4, .ref o0, .ref o1, .ref o3, .ref o2])), (o7, .inr (7, [.ref a7_0, .ref a7_1, .int v7_2])), (a7_1, .inl (cyZ, 200, .inl g7_1)), (o0, .inr (0, [.int v0_0, .int v0_1, .int v0_2, .int v0_3, .int v0_4, .ref a0_5, .int v0_6, .ref a0_7, .ref a0_8, .ref a0_9, .int v0_10, .ref a0_11, .ref a0_12, .ref a0_13, .ref a0_14, .int v0_15, .ref a0_16]))]) [0, 1, 2, 3] rfl
                have hD9 := hD.sub (ws' := [(o8, .inr (8, [.ref o7, .ref o4, .ref o0, .ref o1, .ref o3, .ref o2])), (o7, .inr (7, [.ref a7_0, .ref a7_1, .int v7_2])), (a7_1, .inl (cyZ, 200, .inl g7_1)), (o0, .inr (0, [.int v0_0, .int v0_1, .int v0_2, .int v0_3, .int v0_4, .ref a0_5, .int v0_6, .ref a0_7, .ref a0_8, .ref a0_9, .int v0_10, .ref a0_11, .ref a0_12, .ref a0_13, .ref a0_14, .int v0_15, .ref a0_16]))]) [0, 1, 2, 3] (by decide) rfl
                refine vx_throwS (cls := "java/lang/IllegalArgumentException") (names := ["java/lang/RuntimeException", "java/lang/Exception"]) hx hb hl9 hown (by decide +kernel) (by decide +kernel) k_2 k_3 hsa (x_at1 hG.2.2.2 hts_1) (by decide +kernel) (hG.1.narrow hAb) (hG.2.1.narrow hAb) hS (hl.1.trans hml.symm) dX8_method_63 dX8_method_66 dX8_method_67 dX8_method_69 dX8_method_72 (fun z hz => (hno z hz).elim) (Nat.le_of_ble_eq_true rfl) (Nat.le_of_ble_eq_true rfl) (Nat.le_of_ble_eq_true rfl) (Nat.le_of_ble_eq_true rfl) hlocks (fun t ha h1 h2 => ⟨(), trivial, ⟨⟨rfl, rfl⟩, x_kp hP9 (fun q h _ => h2 q h), va_K.moved ha hK, hD9⟩, x_mv hS h1 h2⟩) hS.2.2 (Nat.le_of_ble_eq_true rfl) (Nat.le_of_ble_eq_true rfl)
        · replace hf := x_ip c_6 hf
          obtain rfl := Option.some.inj hf
          obtain ⟨sa, hsa⟩ := hG.2.2.1 (125, "no CLASS, no such how, or no result") (by decide)
          have hP9 := hP.sub (ws' := [(o8, .inr (8, [.ref o7, .ref o4, .ref o0, .ref o1, .ref o3, .ref o2])), (o7, .inr (7, [.ref a7_0, .ref a7_1, .int v7_2])), (a7_1, .inl (cyZ, 200, .inl g7_1)), (o0, .inr (0, [.int v0_0, .int v0_1, .int v0_2, .int v0_3, .int v0_4, .ref a0_5, .int v0_6, .ref a0_7, .ref a0_8, .ref a0_9, .int v0_10, .ref a0_11, .ref a0_12, .ref a0_13, .ref a0_14, .int v0_15, .ref a0_16]))]) [0, 1, 2, 3] rfl
          have hD9 := hD.sub (ws' := [(o8, .inr (8, [.ref o7, .ref o4, .ref o0, .ref o1, .ref o3, .ref o2])), (o7, .inr (7, [.ref a7_0, .ref a7_1, .int v7_2])), (a7_1, .inl (cyZ, 200, .inl g7_1)), (o0, .inr (0, [.int v0_0, .int v0_1, .int v0_2, .int v0_3, .int v0_4, .ref a0_5, .int v0_6, .ref a0_7, .ref a0_8, .ref a0_9, .int v0_10, .ref a0_11, .ref a0_12, .ref a0_13, .ref a0_14, .int v0_15, .ref a0_16]))]) [0, 1, 2, 3] (by decide) rfl
          refine vx_throwS (cls := "java/lang/IllegalArgumentException") (names := ["java/lang/RuntimeException", "java/lang/Exception"]) hx hb hl9 hown (by decide +kernel) (by decide +kernel) k_2 k_3 hsa (x_at1 hG.2.2.2 hts_1) (by decide +kernel) (hG.1.narrow hAb) (hG.2.1.narrow hAb) hS (hl.1.trans hml.symm) dX8_method_31 dX8_method_34 dX8_method_35 dX8_method_37 dX8_method_40 (fun z hz => (hno z hz).elim) (Nat.le_of_ble_eq_true rfl) (Nat.le_of_ble_eq_true rfl) (Nat.le_of_ble_eq_true rfl) (Nat.le_of_ble_eq_true rfl) hlocks (fun t ha h1 h2 => ⟨(), trivial, ⟨⟨rfl, rfl⟩, x_kp hP9 (fun q h _ => h2 q h), va_K.moved ha hK, hD9⟩, x_mv hS h1 h2⟩) hS.2.2 (Nat.le_of_ble_eq_true rfl) (Nat.le_of_ble_eq_true rfl)

theorem i_X8_argument_X0 : ∀ w ∈ wsX00, w ∈ wsX8_argument := by decide +kernel
theorem i_X8_argument_X8 : ∀ w ∈ wsX80, w ∈ wsX8_argument := by decide +kernel
theorem u_X8_argument_1 : ∀ w ∈ (vx_atS RX8 67 "java/lang/IllegalArgumentException" ["java/lang/RuntimeException", "java/lang/Exception"]).filter goodWord, w ∈ wsX8_argument := by decide +kernel
theorem u_X8_argument_2 : ∀ w ∈ (vx_atS RX8 78 "java/lang/IllegalStateException" ["java/lang/RuntimeException", "java/lang/Exception"]).filter goodWord, w ∈ wsX8_argument := by decide +kernel
set_option maxHeartbeats 4000000 in
set_option maxRecDepth 100000 in
theorem c_X8_argument (l : Launch) (hl9 : l.stackTraces = false) (dC : Nat → ClassId) (dI : Nat → Nat → Nat) (cyI cyZ cyJ : ClassId) (sz : Nat) (base : Nat) (o8 : Nat) (o7 : Nat) (o4 : Nat) (o0 : Nat) (o1 : Nat) (o3 : Nat) (o2 : Nat) (a7_0 : Nat) (a7_1 : Nat) (v7_2 : Int32) (v0_0 : Int32) (v0_1 : Int32) (v0_2 : Int32) (v0_3 : Int32) (v0_4 : Int32) (a0_5 : Nat) (v0_6 : Int32) (a0_7 : Nat) (a0_8 : Nat) (a0_9 : Nat) (v0_10 : Int32) (a0_11 : Nat) (a0_12 : Nat) (a0_13 : Nat) (a0_14 : Nat) (v0_15 : Int32) (a0_16 : Nat) (g0_5 : Nat → Int32) (p1 : Int32) (R : Int32 × Int32 × Int32 × (Nat → Int32)) (hf : f_X8_argument v7_2 v0_6 g0_5 p1 = some R) : vx_Met l yX8_argument wsX8_argument ({ frames := 6, cells := 1, slots := 6, locals := 90 }) (va_Pc [.ref o8, .int p1] (x_PreX (dC, dI) (x_T cyI cyZ cyJ) [(o8, .inr (8, [.ref o7, .ref o4, .ref o0, .ref o1, .ref o3, .ref o2])), (o7, .inr (7, [.ref a7_0, .ref a7_1, .int v7_2])), (o0, .inr (0, [.int v0_0, .int v0_1, .int v0_2, .int v0_3, .int v0_4, .ref a0_5, .int v0_6, .ref a0_7, .ref a0_8, .ref a0_9, .int v0_10, .ref a0_11, .ref a0_12, .ref a0_13, .ref a0_14, .int v0_15, .ref a0_16])), (a0_5, .inl (cyI, 20, .inl g0_5))] base sz)) (va_Qi (fun (r : Int32) (_ : Unit) => R.1 = 0 ∧ r = R.2.1) (fun (_ : Unit) (t : State) => va_P (dC, dI) vwCl [(o8, .inr (8, [.ref o7, .ref o4, .ref o0, .ref o1, .ref o3, .ref o2])), (o7, .inr (7, [.ref a7_0, .ref a7_1, .int v7_2])), (o0, .inr (0, [.int v0_0, .int v0_1, .int v0_2, .int v0_3, .int v0_4, .ref a0_5, .int (R.2.2.1), .ref a0_7, .ref a0_8, .ref a0_9, .int v0_10, .ref a0_11, .ref a0_12, .ref a0_13, .ref a0_14, .int v0_15, .ref a0_16])), (a0_5, .inl (cyI, 20, .inl R.2.2.2))] t.heap ∧ va_K (dC, dI) vwCl (x_T cyI cyZ cyJ) t ∧ va_D (va_A [(o8, .inr (8, [.ref o7, .ref o4, .ref o0, .ref o1, .ref o3, .ref o2])), (o7, .inr (7, [.ref a7_0, .ref a7_1, .int v7_2])), (o0, .inr (0, [.int v0_0, .int v0_1, .int v0_2, .int v0_3, .int v0_4, .ref a0_5, .int v0_6, .ref a0_7, .ref a0_8, .ref a0_9, .int v0_10, .ref a0_11, .ref a0_12, .ref a0_13, .ref a0_14, .int v0_15, .ref a0_16])), (a0_5, .inl (cyI, 20, .inl g0_5))] sz) [(o8, .inr (8, [.ref o7, .ref o4, .ref o0, .ref o1, .ref o3, .ref o2])), (o7, .inr (7, [.ref a7_0, .ref a7_1, .int v7_2])), (o0, .inr (0, [.int v0_0, .int v0_1, .int v0_2, .int v0_3, .int v0_4, .ref a0_5, .int (R.2.2.1), .ref a0_7, .ref a0_8, .ref a0_9, .int v0_10, .ref a0_11, .ref a0_12, .ref a0_13, .ref a0_14, .int v0_15, .ref a0_16])), (a0_5, .inl (cyI, 20, .inl R.2.2.2))]) (va_A [(o8, .inr (8, [.ref o7, .ref o4, .ref o0, .ref o1, .ref o3, .ref o2])), (o7, .inr (7, [.ref a7_0, .ref a7_1, .int v7_2])), (o0, .inr (0, [.int v0_0, .int v0_1, .int v0_2, .int v0_3, .int v0_4, .ref a0_5, .int v0_6, .ref a0_7, .ref a0_8, .ref a0_9, .int v0_10, .ref a0_11, .ref a0_12, .ref a0_13, .ref a0_14, .int v0_15, .ref a0_16])), (a0_5, .inl (cyI, 20, .inl g0_5))] sz)) (vx_X (fun _ : Unit => True) (fun (E : String) (_ : Unit) (t : State) => x_thr R.1 E ∧ (va_P (dC, dI) vwCl [(o8, .inr (8, [.ref o7, .ref o4, .ref o0, .ref o1, .ref o3, .ref o2])), (o7, .inr (7, [.ref a7_0, .ref a7_1, .int v7_2])), (o0, .inr (0, [.int v0_0, .int v0_1, .int v0_2, .int v0_3, .int v0_4, .ref a0_5, .int (R.2.2.1), .ref a0_7, .ref a0_8, .ref a0_9, .int v0_10, .ref a0_11, .ref a0_12, .ref a0_13, .ref a0_14, .int v0_15, .ref a0_16])), (a0_5, .inl (cyI, 20, .inl R.2.2.2))] t.heap ∧ va_K (dC, dI) vwCl (x_T cyI cyZ cyJ) t ∧ va_D (va_A [(o8, .inr (8, [.ref o7, .ref o4, .ref o0, .ref o1, .ref o3, .ref o2])), (o7, .inr (7, [.ref a7_0, .ref a7_1, .int v7_2])), (o0, .inr (0, [.int v0_0, .int v0_1, .int v0_2, .int v0_3, .int v0_4, .ref a0_5, .int v0_6, .ref a0_7, .ref a0_8, .ref a0_9, .int v0_10, .ref a0_11, .ref a0_12, .ref a0_13, .ref a0_14, .int v0_15, .ref a0_16])), (a0_5, .inl (cyI, 20, .inl g0_5))] sz) [(o8, .inr (8, [.ref o7, .ref o4, .ref o0, .ref o1, .ref o3, .ref o2])), (o7, .inr (7, [.ref a7_0, .ref a7_1, .int v7_2])), (o0, .inr (0, [.int v0_0, .int v0_1, .int v0_2, .int v0_3, .int v0_4, .ref a0_5, .int (R.2.2.1), .ref a0_7, .ref a0_8, .ref a0_9, .int v0_10, .ref a0_11, .ref a0_12, .ref a0_13, .ref a0_14, .int v0_15, .ref a0_16])), (a0_5, .inl (cyI, 20, .inl R.2.2.2))])) (va_A [(o8, .inr (8, [.ref o7, .ref o4, .ref o0, .ref o1, .ref o3, .ref o2])), (o7, .inr (7, [.ref a7_0, .ref a7_1, .int v7_2])), (o0, .inr (0, [.int v0_0, .int v0_1, .int v0_2, .int v0_3, .int v0_4, .ref a0_5, .int v0_6, .ref a0_7, .ref a0_8, .ref a0_9, .int v0_10, .ref a0_11, .ref a0_12, .ref a0_13, .ref a0_14, .int v0_15, .ref a0_16])), (a0_5, .inl (cyI, 20, .inl g0_5))] sz)) 1 6 (va_A [(o8, .inr (8, [.ref o7, .ref o4, .ref o0, .ref o1, .ref o3, .ref o2])), (o7, .inr (7, [.ref a7_0, .ref a7_1, .int v7_2])), (o0, .inr (0, [.int v0_0, .int v0_1, .int v0_2, .int v0_3, .int v0_4, .ref a0_5, .int v0_6, .ref a0_7, .ref a0_8, .ref a0_9, .int v0_10, .ref a0_11, .ref a0_12, .ref a0_13, .ref a0_14, .int v0_15, .ref a0_16])), (a0_5, .inl (cyI, 20, .inl g0_5))] sz) := by
  refine vx_ofW (cc := cX8_argument) (maxL := 2) (ret := (some .int)) (by decide) rfl ?_
  intro p e s m args below meth c s₁ B hml hno hv
  obtain ⟨rfl, ⟨⟨hsz, hP, hK, hN⟩, hD0⟩, hDb, hbz, hG⟩ := hv
  have hx := B.exec
  have hb := B.bytes
  have hr := B.returns
  have hts := atoms_spec (ws := wsX8_argument) B.pre
  have hown : s.vm.findClass RX8 = some m.cls := findClass_of_methodNamed B.named
  have hlocks := B.notSynchronized
  have hts_1 := fun w (h : w ∈ (vx_atS RX8 67 "java/lang/IllegalArgumentException" ["java/lang/RuntimeException", "java/lang/Exception"]).filter goodWord) => hts w (u_X8_argument_1 w h)
  have hts_2 := fun w (h : w ∈ (vx_atS RX8 78 "java/lang/IllegalStateException" ["java/lang/RuntimeException", "java/lang/Exception"]).filter goodWord) => hts w (u_X8_argument_2 w h)
  have k_1 := hts (.fieldLink RX8 10 "FlowJudge" "types" "LFlowJudge$Types;") (by decide +kernel)
  have k_2 := hts (.fieldLink RX8 26 "FlowJudge" "code" "LFlowJudge$Code;") (by decide +kernel)
  have k_3 := hts (.classLink RX8 74 "java/lang/IllegalStateException") (by decide +kernel)
  have k_4 := hts (.initialized "java/lang/IllegalStateException") (by decide +kernel)
  have k_5 := hts (.classLink RX8 63 "java/lang/IllegalArgumentException") (by decide +kernel)
  have k_6 := hts (.initialized "java/lang/IllegalArgumentException") (by decide +kernel)
  subst hsz
  have hAb : ∀ q, va_A [(o8, .inr (8, [.ref o7, .ref o4, .ref o0, .ref o1, .ref o3, .ref o2])), (o7, .inr (7, [.ref a7_0, .ref a7_1, .int v7_2])), (o0, .inr (0, [.int v0_0, .int v0_1, .int v0_2, .int v0_3, .int v0_4, .ref a0_5, .int v0_6, .ref a0_7, .ref a0_8, .ref a0_9, .int v0_10, .ref a0_11, .ref a0_12, .ref a0_13, .ref a0_14, .int v0_15, .ref a0_16])), (a0_5, .inl (cyI, 20, .inl g0_5))] s.heap.size q → x_new base q := x_Ab hDb hbz
  have hD := hD0.self (sz := s.heap.size)
  generalize hAe : va_A [(o8, .inr (8, [.ref o7, .ref o4, .ref o0, .ref o1, .ref o3, .ref o2])), (o7, .inr (7, [.ref a7_0, .ref a7_1, .int v7_2])), (o0, .inr (0, [.int v0_0, .int v0_1, .int v0_2, .int v0_3, .int v0_4, .ref a0_5, .int v0_6, .ref a0_7, .ref a0_8, .ref a0_9, .int v0_10, .ref a0_11, .ref a0_12, .ref a0_13, .ref a0_14, .int v0_15, .ref a0_16])), (a0_5, .inl (cyI, 20, .inl g0_5))] s.heap.size = A at hD hAb ⊢
  have hA : ∀ q : Nat, s.heap.size ≤ q → A q := fun q h => by rw [← hAe]; exact Or.inr h
  have hP : va_P (dC, dI) vwCl [(o8, .inr (8, [.ref o7, .ref o4, .ref o0, .ref o1, .ref o3, .ref o2])), (o7, .inr (7, [.ref a7_0, .ref a7_1, .int v7_2])), (o0, .inr (0, [.int v0_0, .int v0_1, .int v0_2, .int v0_3, .int v0_4, .ref a0_5, .int v0_6, .ref a0_7, .ref a0_8, .ref a0_9, .int v0_10, .ref a0_11, .ref a0_12, .ref a0_13, .ref a0_14, .int v0_15, .ref a0_16])), (a0_5, .inl (cyI, 20, .inl g0_5))] s.heap := hP
  have hl := lv_entry ([.ref o8, .int p1]) (n := 2) (Nat.le_of_ble_eq_true rfl)
  rw [lg_entry_eq]
  generalize (lg_sl ([.ref o8, .int p1]) ++ List.replicate (2 - (lg_sl ([.ref o8, .int p1])).length) Slot.unset).toArray = ls at hl ⊢
  have hl : lv_has ls 2 [(0, .ref o8), (1, .int p1)] := hl
  obtain ⟨H, hH⟩ : ∃ z, z = s.heap := ⟨_, rfl⟩
  refine x_here hH ?_
  have hP : va_P (dC, dI) vwCl [(o8, .inr (8, [.ref o7, .ref o4, .ref o0, .ref o1, .ref o3, .ref o2])), (o7, .inr (7, [.ref a7_0, .ref a7_1, .int v7_2])), (o0, .inr (0, [.int v0_0, .int v0_1, .int v0_2, .int v0_3, .int v0_4, .ref a0_5, .int v0_6, .ref a0_7, .ref a0_8, .ref a0_9, .int v0_10, .ref a0_11, .ref a0_12, .ref a0_13, .ref a0_14, .int v0_15, .ref a0_16])), (a0_5, .inl (cyI, 20, .inl g0_5))] H := by rw [hH]; exact hP
  have hS : va_S A s.heap H [] := by rw [hH]; exact va_S.rf
  clear hH
  obtain ⟨locs, hlo⟩ : ∃ z : List Loc, z = [] := ⟨_, rfl⟩
  refine x_herl hlo ?_
  have hS : va_S A s.heap H locs := by rw [hlo]; exact hS
  clear hlo
  unfold f_X8_argument at hf
  refine lv_aload_n hx hb dX8_argument_0 rfl (lv_at hl 0 rfl) ?_
  refine va_get (D := (dC, dI)) (ci := 8) (v := .ref o7) (C := RX8) (T := TX8) (N := 6) hx hb hts i_X8_argument_X8 hown hK hP 0 rfl rfl 0 (by decide) k_1 (fun _ h9 => h9) rfl dX8_argument_1 ?_
  refine lv_iload_n hx hb dX8_argument_4 rfl (lv_at hl 1 rfl) ?_
  obtain ⟨r_1, h_1, hf⟩ := x_bi hf
  have hPc := hP.sub (ws' := [(o7, .inr (7, [.ref a7_0, .ref a7_1, .int v7_2]))]) [1] rfl
  refine va_calli (va_runV (As := [.int p1]) (rest := []) ⟨hx, hb, hml, hown, hts⟩ (c_X7_isType l dC dI cyI cyZ cyJ H.size o7 a7_0 a7_1 v7_2 p1 r_1 h_1) (cwV 1 hts gX8_argument_X7_isType rfl rfl rfl (by decide +kernel) ⟨Nat.le_of_ble_eq_true rfl, Nat.le_of_ble_eq_true rfl⟩) (x_pV hN hK hPc (ci := 7) (q0 := 0) rfl rfl) rfl rfl hl.1 rfl (lv_room (Nat.le_of_ble_eq_true rfl)) dX8_argument_5 ⟨Nat.le_of_ble_eq_true rfl, Nat.le_of_ble_eq_true rfl⟩) hS x_nA (x_nf hA hS) (fun q_1 u t H1 locs ht hvm hw hB hz1 hk1 hS => ?_)
  have hP := x_kp hP hk1
  clear ht hvm hB hz1 hk1 t u hPc
  generalize H1 = H at hP hS ⊢
  obtain ⟨hw, b_1⟩ := hw
  obtain rfl := hw.symm
  refine lv_if_ne (tgt := 21) hx hb dX8_argument_8 (by decide) (fun c_2 => ?_) (fun c_2 => ?_)
  · replace hf := x_in c_2 hf
    refine lv_aload_n hx hb dX8_argument_21 rfl (lv_at hl 0 rfl) ?_
    refine va_get (D := (dC, dI)) (ci := 8) (v := .ref o0) (C := RX8) (T := TX8) (N := 6) hx hb hts i_X8_argument_X8 hown hK hP 0 rfl rfl 2 (by decide) k_2 (fun _ h9 => h9) rfl dX8_argument_22 ?_
    refine va_getN (D := (dC, dI)) (ci := 0) (v := .int v0_6) (C := RX0) (T := TX0) (N := 17) hx hb hts i_X8_argument_X0 hown hK hP 2 rfl rfl 6 (by decide) ((hN.1 ("FlowJudge", 133, "FlowJudge$Code", "argumentCount", "I") (List.mem_of_getElem? (i := 4) rfl)).use rfl) (fun _ h9 => h9) rfl dX8_argument_25 ?_
    refine lv_bipush (v := 20) hx hb dX8_argument_28 (by decide) ?_
    refine lv_icmp_lt (tgt := 43) hx hb dX8_argument_30 (by decide) (fun c_3 => ?_) (fun c_3 => ?_)
    · replace hf := x_ip c_3 hf
      refine lv_aload_n hx hb dX8_argument_43 rfl (lv_at hl 0 rfl) ?_
      refine va_get (D := (dC, dI)) (ci := 8) (v := .ref o0) (C := RX8) (T := TX8) (N := 6) hx hb hts i_X8_argument_X8 hown hK hP 0 rfl rfl 2 (by decide) k_2 (fun _ h9 => h9) rfl dX8_argument_44 ?_
      refine lv_iload_n hx hb dX8_argument_47 rfl (lv_at hl 1 rfl) ?_
      obtain ⟨r_4, h_4, hf⟩ := x_bi hf
      have hPc := hP.sub (ws' := [(o0, .inr (0, [.int v0_0, .int v0_1, .int v0_2, .int v0_3, .int v0_4, .ref a0_5, .int v0_6, .ref a0_7, .ref a0_8, .ref a0_9, .int v0_10, .ref a0_11, .ref a0_12, .ref a0_13, .ref a0_14, .int v0_15, .ref a0_16])), (a0_5, .inl (cyI, 20, .inl g0_5))]) [2, 3] rfl
      have hDc := hD.sub (ws' := [(o0, .inr (0, [.int v0_0, .int v0_1, .int v0_2, .int v0_3, .int v0_4, .ref a0_5, .int v0_6, .ref a0_7, .ref a0_8, .ref a0_9, .int v0_10, .ref a0_11, .ref a0_12, .ref a0_13, .ref a0_14, .int v0_15, .ref a0_16])), (a0_5, .inl (cyI, 20, .inl g0_5))]) [2, 3] (by decide) rfl
      have hFc := va_free (wc := [(o0, .inr (0, [.int v0_0, .int v0_1, .int v0_2, .int v0_3, .int v0_4, .ref a0_5, .int v0_6, .ref a0_7, .ref a0_8, .ref a0_9, .int v0_10, .ref a0_11, .ref a0_12, .ref a0_13, .ref a0_14, .int v0_15, .ref a0_16])), (a0_5, .inl (cyI, 20, .inl g0_5))]) hD hS hA [2, 3] rfl
      refine va_calli (va_runV (As := [.int p1]) (rest := []) ⟨hx, hb, hml, hown, hts⟩ (c_X0_takeMore l dC dI cyI cyZ cyJ H.size o0 v0_0 v0_1 v0_2 v0_3 v0_4 a0_5 v0_6 a0_7 a0_8 a0_9 v0_10 a0_11 a0_12 a0_13 a0_14 v0_15 a0_16 g0_5 p1 r_4 h_4) (cwV 1 hts gX8_argument_X0_takeMore rfl rfl rfl (by decide +kernel) ⟨Nat.le_of_ble_eq_true rfl, Nat.le_of_ble_eq_true rfl⟩) (x_pVD hN hK hPc hDc (ci := 0) (q0 := 0) rfl rfl) rfl rfl hl.1 rfl (lv_room (Nat.le_of_ble_eq_true rfl)) dX8_argument_48 ⟨Nat.le_of_ble_eq_true rfl, Nat.le_of_ble_eq_true rfl⟩) hS (fun q _ h => hFc q h) hFc (fun q_4 u t H1 locs ht hvm hw hB hz1 hk1 hS => ?_)
      obtain ⟨hP1, hK1, hD1⟩ := hB
      rw [ht] at hP1
      obtain ⟨hP, hD⟩ := va_join (wr := [(o8, .inr (8, [.ref o7, .ref o4, .ref o0, .ref o1, .ref o3, .ref o2])), (o7, .inr (7, [.ref a7_0, .ref a7_1, .int v7_2]))]) (w1 := [(o0, .inr (0, [.int v0_0, .int v0_1, .int v0_2, .int v0_3, .int v0_4, .ref a0_5, .int (r_4.2.1), .ref a0_7, .ref a0_8, .ref a0_9, .int v0_10, .ref a0_11, .ref a0_12, .ref a0_13, .ref a0_14, .int v0_15, .ref a0_16])), (a0_5, .inl (cyI, 20, .inl r_4.2.2))]) hP hD [2, 3] [0, 1] rfl rfl (by decide) (by decide) hk1 hFc hP1 hD1
      clear hz1 hk1 hPc hDc hFc hP1 hK1 hD1 ht hvm t u
      generalize H1 = H at hP hS ⊢
      have hP : va_P (dC, dI) vwCl [(o8, .inr (8, [.ref o7, .ref o4, .ref o0, .ref o1, .ref o3, .ref o2])), (o7, .inr (7, [.ref a7_0, .ref a7_1, .int v7_2])), (o0, .inr (0, [.int v0_0, .int v0_1, .int v0_2, .int v0_3, .int v0_4, .ref a0_5, .int (r_4.2.1), .ref a0_7, .ref a0_8, .ref a0_9, .int v0_10, .ref a0_11, .ref a0_12, .ref a0_13, .ref a0_14, .int v0_15, .ref a0_16])), (a0_5, .inl (cyI, 20, .inl r_4.2.2))] H := hP
      have hD : va_D A [(o8, .inr (8, [.ref o7, .ref o4, .ref o0, .ref o1, .ref o3, .ref o2])), (o7, .inr (7, [.ref a7_0, .ref a7_1, .int v7_2])), (o0, .inr (0, [.int v0_0, .int v0_1, .int v0_2, .int v0_3, .int v0_4, .ref a0_5, .int (r_4.2.1), .ref a0_7, .ref a0_8, .ref a0_9, .int v0_10, .ref a0_11, .ref a0_12, .ref a0_13, .ref a0_14, .int v0_15, .ref a0_16])), (a0_5, .inl (cyI, 20, .inl r_4.2.2))] := hD
      obtain rfl := hw.symm
      obtain rfl := Option.some.inj hf
      have hP9 := hP.sub (ws' := [(o8, .inr (8, [.ref o7, .ref o4, .ref o0, .ref o1, .ref o3, .ref o2])), (o7, .inr (7, [.ref a7_0, .ref a7_1, .int v7_2])), (o0, .inr (0, [.int v0_0, .int v0_1, .int v0_2, .int v0_3, .int v0_4, .ref a0_5, .int (r_4.2.1), .ref a0_7, .ref a0_8, .ref a0_9, .int v0_10, .ref a0_11, .ref a0_12, .ref a0_13, .ref a0_14, .int v0_15, .ref a0_16])), (a0_5, .inl (cyI, 20, .inl r_4.2.2))]) [0, 1, 2, 3] rfl
      have hD9 := hD.sub (ws' := [(o8, .inr (8, [.ref o7, .ref o4, .ref o0, .ref o1, .ref o3, .ref o2])), (o7, .inr (7, [.ref a7_0, .ref a7_1, .int v7_2])), (o0, .inr (0, [.int v0_0, .int v0_1, .int v0_2, .int v0_3, .int v0_4, .ref a0_5, .int (r_4.2.1), .ref a0_7, .ref a0_8, .ref a0_9, .int v0_10, .ref a0_11, .ref a0_12, .ref a0_13, .ref a0_14, .int v0_15, .ref a0_16])), (a0_5, .inl (cyI, 20, .inl r_4.2.2))]) [0, 1, 2, 3] (by decide) rfl
      refine vx_ret ?_
      refine W.widen (k := 1) (n := 6) (Nat.le_of_ble_eq_true rfl) (Nat.le_of_ble_eq_true rfl) ?_
      exact W.iret hx hb hr (fun t ht hW => ⟨⟨_, (), rfl, ⟨rfl, rfl⟩, by rw [ht]; exact hP9, va_K.moved hW.alike hK, hD9⟩, hS.F ht⟩) hS.2.2 dX8_argument_51
    · replace hf := x_in c_3 hf
      obtain rfl := Option.some.inj hf
      obtain ⟨sa, hsa⟩ := hG.2.2.1 (136, "no more arguments") (by decide)
      have hP9 := hP.sub (ws' := [(o8, .inr (8, [.ref o7, .ref o4, .ref o0, .ref o1, .ref o3, .ref o2])), (o7, .inr (7, [.ref a7_0, .ref a7_1, .int v7_2])), (o0, .inr (0, [.int v0_0, .int v0_1, .int v0_2, .int v0_3, .int v0_4, .ref a0_5, .int v0_6, .ref a0_7, .ref a0_8, .ref a0_9, .int v0_10, .ref a0_11, .ref a0_12, .ref a0_13, .ref a0_14, .int v0_15, .ref a0_16])), (a0_5, .inl (cyI, 20, .inl g0_5))]) [0, 1, 2, 3] rfl
      have hD9 := hD.sub (ws' := [(o8, .inr (8, [.ref o7, .ref o4, .ref o0, .ref o1, .ref o3, .ref o2])), (o7, .inr (7, [.ref a7_0, .ref a7_1, .int v7_2])), (o0, .inr (0, [.int v0_0, .int v0_1, .int v0_2, .int v0_3, .int v0_4, .ref a0_5, .int v0_6, .ref a0_7, .ref a0_8, .ref a0_9, .int v0_10, .ref a0_11, .ref a0_12, .ref a0_13, .ref a0_14, .int v0_15, .ref a0_16])), (a0_5, .inl (cyI, 20, .inl g0_5))]) [0, 1, 2, 3] (by decide) rfl
      refine vx_throwS (cls := "java/lang/IllegalStateException") (names := ["java/lang/RuntimeException", "java/lang/Exception"]) hx hb hl9 hown (by decide +kernel) (by decide +kernel) k_3 k_4 hsa (x_at2 hG.2.2.2 hts_2) (by decide +kernel) (hG.1.narrow hAb) (hG.2.1.narrow hAb) hS (hl.1.trans hml.symm) dX8_argument_33 dX8_argument_36 dX8_argument_37 dX8_argument_39 dX8_argument_42 (fun z hz => (hno z hz).elim) (Nat.le_of_ble_eq_true rfl) (Nat.le_of_ble_eq_true rfl) (Nat.le_of_ble_eq_true rfl) (Nat.le_of_ble_eq_true rfl) hlocks (fun t ha h1 h2 => ⟨(), trivial, ⟨x_thr2, x_kp hP9 (fun q h _ => h2 q h), va_K.moved ha hK, hD9⟩, x_mv hS h1 h2⟩) hS.2.2 (Nat.le_of_ble_eq_true rfl) (Nat.le_of_ble_eq_true rfl)
  · replace hf := x_ip c_2 hf
    obtain rfl := Option.some.inj hf
    obtain ⟨sa, hsa⟩ := hG.2.2.1 (113, "no TYPE") (by decide)
    have hP9 := hP.sub (ws' := [(o8, .inr (8, [.ref o7, .ref o4, .ref o0, .ref o1, .ref o3, .ref o2])), (o7, .inr (7, [.ref a7_0, .ref a7_1, .int v7_2])), (o0, .inr (0, [.int v0_0, .int v0_1, .int v0_2, .int v0_3, .int v0_4, .ref a0_5, .int v0_6, .ref a0_7, .ref a0_8, .ref a0_9, .int v0_10, .ref a0_11, .ref a0_12, .ref a0_13, .ref a0_14, .int v0_15, .ref a0_16])), (a0_5, .inl (cyI, 20, .inl g0_5))]) [0, 1, 2, 3] rfl
    have hD9 := hD.sub (ws' := [(o8, .inr (8, [.ref o7, .ref o4, .ref o0, .ref o1, .ref o3, .ref o2])), (o7, .inr (7, [.ref a7_0, .ref a7_1, .int v7_2])), (o0, .inr (0, [.int v0_0, .int v0_1, .int v0_2, .int v0_3, .int v0_4, .ref a0_5, .int v0_6, .ref a0_7, .ref a0_8, .ref a0_9, .int v0_10, .ref a0_11, .ref a0_12, .ref a0_13, .ref a0_14, .int v0_15, .ref a0_16])), (a0_5, .inl (cyI, 20, .inl g0_5))]) [0, 1, 2, 3] (by decide) rfl
    refine vx_throwS (cls := "java/lang/IllegalArgumentException") (names := ["java/lang/RuntimeException", "java/lang/Exception"]) hx hb hl9 hown (by decide +kernel) (by decide +kernel) k_5 k_6 hsa (x_at1 hG.2.2.2 hts_1) (by decide +kernel) (hG.1.narrow hAb) (hG.2.1.narrow hAb) hS (hl.1.trans hml.symm) dX8_argument_11 dX8_argument_14 dX8_argument_15 dX8_argument_17 dX8_argument_20 (fun z hz => (hno z hz).elim) (Nat.le_of_ble_eq_true rfl) (Nat.le_of_ble_eq_true rfl) (Nat.le_of_ble_eq_true rfl) (Nat.le_of_ble_eq_true rfl) hlocks (fun t ha h1 h2 => ⟨(), trivial, ⟨x_thr1, x_kp hP9 (fun q h _ => h2 q h), va_K.moved ha hK, hD9⟩, x_mv hS h1 h2⟩) hS.2.2 (Nat.le_of_ble_eq_true rfl) (Nat.le_of_ble_eq_true rfl)

theorem i_X8_put_X0 : ∀ w ∈ wsX00, w ∈ wsX8_put := by decide +kernel
theorem i_X8_put_X8 : ∀ w ∈ wsX80, w ∈ wsX8_put := by decide +kernel
theorem u_X8_put_1 : ∀ w ∈ (vx_atS RX8 67 "java/lang/IllegalArgumentException" ["java/lang/RuntimeException", "java/lang/Exception"]).filter goodWord, w ∈ wsX8_put := by decide +kernel
theorem u_X8_put_2 : ∀ w ∈ (vx_atS RX8 78 "java/lang/IllegalStateException" ["java/lang/RuntimeException", "java/lang/Exception"]).filter goodWord, w ∈ wsX8_put := by decide +kernel
set_option maxHeartbeats 4000000 in
set_option maxRecDepth 100000 in
theorem c_X8_put (l : Launch) (hl9 : l.stackTraces = false) (dC : Nat → ClassId) (dI : Nat → Nat → Nat) (cyI cyZ cyJ : ClassId) (sz : Nat) (base : Nat) (o8 : Nat) (o7 : Nat) (o4 : Nat) (o0 : Nat) (o1 : Nat) (o3 : Nat) (o2 : Nat) (a7_0 : Nat) (a7_1 : Nat) (v7_2 : Int32) (a4_0 : Nat) (a4_1 : Nat) (v4_2 : Int32) (a4_3 : Nat) (a4_4 : Nat) (a4_5 : Nat) (a4_6 : Nat) (a4_7 : Nat) (v4_8 : Int32) (v0_0 : Int32) (v0_1 : Int32) (v0_2 : Int32) (v0_3 : Int32) (v0_4 : Int32) (a0_5 : Nat) (v0_6 : Int32) (a0_7 : Nat) (a0_8 : Nat) (a0_9 : Nat) (v0_10 : Int32) (a0_11 : Nat) (a0_12 : Nat) (a0_13 : Nat) (a0_14 : Nat) (v0_15 : Int32) (a0_16 : Nat) (g0_7 : Nat → Int32) (g0_8 : Nat → Int32) (g0_9 : Nat → Int32) (g0_12 : Nat → Int32) (g0_13 : Nat → Int32) (p1 : Int32) (p2 : Int32) (p3 : Int32) (R : Int32 × Int32 × Int32 × (Nat → Int32) × (Nat → Int32) × (Nat → Int32) × (Nat → Int32) × (Nat → Int32)) (hf : f_X8_put v7_2 v4_2 v4_8 v0_10 g0_7 g0_8 g0_9 g0_12 g0_13 p1 p2 p3 = some R) : vx_Met l yX8_put wsX8_put ({ frames := 6, cells := 1, slots := 6, locals := 108 }) (va_Pc [.ref o8, .int p1, .int p2, .int p3] (x_PreX (dC, dI) (x_T cyI cyZ cyJ) [(o8, .inr (8, [.ref o7, .ref o4, .ref o0, .ref o1, .ref o3, .ref o2])), (o7, .inr (7, [.ref a7_0, .ref a7_1, .int v7_2])), (o4, .inr (4, [.ref a4_0, .ref a4_1, .int v4_2, .ref a4_3, .ref a4_4, .ref a4_5, .ref a4_6, .ref a4_7, .int v4_8])), (o0, .inr (0, [.int v0_0, .int v0_1, .int v0_2, .int v0_3, .int v0_4, .ref a0_5, .int v0_6, .ref a0_7, .ref a0_8, .ref a0_9, .int v0_10, .ref a0_11, .ref a0_12, .ref a0_13, .ref a0_14, .int v0_15, .ref a0_16])), (a0_7, .inl (cyI, 1000, .inl g0_7)), (a0_8, .inl (cyI, 1000, .inl g0_8)), (a0_9, .inl (cyI, 1000, .inl g0_9)), (a0_12, .inl (cyI, 1000, .inl g0_12)), (a0_13, .inl (cyI, 1000, .inl g0_13))] base sz)) (va_Qi (fun (r : Int32) (_ : Unit) => R.1 = 0 ∧ r = R.2.1) (fun (_ : Unit) (t : State) => va_P (dC, dI) vwCl [(o8, .inr (8, [.ref o7, .ref o4, .ref o0, .ref o1, .ref o3, .ref o2])), (o7, .inr (7, [.ref a7_0, .ref a7_1, .int v7_2])), (o4, .inr (4, [.ref a4_0, .ref a4_1, .int v4_2, .ref a4_3, .ref a4_4, .ref a4_5, .ref a4_6, .ref a4_7, .int v4_8])), (o0, .inr (0, [.int v0_0, .int v0_1, .int v0_2, .int v0_3, .int v0_4, .ref a0_5, .int v0_6, .ref a0_7, .ref a0_8, .ref a0_9, .int (R.2.2.1), .ref a0_11, .ref a0_12, .ref a0_13, .ref a0_14, .int v0_15, .ref a0_16])), (a0_7, .inl (cyI, 1000, .inl R.2.2.2.1)), (a0_8, .inl (cyI, 1000, .inl R.2.2.2.2.1)), (a0_9, .inl (cyI, 1000, .inl R.2.2.2.2.2.1)), (a0_12, .inl (cyI, 1000, .inl R.2.2.2.2.2.2.1)), (a0_13, .inl (cyI, 1000, .inl R.2.2.2.2.2.2.2))] t.heap ∧ va_K (dC, dI) vwCl (x_T cyI cyZ cyJ) t ∧ va_D (va_A [(o8, .inr (8, [.ref o7, .ref o4, .ref o0, .ref o1, .ref o3, .ref o2])), (o7, .inr (7, [.ref a7_0, .ref a7_1, .int v7_2])), (o4, .inr (4, [.ref a4_0, .ref a4_1, .int v4_2, .ref a4_3, .ref a4_4, .ref a4_5, .ref a4_6, .ref a4_7, .int v4_8])), (o0, .inr (0, [.int v0_0, .int v0_1, .int v0_2, .int v0_3, .int v0_4, .ref a0_5, .int v0_6, .ref a0_7, .ref a0_8, .ref a0_9, .int v0_10, .ref a0_11, .ref a0_12, .ref a0_13, .ref a0_14, .int v0_15, .ref a0_16])), (a0_7, .inl (cyI, 1000, .inl g0_7)), (a0_8, .inl (cyI, 1000, .inl g0_8)), (a0_9, .inl (cyI, 1000, .inl g0_9)), (a0_12, .inl (cyI, 1000, .inl g0_12)), (a0_13, .inl (cyI, 1000, .inl g0_13))] sz) [(o8, .inr (8, [.ref o7, .ref o4, .ref o0, .ref o1, .ref o3, .ref o2])), (o7, .inr (7, [.ref a7_0, .ref a7_1, .int v7_2])), (o4, .inr (4, [.ref a4_0, .ref a4_1, .int v4_2, .ref a4_3, .ref a4_4, .ref a4_5, .ref a4_6, .ref a4_7, .int v4_8])), (o0, .inr (0, [.int v0_0, .int v0_1, .int v0_2, .int v0_3, .int v0_4, .ref a0_5, .int v0_6, .ref a0_7, .ref a0_8, .ref a0_9, .int (R.2.2.1), .ref a0_11, .ref a0_12, .ref a0_13, .ref a0_14, .int v0_15, .ref a0_16])), (a0_7, .inl (cyI, 1000, .inl R.2.2.2.1)), (a0_8, .inl (cyI, 1000, .inl R.2.2.2.2.1)), (a0_9, .inl (cyI, 1000, .inl R.2.2.2.2.2.1)), (a0_12, .inl (cyI, 1000, .inl R.2.2.2.2.2.2.1)), (a0_13, .inl (cyI, 1000, .inl R.2.2.2.2.2.2.2))]) (va_A [(o8, .inr (8, [.ref o7, .ref o4, .ref o0, .ref o1, .ref o3, .ref o2])), (o7, .inr (7, [.ref a7_0, .ref a7_1, .int v7_2])), (o4, .inr (4, [.ref a4_0, .ref a4_1, .int v4_2, .ref a4_3, .ref a4_4, .ref a4_5, .ref a4_6, .ref a4_7, .int v4_8])), (o0, .inr (0, [.int v0_0, .int v0_1, .int v0_2, .int v0_3, .int v0_4, .ref a0_5, .int v0_6, .ref a0_7, .ref a0_8, .ref a0_9, .int v0_10, .ref a0_11, .ref a0_12, .ref a0_13, .ref a0_14, .int v0_15, .ref a0_16])), (a0_7, .inl (cyI, 1000, .inl g0_7)), (a0_8, .inl (cyI, 1000, .inl g0_8)), (a0_9, .inl (cyI, 1000, .inl g0_9)), (a0_12, .inl (cyI, 1000, .inl g0_12)), (a0_13, .inl (cyI, 1000, .inl g0_13))] sz)) (vx_X (fun _ : Unit => True) (fun (E : String) (_ : Unit) (t : State) => x_thr R.1 E ∧ (va_P (dC, dI) vwCl [(o8, .inr (8, [.ref o7, .ref o4, .ref o0, .ref o1, .ref o3, .ref o2])), (o7, .inr (7, [.ref a7_0, .ref a7_1, .int v7_2])), (o4, .inr (4, [.ref a4_0, .ref a4_1, .int v4_2, .ref a4_3, .ref a4_4, .ref a4_5, .ref a4_6, .ref a4_7, .int v4_8])), (o0, .inr (0, [.int v0_0, .int v0_1, .int v0_2, .int v0_3, .int v0_4, .ref a0_5, .int v0_6, .ref a0_7, .ref a0_8, .ref a0_9, .int (R.2.2.1), .ref a0_11, .ref a0_12, .ref a0_13, .ref a0_14, .int v0_15, .ref a0_16])), (a0_7, .inl (cyI, 1000, .inl R.2.2.2.1)), (a0_8, .inl (cyI, 1000, .inl R.2.2.2.2.1)), (a0_9, .inl (cyI, 1000, .inl R.2.2.2.2.2.1)), (a0_12, .inl (cyI, 1000, .inl R.2.2.2.2.2.2.1)), (a0_13, .inl (cyI, 1000, .inl R.2.2.2.2.2.2.2))] t.heap ∧ va_K (dC, dI) vwCl (x_T cyI cyZ cyJ) t ∧ va_D (va_A [(o8, .inr (8, [.ref o7, .ref o4, .ref o0, .ref o1, .ref o3, .ref o2])), (o7, .inr (7, [.ref a7_0, .ref a7_1, .int v7_2])), (o4, .inr (4, [.ref a4_0, .ref a4_1, .int v4_2, .ref a4_3, .ref a4_4, .ref a4_5, .ref a4_6, .ref a4_7, .int v4_8])), (o0, .inr (0, [.int v0_0, .int v0_1, .int v0_2, .int v0_3, .int v0_4, .ref a0_5, .int v0_6, .ref a0_7, .ref a0_8, .ref a0_9, .int v0_10, .ref a0_11, .ref a0_12, .ref a0_13, .ref a0_14, .int v0_15, .ref a0_16])), (a0_7, .inl (cyI, 1000, .inl g0_7)), (a0_8, .inl (cyI, 1000, .inl g0_8)), (a0_9, .inl (cyI, 1000, .inl g0_9)), (a0_12, .inl (cyI, 1000, .inl g0_12)), (a0_13, .inl (cyI, 1000, .inl g0_13))] sz) [(o8, .inr (8, [.ref o7, .ref o4, .ref o0, .ref o1, .ref o3, .ref o2])), (o7, .inr (7, [.ref a7_0, .ref a7_1, .int v7_2])), (o4, .inr (4, [.ref a4_0, .ref a4_1, .int v4_2, .ref a4_3, .ref a4_4, .ref a4_5, .ref a4_6, .ref a4_7, .int v4_8])), (o0, .inr (0, [.int v0_0, .int v0_1, .int v0_2, .int v0_3, .int v0_4, .ref a0_5, .int v0_6, .ref a0_7, .ref a0_8, .ref a0_9, .int (R.2.2.1), .ref a0_11, .ref a0_12, .ref a0_13, .ref a0_14, .int v0_15, .ref a0_16])), (a0_7, .inl (cyI, 1000, .inl R.2.2.2.1)), (a0_8, .inl (cyI, 1000, .inl R.2.2.2.2.1)), (a0_9, .inl (cyI, 1000, .inl R.2.2.2.2.2.1)), (a0_12, .inl (cyI, 1000, .inl R.2.2.2.2.2.2.1)), (a0_13, .inl (cyI, 1000, .inl R.2.2.2.2.2.2.2))])) (va_A [(o8, .inr (8, [.ref o7, .ref o4, .ref o0, .ref o1, .ref o3, .ref o2])), (o7, .inr (7, [.ref a7_0, .ref a7_1, .int v7_2])), (o4, .inr (4, [.ref a4_0, .ref a4_1, .int v4_2, .ref a4_3, .ref a4_4, .ref a4_5, .ref a4_6, .ref a4_7, .int v4_8])), (o0, .inr (0, [.int v0_0, .int v0_1, .int v0_2, .int v0_3, .int v0_4, .ref a0_5, .int v0_6, .ref a0_7, .ref a0_8, .ref a0_9, .int v0_10, .ref a0_11, .ref a0_12, .ref a0_13, .ref a0_14, .int v0_15, .ref a0_16])), (a0_7, .inl (cyI, 1000, .inl g0_7)), (a0_8, .inl (cyI, 1000, .inl g0_8)), (a0_9, .inl (cyI, 1000, .inl g0_9)), (a0_12, .inl (cyI, 1000, .inl g0_12)), (a0_13, .inl (cyI, 1000, .inl g0_13))] sz)) 1 6 (va_A [(o8, .inr (8, [.ref o7, .ref o4, .ref o0, .ref o1, .ref o3, .ref o2])), (o7, .inr (7, [.ref a7_0, .ref a7_1, .int v7_2])), (o4, .inr (4, [.ref a4_0, .ref a4_1, .int v4_2, .ref a4_3, .ref a4_4, .ref a4_5, .ref a4_6, .ref a4_7, .int v4_8])), (o0, .inr (0, [.int v0_0, .int v0_1, .int v0_2, .int v0_3, .int v0_4, .ref a0_5, .int v0_6, .ref a0_7, .ref a0_8, .ref a0_9, .int v0_10, .ref a0_11, .ref a0_12, .ref a0_13, .ref a0_14, .int v0_15, .ref a0_16])), (a0_7, .inl (cyI, 1000, .inl g0_7)), (a0_8, .inl (cyI, 1000, .inl g0_8)), (a0_9, .inl (cyI, 1000, .inl g0_9)), (a0_12, .inl (cyI, 1000, .inl g0_12)), (a0_13, .inl (cyI, 1000, .inl g0_13))] sz) := by
  refine vx_ofW (cc := cX8_put) (maxL := 4) (ret := (some .int)) (by decide) rfl ?_
  intro p e s m args below meth c s₁ B hml hno hv
  obtain ⟨rfl, ⟨⟨hsz, hP, hK, hN⟩, hD0⟩, hDb, hbz, hG⟩ := hv
  have hx := B.exec
  have hb := B.bytes
  have hr := B.returns
  have hts := atoms_spec (ws := wsX8_put) B.pre
  have hown : s.vm.findClass RX8 = some m.cls := findClass_of_methodNamed B.named
  have hlocks := B.notSynchronized
  have hts_1 := fun w (h : w ∈ (vx_atS RX8 67 "java/lang/IllegalArgumentException" ["java/lang/RuntimeException", "java/lang/Exception"]).filter goodWord) => hts w (u_X8_put_1 w h)
  have hts_2 := fun w (h : w ∈ (vx_atS RX8 78 "java/lang/IllegalStateException" ["java/lang/RuntimeException", "java/lang/Exception"]).filter goodWord) => hts w (u_X8_put_2 w h)
  have k_1 := hts (.fieldLink RX8 26 "FlowJudge" "code" "LFlowJudge$Code;") (by decide +kernel)
  have k_2 := hts (.classLink RX8 74 "java/lang/IllegalStateException") (by decide +kernel)
  have k_3 := hts (.initialized "java/lang/IllegalStateException") (by decide +kernel)
  have k_4 := hts (.classLink RX8 63 "java/lang/IllegalArgumentException") (by decide +kernel)
  have k_5 := hts (.initialized "java/lang/IllegalArgumentException") (by decide +kernel)
  subst hsz
  have hAb : ∀ q, va_A [(o8, .inr (8, [.ref o7, .ref o4, .ref o0, .ref o1, .ref o3, .ref o2])), (o7, .inr (7, [.ref a7_0, .ref a7_1, .int v7_2])), (o4, .inr (4, [.ref a4_0, .ref a4_1, .int v4_2, .ref a4_3, .ref a4_4, .ref a4_5, .ref a4_6, .ref a4_7, .int v4_8])), (o0, .inr (0, [.int v0_0, .int v0_1, .int v0_2, .int v0_3, .int v0_4, .ref a0_5, .int v0_6, .ref a0_7, .ref a0_8, .ref a0_9, .int v0_10, .ref a0_11, .ref a0_12, .ref a0_13, .ref a0_14, .int v0_15, .ref a0_16])), (a0_7, .inl (cyI, 1000, .inl g0_7)), (a0_8, .inl (cyI, 1000, .inl g0_8)), (a0_9, .inl (cyI, 1000, .inl g0_9)), (a0_12, .inl (cyI, 1000, .inl g0_12)), (a0_13, .inl (cyI, 1000, .inl g0_13))] s.heap.size q → x_new base q := x_Ab hDb hbz
  have hD := hD0.self (sz := s.heap.size)
  generalize hAe : va_A [(o8, .inr (8, [.ref o7, .ref o4, .ref o0, .ref o1, .ref o3, .ref o2])), (o7, .inr (7, [.ref a7_0, .ref a7_1, .int v7_2])), (o4, .inr (4, [.ref a4_0, .ref a4_1, .int v4_2, .ref a4_3, .ref a4_4, .ref a4_5, .ref a4_6, .ref a4_7, .int v4_8])), (o0, .inr (0, [.int v0_0, .int v0_1, .int v0_2, .int v0_3, .int v0_4, .ref a0_5, .int v0_6, .ref a0_7, .ref a0_8, .ref a0_9, .int v0_10, .ref a0_11, .ref a0_12, .ref a0_13, .ref a0_14, .int v0_15, .ref a0_16])), (a0_7, .inl (cyI, 1000, .inl g0_7)), (a0_8, .inl (cyI, 1000, .inl g0_8)), (a0_9, .inl (cyI, 1000, .inl g0_9)), (a0_12, .inl (cyI, 1000, .inl g0_12)), (a0_13, .inl (cyI, 1000, .inl g0_13))] s.heap.size = A at hD hAb ⊢
  have hA : ∀ q : Nat, s.heap.size ≤ q → A q := fun q h => by rw [← hAe]; exact Or.inr h
  have hP : va_P (dC, dI) vwCl [(o8, .inr (8, [.ref o7, .ref o4, .ref o0, .ref o1, .ref o3, .ref o2])), (o7, .inr (7, [.ref a7_0, .ref a7_1, .int v7_2])), (o4, .inr (4, [.ref a4_0, .ref a4_1, .int v4_2, .ref a4_3, .ref a4_4, .ref a4_5, .ref a4_6, .ref a4_7, .int v4_8])), (o0, .inr (0, [.int v0_0, .int v0_1, .int v0_2, .int v0_3, .int v0_4, .ref a0_5, .int v0_6, .ref a0_7, .ref a0_8, .ref a0_9, .int v0_10, .ref a0_11, .ref a0_12, .ref a0_13, .ref a0_14, .int v0_15, .ref a0_16])), (a0_7, .inl (cyI, 1000, .inl g0_7)), (a0_8, .inl (cyI, 1000, .inl g0_8)), (a0_9, .inl (cyI, 1000, .inl g0_9)), (a0_12, .inl (cyI, 1000, .inl g0_12)), (a0_13, .inl (cyI, 1000, .inl g0_13))] s.heap := hP
  have hl := lv_entry ([.ref o8, .int p1, .int p2, .int p3]) (n := 4) (Nat.le_of_ble_eq_true rfl)
  rw [lg_entry_eq]
  generalize (lg_sl ([.ref o8, .int p1, .int p2, .int p3]) ++ List.replicate (4 - (lg_sl ([.ref o8, .int p1, .int p2, .int p3])).length) Slot.unset).toArray = ls at hl ⊢
  have hl : lv_has ls 4 [(0, .ref o8), (1, .int p1), (2, .int p2), (3, .int p3)] := hl
  obtain ⟨H, hH⟩ : ∃ z, z = s.heap := ⟨_, rfl⟩
  refine x_here hH ?_
  have hP : va_P (dC, dI) vwCl [(o8, .inr (8, [.ref o7, .ref o4, .ref o0, .ref o1, .ref o3, .ref o2])), (o7, .inr (7, [.ref a7_0, .ref a7_1, .int v7_2])), (o4, .inr (4, [.ref a4_0, .ref a4_1, .int v4_2, .ref a4_3, .ref a4_4, .ref a4_5, .ref a4_6, .ref a4_7, .int v4_8])), (o0, .inr (0, [.int v0_0, .int v0_1, .int v0_2, .int v0_3, .int v0_4, .ref a0_5, .int v0_6, .ref a0_7, .ref a0_8, .ref a0_9, .int v0_10, .ref a0_11, .ref a0_12, .ref a0_13, .ref a0_14, .int v0_15, .ref a0_16])), (a0_7, .inl (cyI, 1000, .inl g0_7)), (a0_8, .inl (cyI, 1000, .inl g0_8)), (a0_9, .inl (cyI, 1000, .inl g0_9)), (a0_12, .inl (cyI, 1000, .inl g0_12)), (a0_13, .inl (cyI, 1000, .inl g0_13))] H := by rw [hH]; exact hP
  have hS : va_S A s.heap H [] := by rw [hH]; exact va_S.rf
  clear hH
  obtain ⟨locs, hlo⟩ : ∃ z : List Loc, z = [] := ⟨_, rfl⟩
  refine x_herl hlo ?_
  have hS : va_S A s.heap H locs := by rw [hlo]; exact hS
  clear hlo
  unfold f_X8_put at hf
  refine lv_aload_n hx hb dX8_put_0 rfl (lv_at hl 0 rfl) ?_
  refine lv_iload_n hx hb dX8_put_1 rfl (lv_at hl 1 rfl) ?_
  refine lv_iload_n hx hb dX8_put_2 rfl (lv_at hl 2 rfl) ?_
  refine lv_iload_n hx hb dX8_put_3 rfl (lv_at hl 3 rfl) ?_
  obtain ⟨r_1, h_1, hf⟩ := x_bi hf
  have hPc := hP.sub (ws' := [(o8, .inr (8, [.ref o7, .ref o4, .ref o0, .ref o1, .ref o3, .ref o2])), (o7, .inr (7, [.ref a7_0, .ref a7_1, .int v7_2])), (o4, .inr (4, [.ref a4_0, .ref a4_1, .int v4_2, .ref a4_3, .ref a4_4, .ref a4_5, .ref a4_6, .ref a4_7, .int v4_8]))]) [0, 1, 2] rfl
  refine va_calli (va_runV (As := [.int p1, .int p2, .int p3]) (rest := []) ⟨hx, hb, hml, hown, hts⟩ (c_X8_isInstruction l dC dI cyI cyZ cyJ H.size o8 o7 o4 o0 o1 o3 o2 a7_0 a7_1 v7_2 a4_0 a4_1 v4_2 a4_3 a4_4 a4_5 a4_6 a4_7 v4_8 p1 p2 p3 r_1 h_1) (cwV 3 hts gX8_put_X8_isInstruction rfl rfl rfl (by decide +kernel) ⟨Nat.le_of_ble_eq_true rfl, Nat.le_of_ble_eq_true rfl⟩) (x_pV hN hK hPc (ci := 8) (q0 := 0) rfl rfl) rfl rfl hl.1 rfl (lv_room (Nat.le_of_ble_eq_true rfl)) dX8_put_4 ⟨Nat.le_of_ble_eq_true rfl, Nat.le_of_ble_eq_true rfl⟩) hS x_nA (x_nf hA hS) (fun q_1 u t H1 locs ht hvm hw hB hz1 hk1 hS => ?_)
  have hP := x_kp hP hk1
  clear ht hvm hB hz1 hk1 t u hPc
  generalize H1 = H at hP hS ⊢
  obtain ⟨hw, b_1⟩ := hw
  obtain rfl := hw.symm
  refine lv_if_ne (tgt := 20) hx hb dX8_put_7 (by decide) (fun c_2 => ?_) (fun c_2 => ?_)
  · replace hf := x_in c_2 hf
    refine lv_aload_n hx hb dX8_put_20 rfl (lv_at hl 0 rfl) ?_
    refine va_get (D := (dC, dI)) (ci := 8) (v := .ref o0) (C := RX8) (T := TX8) (N := 6) hx hb hts i_X8_put_X8 hown hK hP 0 rfl rfl 2 (by decide) k_1 (fun _ h9 => h9) rfl dX8_put_21 ?_
    refine va_getN (D := (dC, dI)) (ci := 0) (v := .int v0_10) (C := RX0) (T := TX0) (N := 17) hx hb hts i_X8_put_X0 hown hK hP 3 rfl rfl 10 (by decide) ((hN.1 ("FlowJudge", 145, "FlowJudge$Code", "count", "I") (List.mem_of_getElem? (i := 5) rfl)).use rfl) (fun _ h9 => h9) rfl dX8_put_24 ?_
    refine lv_sipush (v := 1000) hx hb dX8_put_27 (by decide) ?_
    refine lv_icmp_lt (tgt := 43) hx hb dX8_put_30 (by decide) (fun c_3 => ?_) (fun c_3 => ?_)
    · replace hf := x_ip c_3 hf
      refine lv_aload_n hx hb dX8_put_43 rfl (lv_at hl 0 rfl) ?_
      refine va_get (D := (dC, dI)) (ci := 8) (v := .ref o0) (C := RX8) (T := TX8) (N := 6) hx hb hts i_X8_put_X8 hown hK hP 0 rfl rfl 2 (by decide) k_1 (fun _ h9 => h9) rfl dX8_put_44 ?_
      refine lv_iload_n hx hb dX8_put_47 rfl (lv_at hl 1 rfl) ?_
      refine lv_iload_n hx hb dX8_put_48 rfl (lv_at hl 2 rfl) ?_
      refine lv_iload_n hx hb dX8_put_49 rfl (lv_at hl 3 rfl) ?_
      obtain ⟨r_4, h_4, hf⟩ := x_bi hf
      have hPc := hP.sub (ws' := [(o0, .inr (0, [.int v0_0, .int v0_1, .int v0_2, .int v0_3, .int v0_4, .ref a0_5, .int v0_6, .ref a0_7, .ref a0_8, .ref a0_9, .int v0_10, .ref a0_11, .ref a0_12, .ref a0_13, .ref a0_14, .int v0_15, .ref a0_16])), (a0_7, .inl (cyI, 1000, .inl g0_7)), (a0_8, .inl (cyI, 1000, .inl g0_8)), (a0_9, .inl (cyI, 1000, .inl g0_9)), (a0_12, .inl (cyI, 1000, .inl g0_12)), (a0_13, .inl (cyI, 1000, .inl g0_13))]) [3, 4, 5, 6, 7, 8] rfl
      have hDc := hD.sub (ws' := [(o0, .inr (0, [.int v0_0, .int v0_1, .int v0_2, .int v0_3, .int v0_4, .ref a0_5, .int v0_6, .ref a0_7, .ref a0_8, .ref a0_9, .int v0_10, .ref a0_11, .ref a0_12, .ref a0_13, .ref a0_14, .int v0_15, .ref a0_16])), (a0_7, .inl (cyI, 1000, .inl g0_7)), (a0_8, .inl (cyI, 1000, .inl g0_8)), (a0_9, .inl (cyI, 1000, .inl g0_9)), (a0_12, .inl (cyI, 1000, .inl g0_12)), (a0_13, .inl (cyI, 1000, .inl g0_13))]) [3, 4, 5, 6, 7, 8] (by decide) rfl
      have hFc := va_free (wc := [(o0, .inr (0, [.int v0_0, .int v0_1, .int v0_2, .int v0_3, .int v0_4, .ref a0_5, .int v0_6, .ref a0_7, .ref a0_8, .ref a0_9, .int v0_10, .ref a0_11, .ref a0_12, .ref a0_13, .ref a0_14, .int v0_15, .ref a0_16])), (a0_7, .inl (cyI, 1000, .inl g0_7)), (a0_8, .inl (cyI, 1000, .inl g0_8)), (a0_9, .inl (cyI, 1000, .inl g0_9)), (a0_12, .inl (cyI, 1000, .inl g0_12)), (a0_13, .inl (cyI, 1000, .inl g0_13))]) hD hS hA [3, 4, 5, 6, 7, 8] rfl
      refine va_calli (va_runV (As := [.int p1, .int p2, .int p3]) (rest := []) ⟨hx, hb, hml, hown, hts⟩ (c_X0_enter l dC dI cyI cyZ cyJ H.size o0 v0_0 v0_1 v0_2 v0_3 v0_4 a0_5 v0_6 a0_7 a0_8 a0_9 v0_10 a0_11 a0_12 a0_13 a0_14 v0_15 a0_16 g0_7 g0_8 g0_9 g0_12 g0_13 p1 p2 p3 r_4 h_4) (cwV 3 hts gX8_put_X0_enter rfl rfl rfl (by decide +kernel) ⟨Nat.le_of_ble_eq_true rfl, Nat.le_of_ble_eq_true rfl⟩) (x_pVD hN hK hPc hDc (ci := 0) (q0 := 0) rfl rfl) rfl rfl hl.1 rfl (lv_room (Nat.le_of_ble_eq_true rfl)) dX8_put_50 ⟨Nat.le_of_ble_eq_true rfl, Nat.le_of_ble_eq_true rfl⟩) hS (fun q _ h => hFc q h) hFc (fun q_4 u t H1 locs ht hvm hw hB hz1 hk1 hS => ?_)
      obtain ⟨hP1, hK1, hD1⟩ := hB
      rw [ht] at hP1
      obtain ⟨hP, hD⟩ := va_join (wr := [(o8, .inr (8, [.ref o7, .ref o4, .ref o0, .ref o1, .ref o3, .ref o2])), (o7, .inr (7, [.ref a7_0, .ref a7_1, .int v7_2])), (o4, .inr (4, [.ref a4_0, .ref a4_1, .int v4_2, .ref a4_3, .ref a4_4, .ref a4_5, .ref a4_6, .ref a4_7, .int v4_8]))]) (w1 := [(o0, .inr (0, [.int v0_0, .int v0_1, .int v0_2, .int v0_3, .int v0_4, .ref a0_5, .int v0_6, .ref a0_7, .ref a0_8, .ref a0_9, .int (r_4.2.1), .ref a0_11, .ref a0_12, .ref a0_13, .ref a0_14, .int v0_15, .ref a0_16])), (a0_7, .inl (cyI, 1000, .inl r_4.2.2.1)), (a0_8, .inl (cyI, 1000, .inl r_4.2.2.2.1)), (a0_9, .inl (cyI, 1000, .inl r_4.2.2.2.2.1)), (a0_12, .inl (cyI, 1000, .inl r_4.2.2.2.2.2.1)), (a0_13, .inl (cyI, 1000, .inl r_4.2.2.2.2.2.2))]) hP hD [3, 4, 5, 6, 7, 8] [0, 1, 2] rfl rfl (by decide) (by decide) hk1 hFc hP1 hD1
      clear hz1 hk1 hPc hDc hFc hP1 hK1 hD1 ht hvm t u
      generalize H1 = H at hP hS ⊢
      have hP : va_P (dC, dI) vwCl [(o8, .inr (8, [.ref o7, .ref o4, .ref o0, .ref o1, .ref o3, .ref o2])), (o7, .inr (7, [.ref a7_0, .ref a7_1, .int v7_2])), (o4, .inr (4, [.ref a4_0, .ref a4_1, .int v4_2, .ref a4_3, .ref a4_4, .ref a4_5, .ref a4_6, .ref a4_7, .int v4_8])), (o0, .inr (0, [.int v0_0, .int v0_1, .int v0_2, .int v0_3, .int v0_4, .ref a0_5, .int v0_6, .ref a0_7, .ref a0_8, .ref a0_9, .int (r_4.2.1), .ref a0_11, .ref a0_12, .ref a0_13, .ref a0_14, .int v0_15, .ref a0_16])), (a0_7, .inl (cyI, 1000, .inl r_4.2.2.1)), (a0_8, .inl (cyI, 1000, .inl r_4.2.2.2.1)), (a0_9, .inl (cyI, 1000, .inl r_4.2.2.2.2.1)), (a0_12, .inl (cyI, 1000, .inl r_4.2.2.2.2.2.1)), (a0_13, .inl (cyI, 1000, .inl r_4.2.2.2.2.2.2))] H := hP
      have hD : va_D A [(o8, .inr (8, [.ref o7, .ref o4, .ref o0, .ref o1, .ref o3, .ref o2])), (o7, .inr (7, [.ref a7_0, .ref a7_1, .int v7_2])), (o4, .inr (4, [.ref a4_0, .ref a4_1, .int v4_2, .ref a4_3, .ref a4_4, .ref a4_5, .ref a4_6, .ref a4_7, .int v4_8])), (o0, .inr (0, [.int v0_0, .int v0_1, .int v0_2, .int v0_3, .int v0_4, .ref a0_5, .int v0_6, .ref a0_7, .ref a0_8, .ref a0_9, .int (r_4.2.1), .ref a0_11, .ref a0_12, .ref a0_13, .ref a0_14, .int v0_15, .ref a0_16])), (a0_7, .inl (cyI, 1000, .inl r_4.2.2.1)), (a0_8, .inl (cyI, 1000, .inl r_4.2.2.2.1)), (a0_9, .inl (cyI, 1000, .inl r_4.2.2.2.2.1)), (a0_12, .inl (cyI, 1000, .inl r_4.2.2.2.2.2.1)), (a0_13, .inl (cyI, 1000, .inl r_4.2.2.2.2.2.2))] := hD
      obtain rfl := hw.symm
      obtain rfl := Option.some.inj hf
      have hP9 := hP.sub (ws' := [(o8, .inr (8, [.ref o7, .ref o4, .ref o0, .ref o1, .ref o3, .ref o2])), (o7, .inr (7, [.ref a7_0, .ref a7_1, .int v7_2])), (o4, .inr (4, [.ref a4_0, .ref a4_1, .int v4_2, .ref a4_3, .ref a4_4, .ref a4_5, .ref a4_6, .ref a4_7, .int v4_8])), (o0, .inr (0, [.int v0_0, .int v0_1, .int v0_2, .int v0_3, .int v0_4, .ref a0_5, .int v0_6, .ref a0_7, .ref a0_8, .ref a0_9, .int (r_4.2.1), .ref a0_11, .ref a0_12, .ref a0_13, .ref a0_14, .int v0_15, .ref a0_16])), (a0_7, .inl (cyI, 1000, .inl r_4.2.2.1)), (a0_8, .inl (cyI, 1000, .inl r_4.2.2.2.1)), (a0_9, .inl (cyI, 1000, .inl r_4.2.2.2.2.1)), (a0_12, .inl (cyI, 1000, .inl r_4.2.2.2.2.2.1)), (a0_13, .inl (cyI, 1000, .inl r_4.2.2.2.2.2.2))]) [0, 1, 2, 3, 4, 5, 6, 7, 8] rfl
      have hD9 := hD.sub (ws' := [(o8, .inr (8, [.ref o7, .ref o4, .ref o0, .ref o1, .ref o3, .ref o2])), (o7, .inr (7, [.ref a7_0, .ref a7_1, .int v7_2])), (o4, .inr (4, [.ref a4_0, .ref a4_1, .int v4_2, .ref a4_3, .ref a4_4, .ref a4_5, .ref a4_6, .ref a4_7, .int v4_8])), (o0, .inr (0, [.int v0_0, .int v0_1, .int v0_2, .int v0_3, .int v0_4, .ref a0_5, .int v0_6, .ref a0_7, .ref a0_8, .ref a0_9, .int (r_4.2.1), .ref a0_11, .ref a0_12, .ref a0_13, .ref a0_14, .int v0_15, .ref a0_16])), (a0_7, .inl (cyI, 1000, .inl r_4.2.2.1)), (a0_8, .inl (cyI, 1000, .inl r_4.2.2.2.1)), (a0_9, .inl (cyI, 1000, .inl r_4.2.2.2.2.1)), (a0_12, .inl (cyI, 1000, .inl r_4.2.2.2.2.2.1)), (a0_13, .inl (cyI, 1000, .inl r_4.2.2.2.2.2.2))]) [0, 1, 2, 3, 4, 5, 6, 7, 8] (by decide) rfl
      refine vx_ret ?_
      refine W.widen (k := 1) (n := 6) (Nat.le_of_ble_eq_true rfl) (Nat.le_of_ble_eq_true rfl) ?_
      exact W.iret hx hb hr (fun t ht hW => ⟨⟨_, (), rfl, ⟨rfl, rfl⟩, by rw [ht]; exact hP9, va_K.moved hW.alike hK, hD9⟩, hS.F ht⟩) hS.2.2 dX8_put_53
    · replace hf := x_in c_3 hf
      obtain rfl := Option.some.inj hf
      obtain ⟨sa, hsa⟩ := hG.2.2.1 (146, "no more INSTRUCTIONS") (by decide)
      have hP9 := hP.sub (ws' := [(o8, .inr (8, [.ref o7, .ref o4, .ref o0, .ref o1, .ref o3, .ref o2])), (o7, .inr (7, [.ref a7_0, .ref a7_1, .int v7_2])), (o4, .inr (4, [.ref a4_0, .ref a4_1, .int v4_2, .ref a4_3, .ref a4_4, .ref a4_5, .ref a4_6, .ref a4_7, .int v4_8])), (o0, .inr (0, [.int v0_0, .int v0_1, .int v0_2, .int v0_3, .int v0_4, .ref a0_5, .int v0_6, .ref a0_7, .ref a0_8, .ref a0_9, .int v0_10, .ref a0_11, .ref a0_12, .ref a0_13, .ref a0_14, .int v0_15, .ref a0_16])), (a0_7, .inl (cyI, 1000, .inl g0_7)), (a0_8, .inl (cyI, 1000, .inl g0_8)), (a0_9, .inl (cyI, 1000, .inl g0_9)), (a0_12, .inl (cyI, 1000, .inl g0_12)), (a0_13, .inl (cyI, 1000, .inl g0_13))]) [0, 1, 2, 3, 4, 5, 6, 7, 8] rfl
      have hD9 := hD.sub (ws' := [(o8, .inr (8, [.ref o7, .ref o4, .ref o0, .ref o1, .ref o3, .ref o2])), (o7, .inr (7, [.ref a7_0, .ref a7_1, .int v7_2])), (o4, .inr (4, [.ref a4_0, .ref a4_1, .int v4_2, .ref a4_3, .ref a4_4, .ref a4_5, .ref a4_6, .ref a4_7, .int v4_8])), (o0, .inr (0, [.int v0_0, .int v0_1, .int v0_2, .int v0_3, .int v0_4, .ref a0_5, .int v0_6, .ref a0_7, .ref a0_8, .ref a0_9, .int v0_10, .ref a0_11, .ref a0_12, .ref a0_13, .ref a0_14, .int v0_15, .ref a0_16])), (a0_7, .inl (cyI, 1000, .inl g0_7)), (a0_8, .inl (cyI, 1000, .inl g0_8)), (a0_9, .inl (cyI, 1000, .inl g0_9)), (a0_12, .inl (cyI, 1000, .inl g0_12)), (a0_13, .inl (cyI, 1000, .inl g0_13))]) [0, 1, 2, 3, 4, 5, 6, 7, 8] (by decide) rfl
      refine vx_throwS (cls := "java/lang/IllegalStateException") (names := ["java/lang/RuntimeException", "java/lang/Exception"]) hx hb hl9 hown (by decide +kernel) (by decide +kernel) k_2 k_3 hsa (x_at2 hG.2.2.2 hts_2) (by decide +kernel) (hG.1.narrow hAb) (hG.2.1.narrow hAb) hS (hl.1.trans hml.symm) dX8_put_33 dX8_put_36 dX8_put_37 dX8_put_39 dX8_put_42 (fun z hz => (hno z hz).elim) (Nat.le_of_ble_eq_true rfl) (Nat.le_of_ble_eq_true rfl) (Nat.le_of_ble_eq_true rfl) (Nat.le_of_ble_eq_true rfl) hlocks (fun t ha h1 h2 => ⟨(), trivial, ⟨x_thr2, x_kp hP9 (fun q h _ => h2 q h), va_K.moved ha hK, hD9⟩, x_mv hS h1 h2⟩) hS.2.2 (Nat.le_of_ble_eq_true rfl) (Nat.le_of_ble_eq_true rfl)
  · replace hf := x_ip c_2 hf
    obtain rfl := Option.some.inj hf
    obtain ⟨sa, hsa⟩ := hG.2.2.1 (143, "no such INSTRUCTION") (by decide)
    have hP9 := hP.sub (ws' := [(o8, .inr (8, [.ref o7, .ref o4, .ref o0, .ref o1, .ref o3, .ref o2])), (o7, .inr (7, [.ref a7_0, .ref a7_1, .int v7_2])), (o4, .inr (4, [.ref a4_0, .ref a4_1, .int v4_2, .ref a4_3, .ref a4_4, .ref a4_5, .ref a4_6, .ref a4_7, .int v4_8])), (o0, .inr (0, [.int v0_0, .int v0_1, .int v0_2, .int v0_3, .int v0_4, .ref a0_5, .int v0_6, .ref a0_7, .ref a0_8, .ref a0_9, .int v0_10, .ref a0_11, .ref a0_12, .ref a0_13, .ref a0_14, .int v0_15, .ref a0_16])), (a0_7, .inl (cyI, 1000, .inl g0_7)), (a0_8, .inl (cyI, 1000, .inl g0_8)), (a0_9, .inl (cyI, 1000, .inl g0_9)), (a0_12, .inl (cyI, 1000, .inl g0_12)), (a0_13, .inl (cyI, 1000, .inl g0_13))]) [0, 1, 2, 3, 4, 5, 6, 7, 8] rfl
    have hD9 := hD.sub (ws' := [(o8, .inr (8, [.ref o7, .ref o4, .ref o0, .ref o1, .ref o3, .ref o2])), (o7, .inr (7, [.ref a7_0, .ref a7_1, .int v7_2])), (o4, .inr (4, [.ref a4_0, .ref a4_1, .int v4_2, .ref a4_3, .ref a4_4, .ref a4_5, .ref a4_6, .ref a4_7, .int v4_8])), (o0, .inr (0, [.int v0_0, .int v0_1, .int v0_2, .int v0_3, .int v0_4, .ref a0_5, .int v0_6, .ref a0_7, .ref a0_8, .ref a0_9, .int v0_10, .ref a0_11, .ref a0_12, .ref a0_13, .ref a0_14, .int v0_15, .ref a0_16])), (a0_7, .inl (cyI, 1000, .inl g0_7)), (a0_8, .inl (cyI, 1000, .inl g0_8)), (a0_9, .inl (cyI, 1000, .inl g0_9)), (a0_12, .inl (cyI, 1000, .inl g0_12)), (a0_13, .inl (cyI, 1000, .inl g0_13))]) [0, 1, 2, 3, 4, 5, 6, 7, 8] (by decide) rfl
    refine vx_throwS (cls := "java/lang/IllegalArgumentException") (names := ["java/lang/RuntimeException", "java/lang/Exception"]) hx hb hl9 hown (by decide +kernel) (by decide +kernel) k_4 k_5 hsa (x_at1 hG.2.2.2 hts_1) (by decide +kernel) (hG.1.narrow hAb) (hG.2.1.narrow hAb) hS (hl.1.trans hml.symm) dX8_put_10 dX8_put_13 dX8_put_14 dX8_put_16 dX8_put_19 (fun z hz => (hno z hz).elim) (Nat.le_of_ble_eq_true rfl) (Nat.le_of_ble_eq_true rfl) (Nat.le_of_ble_eq_true rfl) (Nat.le_of_ble_eq_true rfl) hlocks (fun t ha h1 h2 => ⟨(), trivial, ⟨x_thr1, x_kp hP9 (fun q h _ => h2 q h), va_K.moved ha hK, hD9⟩, x_mv hS h1 h2⟩) hS.2.2 (Nat.le_of_ble_eq_true rfl) (Nat.le_of_ble_eq_true rfl)

theorem i_X8_to_X8 : ∀ w ∈ wsX80, w ∈ wsX8_to := by decide +kernel
theorem u_X8_to_1 : ∀ w ∈ (vx_atS RX8 67 "java/lang/IllegalArgumentException" ["java/lang/RuntimeException", "java/lang/Exception"]).filter goodWord, w ∈ wsX8_to := by decide +kernel
theorem u_X8_to_2 : ∀ w ∈ (vx_atS RX8 78 "java/lang/IllegalStateException" ["java/lang/RuntimeException", "java/lang/Exception"]).filter goodWord, w ∈ wsX8_to := by decide +kernel
set_option maxHeartbeats 40000000 in
set_option maxRecDepth 100000 in
theorem c_X8_to (l : Launch) (hl9 : l.stackTraces = false) (dC : Nat → ClassId) (dI : Nat → Nat → Nat) (cyI cyZ cyJ : ClassId) (sz : Nat) (base : Nat) (o8 : Nat) (o7 : Nat) (o4 : Nat) (o0 : Nat) (o1 : Nat) (o3 : Nat) (o2 : Nat) (v0_0 : Int32) (v0_1 : Int32) (v0_2 : Int32) (v0_3 : Int32) (v0_4 : Int32) (a0_5 : Nat) (v0_6 : Int32) (a0_7 : Nat) (a0_8 : Nat) (a0_9 : Nat) (v0_10 : Int32) (a0_11 : Nat) (a0_12 : Nat) (a0_13 : Nat) (a0_14 : Nat) (v0_15 : Int32) (a0_16 : Nat) (g0_7 : Nat → Int32) (g0_11 : Nat → Int32) (n0_11 : Nat) (g0_12 : Nat → Int32) (g0_13 : Nat → Int32) (p1 : Int32) (R : Int32 × Int32 × (Nat → Int32) × Nat × (Nat → Int32) × Nat × Nat) (hf : f_X8_to v0_10 g0_7 g0_11 n0_11 g0_12 g0_13 p1 = some R) : vx_Met l yX8_to wsX8_to ({ frames := 6, cells := R.2.2.2.2.2.1, slots := R.2.2.2.2.2.2, locals := 106 }) (va_Pc [.ref o8, .int p1] (x_PreX (dC, dI) (x_T cyI cyZ cyJ) [(o8, .inr (8, [.ref o7, .ref o4, .ref o0, .ref o1, .ref o3, .ref o2])), (o0, .inr (0, [.int v0_0, .int v0_1, .int v0_2, .int v0_3, .int v0_4, .ref a0_5, .int v0_6, .ref a0_7, .ref a0_8, .ref a0_9, .int v0_10, .ref a0_11, .ref a0_12, .ref a0_13, .ref a0_14, .int v0_15, .ref a0_16])), (a0_7, .inl (cyI, 1000, .inl g0_7)), (a0_11, .inl (cyI, n0_11, .inl g0_11)), (a0_12, .inl (cyI, 1000, .inl g0_12)), (a0_13, .inl (cyI, 1000, .inl g0_13))] base sz)) (va_Qi (fun (r : Int32) (_ : Unit) => R.1 = 0 ∧ r = R.2.1) (fun (_ : Unit) (t : State) => ∃ (a0_11_9 : Nat), va_P (dC, dI) vwCl [(o8, .inr (8, [.ref o7, .ref o4, .ref o0, .ref o1, .ref o3, .ref o2])), (o0, .inr (0, [.int v0_0, .int v0_1, .int v0_2, .int v0_3, .int v0_4, .ref a0_5, .int v0_6, .ref a0_7, .ref a0_8, .ref a0_9, .int v0_10, .ref a0_11_9, .ref a0_12, .ref a0_13, .ref a0_14, .int v0_15, .ref a0_16])), (a0_7, .inl (cyI, 1000, .inl g0_7)), (a0_11_9, .inl (cyI, R.2.2.2.1, .inl R.2.2.1)), (a0_12, .inl (cyI, 1000, .inl g0_12)), (a0_13, .inl (cyI, 1000, .inl R.2.2.2.2.1))] t.heap ∧ va_K (dC, dI) vwCl (x_T cyI cyZ cyJ) t ∧ va_D (va_A [(o8, .inr (8, [.ref o7, .ref o4, .ref o0, .ref o1, .ref o3, .ref o2])), (o0, .inr (0, [.int v0_0, .int v0_1, .int v0_2, .int v0_3, .int v0_4, .ref a0_5, .int v0_6, .ref a0_7, .ref a0_8, .ref a0_9, .int v0_10, .ref a0_11, .ref a0_12, .ref a0_13, .ref a0_14, .int v0_15, .ref a0_16])), (a0_7, .inl (cyI, 1000, .inl g0_7)), (a0_11, .inl (cyI, n0_11, .inl g0_11)), (a0_12, .inl (cyI, 1000, .inl g0_12)), (a0_13, .inl (cyI, 1000, .inl g0_13))] sz) [(o8, .inr (8, [.ref o7, .ref o4, .ref o0, .ref o1, .ref o3, .ref o2])), (o0, .inr (0, [.int v0_0, .int v0_1, .int v0_2, .int v0_3, .int v0_4, .ref a0_5, .int v0_6, .ref a0_7, .ref a0_8, .ref a0_9, .int v0_10, .ref a0_11_9, .ref a0_12, .ref a0_13, .ref a0_14, .int v0_15, .ref a0_16])), (a0_7, .inl (cyI, 1000, .inl g0_7)), (a0_11_9, .inl (cyI, R.2.2.2.1, .inl R.2.2.1)), (a0_12, .inl (cyI, 1000, .inl g0_12)), (a0_13, .inl (cyI, 1000, .inl R.2.2.2.2.1))]) (va_A [(o8, .inr (8, [.ref o7, .ref o4, .ref o0, .ref o1, .ref o3, .ref o2])), (o0, .inr (0, [.int v0_0, .int v0_1, .int v0_2, .int v0_3, .int v0_4, .ref a0_5, .int v0_6, .ref a0_7, .ref a0_8, .ref a0_9, .int v0_10, .ref a0_11, .ref a0_12, .ref a0_13, .ref a0_14, .int v0_15, .ref a0_16])), (a0_7, .inl (cyI, 1000, .inl g0_7)), (a0_11, .inl (cyI, n0_11, .inl g0_11)), (a0_12, .inl (cyI, 1000, .inl g0_12)), (a0_13, .inl (cyI, 1000, .inl g0_13))] sz)) (vx_X (fun _ : Unit => True) (fun (E : String) (_ : Unit) (t : State) => x_thr R.1 E ∧ (∃ (a0_11_9 : Nat), va_P (dC, dI) vwCl [(o8, .inr (8, [.ref o7, .ref o4, .ref o0, .ref o1, .ref o3, .ref o2])), (o0, .inr (0, [.int v0_0, .int v0_1, .int v0_2, .int v0_3, .int v0_4, .ref a0_5, .int v0_6, .ref a0_7, .ref a0_8, .ref a0_9, .int v0_10, .ref a0_11_9, .ref a0_12, .ref a0_13, .ref a0_14, .int v0_15, .ref a0_16])), (a0_7, .inl (cyI, 1000, .inl g0_7)), (a0_11_9, .inl (cyI, R.2.2.2.1, .inl R.2.2.1)), (a0_12, .inl (cyI, 1000, .inl g0_12)), (a0_13, .inl (cyI, 1000, .inl R.2.2.2.2.1))] t.heap ∧ va_K (dC, dI) vwCl (x_T cyI cyZ cyJ) t ∧ va_D (va_A [(o8, .inr (8, [.ref o7, .ref o4, .ref o0, .ref o1, .ref o3, .ref o2])), (o0, .inr (0, [.int v0_0, .int v0_1, .int v0_2, .int v0_3, .int v0_4, .ref a0_5, .int v0_6, .ref a0_7, .ref a0_8, .ref a0_9, .int v0_10, .ref a0_11, .ref a0_12, .ref a0_13, .ref a0_14, .int v0_15, .ref a0_16])), (a0_7, .inl (cyI, 1000, .inl g0_7)), (a0_11, .inl (cyI, n0_11, .inl g0_11)), (a0_12, .inl (cyI, 1000, .inl g0_12)), (a0_13, .inl (cyI, 1000, .inl g0_13))] sz) [(o8, .inr (8, [.ref o7, .ref o4, .ref o0, .ref o1, .ref o3, .ref o2])), (o0, .inr (0, [.int v0_0, .int v0_1, .int v0_2, .int v0_3, .int v0_4, .ref a0_5, .int v0_6, .ref a0_7, .ref a0_8, .ref a0_9, .int v0_10, .ref a0_11_9, .ref a0_12, .ref a0_13, .ref a0_14, .int v0_15, .ref a0_16])), (a0_7, .inl (cyI, 1000, .inl g0_7)), (a0_11_9, .inl (cyI, R.2.2.2.1, .inl R.2.2.1)), (a0_12, .inl (cyI, 1000, .inl g0_12)), (a0_13, .inl (cyI, 1000, .inl R.2.2.2.2.1))])) (va_A [(o8, .inr (8, [.ref o7, .ref o4, .ref o0, .ref o1, .ref o3, .ref o2])), (o0, .inr (0, [.int v0_0, .int v0_1, .int v0_2, .int v0_3, .int v0_4, .ref a0_5, .int v0_6, .ref a0_7, .ref a0_8, .ref a0_9, .int v0_10, .ref a0_11, .ref a0_12, .ref a0_13, .ref a0_14, .int v0_15, .ref a0_16])), (a0_7, .inl (cyI, 1000, .inl g0_7)), (a0_11, .inl (cyI, n0_11, .inl g0_11)), (a0_12, .inl (cyI, 1000, .inl g0_12)), (a0_13, .inl (cyI, 1000, .inl g0_13))] sz)) (R.2.2.2.2.2.1) (R.2.2.2.2.2.2) (va_A [(o8, .inr (8, [.ref o7, .ref o4, .ref o0, .ref o1, .ref o3, .ref o2])), (o0, .inr (0, [.int v0_0, .int v0_1, .int v0_2, .int v0_3, .int v0_4, .ref a0_5, .int v0_6, .ref a0_7, .ref a0_8, .ref a0_9, .int v0_10, .ref a0_11, .ref a0_12, .ref a0_13, .ref a0_14, .int v0_15, .ref a0_16])), (a0_7, .inl (cyI, 1000, .inl g0_7)), (a0_11, .inl (cyI, n0_11, .inl g0_11)), (a0_12, .inl (cyI, 1000, .inl g0_12)), (a0_13, .inl (cyI, 1000, .inl g0_13))] sz) := by
  refine vx_ofW (cc := cX8_to) (maxL := 2) (ret := (some .int)) (by decide) rfl ?_
  intro p e s m args below meth c s₁ B hml hno hv
  obtain ⟨rfl, ⟨⟨hsz, hP, hK, hN⟩, hD0⟩, hDb, hbz, hG⟩ := hv
  have hx := B.exec
  have hb := B.bytes
  have hr := B.returns
  have hts := atoms_spec (ws := wsX8_to) B.pre
  have hown : s.vm.findClass RX8 = some m.cls := findClass_of_methodNamed B.named
  have hlocks := B.notSynchronized
  have hts_1 := fun w (h : w ∈ (vx_atS RX8 67 "java/lang/IllegalArgumentException" ["java/lang/RuntimeException", "java/lang/Exception"]).filter goodWord) => hts w (u_X8_to_1 w h)
  have hts_2 := fun w (h : w ∈ (vx_atS RX8 78 "java/lang/IllegalStateException" ["java/lang/RuntimeException", "java/lang/Exception"]).filter goodWord) => hts w (u_X8_to_2 w h)
  have k_1 := hts (.fieldLink RX8 26 "FlowJudge" "code" "LFlowJudge$Code;") (by decide +kernel)
  have k_2 := hts (.classLink RX8 74 "java/lang/IllegalStateException") (by decide +kernel)
  have k_3 := hts (.initialized "java/lang/IllegalStateException") (by decide +kernel)
  have k_4 := hts (.classLink RX8 63 "java/lang/IllegalArgumentException") (by decide +kernel)
  have k_5 := hts (.initialized "java/lang/IllegalArgumentException") (by decide +kernel)
  subst hsz
  have hAb : ∀ q, va_A [(o8, .inr (8, [.ref o7, .ref o4, .ref o0, .ref o1, .ref o3, .ref o2])), (o0, .inr (0, [.int v0_0, .int v0_1, .int v0_2, .int v0_3, .int v0_4, .ref a0_5, .int v0_6, .ref a0_7, .ref a0_8, .ref a0_9, .int v0_10, .ref a0_11, .ref a0_12, .ref a0_13, .ref a0_14, .int v0_15, .ref a0_16])), (a0_7, .inl (cyI, 1000, .inl g0_7)), (a0_11, .inl (cyI, n0_11, .inl g0_11)), (a0_12, .inl (cyI, 1000, .inl g0_12)), (a0_13, .inl (cyI, 1000, .inl g0_13))] s.heap.size q → x_new base q := x_Ab hDb hbz
  have hD := hD0.self (sz := s.heap.size)
  generalize hAe : va_A [(o8, .inr (8, [.ref o7, .ref o4, .ref o0, .ref o1, .ref o3, .ref o2])), (o0, .inr (0, [.int v0_0, .int v0_1, .int v0_2, .int v0_3, .int v0_4, .ref a0_5, .int v0_6, .ref a0_7, .ref a0_8, .ref a0_9, .int v0_10, .ref a0_11, .ref a0_12, .ref a0_13, .ref a0_14, .int v0_15, .ref a0_16])), (a0_7, .inl (cyI, 1000, .inl g0_7)), (a0_11, .inl (cyI, n0_11, .inl g0_11)), (a0_12, .inl (cyI, 1000, .inl g0_12)), (a0_13, .inl (cyI, 1000, .inl g0_13))] s.heap.size = A at hD hAb ⊢
  have hA : ∀ q : Nat, s.heap.size ≤ q → A q := fun q h => by rw [← hAe]; exact Or.inr h
  have hP : va_P (dC, dI) vwCl [(o8, .inr (8, [.ref o7, .ref o4, .ref o0, .ref o1, .ref o3, .ref o2])), (o0, .inr (0, [.int v0_0, .int v0_1, .int v0_2, .int v0_3, .int v0_4, .ref a0_5, .int v0_6, .ref a0_7, .ref a0_8, .ref a0_9, .int v0_10, .ref a0_11, .ref a0_12, .ref a0_13, .ref a0_14, .int v0_15, .ref a0_16])), (a0_7, .inl (cyI, 1000, .inl g0_7)), (a0_11, .inl (cyI, n0_11, .inl g0_11)), (a0_12, .inl (cyI, 1000, .inl g0_12)), (a0_13, .inl (cyI, 1000, .inl g0_13))] s.heap := hP
  have hl := lv_entry ([.ref o8, .int p1]) (n := 2) (Nat.le_of_ble_eq_true rfl)
  rw [lg_entry_eq]
  generalize (lg_sl ([.ref o8, .int p1]) ++ List.replicate (2 - (lg_sl ([.ref o8, .int p1])).length) Slot.unset).toArray = ls at hl ⊢
  have hl : lv_has ls 2 [(0, .ref o8), (1, .int p1)] := hl
  obtain ⟨H, hH⟩ : ∃ z, z = s.heap := ⟨_, rfl⟩
  refine x_here hH ?_
  have hP : va_P (dC, dI) vwCl [(o8, .inr (8, [.ref o7, .ref o4, .ref o0, .ref o1, .ref o3, .ref o2])), (o0, .inr (0, [.int v0_0, .int v0_1, .int v0_2, .int v0_3, .int v0_4, .ref a0_5, .int v0_6, .ref a0_7, .ref a0_8, .ref a0_9, .int v0_10, .ref a0_11, .ref a0_12, .ref a0_13, .ref a0_14, .int v0_15, .ref a0_16])), (a0_7, .inl (cyI, 1000, .inl g0_7)), (a0_11, .inl (cyI, n0_11, .inl g0_11)), (a0_12, .inl (cyI, 1000, .inl g0_12)), (a0_13, .inl (cyI, 1000, .inl g0_13))] H := by rw [hH]; exact hP
  have hS : va_S A s.heap H [] := by rw [hH]; exact va_S.rf
  clear hH
  obtain ⟨locs, hlo⟩ : ∃ z : List Loc, z = [] := ⟨_, rfl⟩
  refine x_herl hlo ?_
  have hS : va_S A s.heap H locs := by rw [hlo]; exact hS
  clear hlo
  unfold f_X8_to at hf
  obtain ⟨Z_0, hZ0⟩ : ∃ z, z = R := ⟨_, rfl⟩
  rw [← hZ0] at hf
  have hR : R = (Z_0.1, Z_0.2.1, Z_0.2.2.1, Z_0.2.2.2.1, Z_0.2.2.2.2.1, Z_0.2.2.2.2.2.1 + 0, Z_0.2.2.2.2.2.2 + 0) := by subst hZ0; rfl
  clear hZ0
  have hRc := congrArg (fun z => z.2.2.2.2.2.1) hR
  have hRs := congrArg (fun z => z.2.2.2.2.2.2) hR
  dsimp only at hRc hRs
  refine lv_iload_n hx hb dX8_to_0 rfl (lv_at hl 1 rfl) ?_
  refine lv_if_ge (tgt := 14) hx hb dX8_to_1 (by decide) (fun c_1 => ?_) (fun c_1 => ?_)
  · replace hf := x_ip c_1 hf
    refine lv_aload_n hx hb dX8_to_14 rfl (lv_at hl 0 rfl) ?_
    refine va_get (D := (dC, dI)) (ci := 8) (v := .ref o0) (C := RX8) (T := TX8) (N := 6) hx hb hts i_X8_to_X8 hown hK hP 0 rfl rfl 2 (by decide) k_1 (fun _ h9 => h9) rfl dX8_to_15 ?_
    replace hf := x_bi hf
    obtain ⟨r_2, h_2, hf⟩ := hf
    have hPc := hP.sub (ws' := [(o0, .inr (0, [.int v0_0, .int v0_1, .int v0_2, .int v0_3, .int v0_4, .ref a0_5, .int v0_6, .ref a0_7, .ref a0_8, .ref a0_9, .int v0_10, .ref a0_11, .ref a0_12, .ref a0_13, .ref a0_14, .int v0_15, .ref a0_16])), (a0_7, .inl (cyI, 1000, .inl g0_7)), (a0_12, .inl (cyI, 1000, .inl g0_12)), (a0_13, .inl (cyI, 1000, .inl g0_13))]) [1, 2, 4, 5] rfl
    refine va_calli (va_runV (As := []) (rest := []) ⟨hx, hb, hml, hown, hts⟩ (c_X0_canSwitchToMore l dC dI cyI cyZ cyJ H.size o0 v0_0 v0_1 v0_2 v0_3 v0_4 a0_5 v0_6 a0_7 a0_8 a0_9 v0_10 a0_11 a0_12 a0_13 a0_14 v0_15 a0_16 g0_7 g0_12 g0_13 r_2 h_2) (cwV 0 hts gX8_to_X0_canSwitchToMore rfl rfl rfl (by decide +kernel) ⟨Nat.le_of_ble_eq_true rfl, Nat.le_of_ble_eq_true rfl⟩) (x_pV hN hK hPc (ci := 0) (q0 := 0) rfl rfl) rfl rfl hl.1 rfl (lv_room (Nat.le_of_ble_eq_true rfl)) dX8_to_18 ⟨by dsimp only [headSpec]; omega, by dsimp only [headSpec]; omega⟩) hS x_nA (x_nf hA hS) (fun q_2 u t H1 locs ht hvm hw hB hz1 hk1 hS => ?_)
    have hP := x_kp hP hk1
    clear ht hvm hB hz1 hk1 t u hPc
    generalize H1 = H at hP hS ⊢
    obtain ⟨hw, b_2⟩ := hw
    obtain rfl := hw.symm
    refine lv_if_ne (tgt := 34) hx hb dX8_to_21 (by decide) (fun c_3 => ?_) (fun c_3 => ?_)
    · replace hf := x_in c_3 hf
      refine lv_aload_n hx hb dX8_to_34 rfl (lv_at hl 0 rfl) ?_
      refine va_get (D := (dC, dI)) (ci := 8) (v := .ref o0) (C := RX8) (T := TX8) (N := 6) hx hb hts i_X8_to_X8 hown hK hP 0 rfl rfl 2 (by decide) k_1 (fun _ h9 => h9) rfl dX8_to_35 ?_
      refine lv_iload_n hx hb dX8_to_38 rfl (lv_at hl 1 rfl) ?_
      replace hf := x_bi hf
      obtain ⟨r_4, h_4, hf⟩ := hf
      replace hf := x_bi hf
      obtain ⟨Z_5, hf, he⟩ := hf
      obtain rfl := Option.some.inj he
      dsimp only at hR
      clear hRc hRs
      have hRc := congrArg (fun z => z.2.2.2.2.2.1) hR
      have hRs := congrArg (fun z => z.2.2.2.2.2.2) hR
      dsimp only at hRc hRs
      have hPc := hP.sub (ws' := [(o0, .inr (0, [.int v0_0, .int v0_1, .int v0_2, .int v0_3, .int v0_4, .ref a0_5, .int v0_6, .ref a0_7, .ref a0_8, .ref a0_9, .int v0_10, .ref a0_11, .ref a0_12, .ref a0_13, .ref a0_14, .int v0_15, .ref a0_16])), (a0_11, .inl (cyI, n0_11, .inl g0_11)), (a0_12, .inl (cyI, 1000, .inl g0_12)), (a0_13, .inl (cyI, 1000, .inl g0_13))]) [1, 3, 4, 5] rfl
      have hDc := hD.sub (ws' := [(o0, .inr (0, [.int v0_0, .int v0_1, .int v0_2, .int v0_3, .int v0_4, .ref a0_5, .int v0_6, .ref a0_7, .ref a0_8, .ref a0_9, .int v0_10, .ref a0_11, .ref a0_12, .ref a0_13, .ref a0_14, .int v0_15, .ref a0_16])), (a0_11, .inl (cyI, n0_11, .inl g0_11)), (a0_12, .inl (cyI, 1000, .inl g0_12)), (a0_13, .inl (cyI, 1000, .inl g0_13))]) [1, 3, 4, 5] (by decide) rfl
      have hFc := va_free (wc := [(o0, .inr (0, [.int v0_0, .int v0_1, .int v0_2, .int v0_3, .int v0_4, .ref a0_5, .int v0_6, .ref a0_7, .ref a0_8, .ref a0_9, .int v0_10, .ref a0_11, .ref a0_12, .ref a0_13, .ref a0_14, .int v0_15, .ref a0_16])), (a0_11, .inl (cyI, n0_11, .inl g0_11)), (a0_12, .inl (cyI, 1000, .inl g0_12)), (a0_13, .inl (cyI, 1000, .inl g0_13))]) hD hS hA [1, 3, 4, 5] rfl
      refine va_calli (va_runV (As := [.int p1]) (rest := []) ⟨hx, hb, hml, hown, hts⟩ (c_X0_switchToMore l dC dI cyI cyZ cyJ H.size o0 v0_0 v0_1 v0_2 v0_3 v0_4 a0_5 v0_6 a0_7 a0_8 a0_9 v0_10 a0_11 a0_12 a0_13 a0_14 v0_15 a0_16 g0_11 n0_11 g0_12 g0_13 p1 r_4 h_4) (cwV 1 hts gX8_to_X0_switchToMore rfl rfl rfl (by decide +kernel) ⟨Nat.le_of_ble_eq_true rfl, Nat.le_of_ble_eq_true rfl⟩) (x_pVD hN hK hPc hDc (ci := 0) (q0 := 0) rfl rfl) rfl rfl hl.1 rfl (lv_room (Nat.le_of_ble_eq_true rfl)) dX8_to_39 ⟨by dsimp only [headSpec]; omega, by dsimp only [headSpec]; omega⟩) hS (fun q _ h => hFc q h) hFc (fun q_4 u t H1 locs ht hvm hw hB hz1 hk1 hS => ?_)
      obtain ⟨a0_11_4, hP1, hK1, hD1⟩ := hB
      rw [ht] at hP1
      obtain ⟨hP, hD⟩ := va_join (wr := [(o8, .inr (8, [.ref o7, .ref o4, .ref o0, .ref o1, .ref o3, .ref o2])), (a0_7, .inl (cyI, 1000, .inl g0_7))]) (w1 := [(o0, .inr (0, [.int v0_0, .int v0_1, .int v0_2, .int v0_3, .int v0_4, .ref a0_5, .int v0_6, .ref a0_7, .ref a0_8, .ref a0_9, .int v0_10, .ref a0_11_4, .ref a0_12, .ref a0_13, .ref a0_14, .int v0_15, .ref a0_16])), (a0_11_4, .inl (cyI, r_4.2.2.1, .inl r_4.2.1)), (a0_12, .inl (cyI, 1000, .inl g0_12)), (a0_13, .inl (cyI, 1000, .inl r_4.2.2.2.1))]) hP hD [1, 3, 4, 5] [0, 2] rfl rfl (by decide) (by decide) hk1 hFc hP1 hD1
      clear hz1 hk1 hPc hDc hFc hP1 hK1 hD1 ht hvm t u
      generalize H1 = H at hP hS ⊢
      have hP : va_P (dC, dI) vwCl [(o8, .inr (8, [.ref o7, .ref o4, .ref o0, .ref o1, .ref o3, .ref o2])), (a0_7, .inl (cyI, 1000, .inl g0_7)), (o0, .inr (0, [.int v0_0, .int v0_1, .int v0_2, .int v0_3, .int v0_4, .ref a0_5, .int v0_6, .ref a0_7, .ref a0_8, .ref a0_9, .int v0_10, .ref a0_11_4, .ref a0_12, .ref a0_13, .ref a0_14, .int v0_15, .ref a0_16])), (a0_11_4, .inl (cyI, r_4.2.2.1, .inl r_4.2.1)), (a0_12, .inl (cyI, 1000, .inl g0_12)), (a0_13, .inl (cyI, 1000, .inl r_4.2.2.2.1))] H := hP
      have hD : va_D A [(o8, .inr (8, [.ref o7, .ref o4, .ref o0, .ref o1, .ref o3, .ref o2])), (a0_7, .inl (cyI, 1000, .inl g0_7)), (o0, .inr (0, [.int v0_0, .int v0_1, .int v0_2, .int v0_3, .int v0_4, .ref a0_5, .int v0_6, .ref a0_7, .ref a0_8, .ref a0_9, .int v0_10, .ref a0_11_4, .ref a0_12, .ref a0_13, .ref a0_14, .int v0_15, .ref a0_16])), (a0_11_4, .inl (cyI, r_4.2.2.1, .inl r_4.2.1)), (a0_12, .inl (cyI, 1000, .inl g0_12)), (a0_13, .inl (cyI, 1000, .inl r_4.2.2.2.1))] := hD
      obtain rfl := hw.symm
      obtain rfl := Option.some.inj hf
      dsimp only at hR
      clear hRc hRs
      subst hR
      have hP9 := hP.sub (ws' := [(o8, .inr (8, [.ref o7, .ref o4, .ref o0, .ref o1, .ref o3, .ref o2])), (o0, .inr (0, [.int v0_0, .int v0_1, .int v0_2, .int v0_3, .int v0_4, .ref a0_5, .int v0_6, .ref a0_7, .ref a0_8, .ref a0_9, .int v0_10, .ref a0_11_4, .ref a0_12, .ref a0_13, .ref a0_14, .int v0_15, .ref a0_16])), (a0_7, .inl (cyI, 1000, .inl g0_7)), (a0_11_4, .inl (cyI, r_4.2.2.1, .inl r_4.2.1)), (a0_12, .inl (cyI, 1000, .inl g0_12)), (a0_13, .inl (cyI, 1000, .inl r_4.2.2.2.1))]) [0, 2, 1, 3, 4, 5] rfl
      have hD9 := hD.sub (ws' := [(o8, .inr (8, [.ref o7, .ref o4, .ref o0, .ref o1, .ref o3, .ref o2])), (o0, .inr (0, [.int v0_0, .int v0_1, .int v0_2, .int v0_3, .int v0_4, .ref a0_5, .int v0_6, .ref a0_7, .ref a0_8, .ref a0_9, .int v0_10, .ref a0_11_4, .ref a0_12, .ref a0_13, .ref a0_14, .int v0_15, .ref a0_16])), (a0_7, .inl (cyI, 1000, .inl g0_7)), (a0_11_4, .inl (cyI, r_4.2.2.1, .inl r_4.2.1)), (a0_12, .inl (cyI, 1000, .inl g0_12)), (a0_13, .inl (cyI, 1000, .inl r_4.2.2.2.1))]) [0, 2, 1, 3, 4, 5] (by decide) rfl
      refine vx_ret ?_
      refine W.widen (k := 0 + r_4.2.2.2.2.1 + 0) (n := 0 + r_4.2.2.2.2.2 + 0) (by omega) (by omega) ?_
      exact W.iret hx hb hr (fun t ht hW => ⟨⟨_, (), rfl, ⟨rfl, rfl⟩, a0_11_4, by rw [ht]; exact hP9, va_K.moved hW.alike hK, hD9⟩, hS.F ht⟩) hS.2.2 dX8_to_42
    · replace hf := x_ip c_3 hf
      obtain rfl := Option.some.inj hf
      dsimp only at hR
      clear hRc hRs
      subst hR
      obtain ⟨sa, hsa⟩ := hG.2.2.1 (156, "no switch, or no more TARGETS") (by decide)
      have hP9 := hP.sub (ws' := [(o8, .inr (8, [.ref o7, .ref o4, .ref o0, .ref o1, .ref o3, .ref o2])), (o0, .inr (0, [.int v0_0, .int v0_1, .int v0_2, .int v0_3, .int v0_4, .ref a0_5, .int v0_6, .ref a0_7, .ref a0_8, .ref a0_9, .int v0_10, .ref a0_11, .ref a0_12, .ref a0_13, .ref a0_14, .int v0_15, .ref a0_16])), (a0_7, .inl (cyI, 1000, .inl g0_7)), (a0_11, .inl (cyI, n0_11, .inl g0_11)), (a0_12, .inl (cyI, 1000, .inl g0_12)), (a0_13, .inl (cyI, 1000, .inl g0_13))]) [0, 1, 2, 3, 4, 5] rfl
      have hD9 := hD.sub (ws' := [(o8, .inr (8, [.ref o7, .ref o4, .ref o0, .ref o1, .ref o3, .ref o2])), (o0, .inr (0, [.int v0_0, .int v0_1, .int v0_2, .int v0_3, .int v0_4, .ref a0_5, .int v0_6, .ref a0_7, .ref a0_8, .ref a0_9, .int v0_10, .ref a0_11, .ref a0_12, .ref a0_13, .ref a0_14, .int v0_15, .ref a0_16])), (a0_7, .inl (cyI, 1000, .inl g0_7)), (a0_11, .inl (cyI, n0_11, .inl g0_11)), (a0_12, .inl (cyI, 1000, .inl g0_12)), (a0_13, .inl (cyI, 1000, .inl g0_13))]) [0, 1, 2, 3, 4, 5] (by decide) rfl
      refine vx_throwS (cls := "java/lang/IllegalStateException") (names := ["java/lang/RuntimeException", "java/lang/Exception"]) hx hb hl9 hown (by decide +kernel) (by decide +kernel) k_2 k_3 hsa (x_at2 hG.2.2.2 hts_2) (by decide +kernel) (hG.1.narrow hAb) (hG.2.1.narrow hAb) hS (hl.1.trans hml.symm) dX8_to_24 dX8_to_27 dX8_to_28 dX8_to_30 dX8_to_33 (fun z hz => (hno z hz).elim) (Nat.le_of_ble_eq_true rfl) (Nat.le_of_ble_eq_true rfl) (by dsimp only [headSpec]; omega) (by dsimp only [headSpec]; omega) hlocks (fun t ha h1 h2 => ⟨(), trivial, ⟨x_thr2, a0_11, x_kp hP9 (fun q h _ => h2 q h), va_K.moved ha hK, hD9⟩, x_mv hS h1 h2⟩) hS.2.2 (by dsimp only [headSpec]; omega) (by dsimp only [headSpec]; omega)
  · replace hf := x_in c_1 hf
    obtain rfl := Option.some.inj hf
    dsimp only at hR
    clear hRc hRs
    subst hR
    obtain ⟨sa, hsa⟩ := hG.2.2.1 (151, "no INSTRUCTION") (by decide)
    have hP9 := hP.sub (ws' := [(o8, .inr (8, [.ref o7, .ref o4, .ref o0, .ref o1, .ref o3, .ref o2])), (o0, .inr (0, [.int v0_0, .int v0_1, .int v0_2, .int v0_3, .int v0_4, .ref a0_5, .int v0_6, .ref a0_7, .ref a0_8, .ref a0_9, .int v0_10, .ref a0_11, .ref a0_12, .ref a0_13, .ref a0_14, .int v0_15, .ref a0_16])), (a0_7, .inl (cyI, 1000, .inl g0_7)), (a0_11, .inl (cyI, n0_11, .inl g0_11)), (a0_12, .inl (cyI, 1000, .inl g0_12)), (a0_13, .inl (cyI, 1000, .inl g0_13))]) [0, 1, 2, 3, 4, 5] rfl
    have hD9 := hD.sub (ws' := [(o8, .inr (8, [.ref o7, .ref o4, .ref o0, .ref o1, .ref o3, .ref o2])), (o0, .inr (0, [.int v0_0, .int v0_1, .int v0_2, .int v0_3, .int v0_4, .ref a0_5, .int v0_6, .ref a0_7, .ref a0_8, .ref a0_9, .int v0_10, .ref a0_11, .ref a0_12, .ref a0_13, .ref a0_14, .int v0_15, .ref a0_16])), (a0_7, .inl (cyI, 1000, .inl g0_7)), (a0_11, .inl (cyI, n0_11, .inl g0_11)), (a0_12, .inl (cyI, 1000, .inl g0_12)), (a0_13, .inl (cyI, 1000, .inl g0_13))]) [0, 1, 2, 3, 4, 5] (by decide) rfl
    refine vx_throwS (cls := "java/lang/IllegalArgumentException") (names := ["java/lang/RuntimeException", "java/lang/Exception"]) hx hb hl9 hown (by decide +kernel) (by decide +kernel) k_4 k_5 hsa (x_at1 hG.2.2.2 hts_1) (by decide +kernel) (hG.1.narrow hAb) (hG.2.1.narrow hAb) hS (hl.1.trans hml.symm) dX8_to_4 dX8_to_7 dX8_to_8 dX8_to_10 dX8_to_13 (fun z hz => (hno z hz).elim) (Nat.le_of_ble_eq_true rfl) (Nat.le_of_ble_eq_true rfl) (by dsimp only [headSpec]; omega) (by dsimp only [headSpec]; omega) hlocks (fun t ha h1 h2 => ⟨(), trivial, ⟨x_thr1, a0_11, x_kp hP9 (fun q h _ => h2 q h), va_K.moved ha hK, hD9⟩, x_mv hS h1 h2⟩) hS.2.2 (by dsimp only [headSpec]; omega) (by dsimp only [headSpec]; omega)

theorem i_X8_row_X0 : ∀ w ∈ wsX00, w ∈ wsX8_row := by decide +kernel
theorem i_X8_row_X8 : ∀ w ∈ wsX80, w ∈ wsX8_row := by decide +kernel
theorem u_X8_row_1 : ∀ w ∈ (vx_atS RX8 67 "java/lang/IllegalArgumentException" ["java/lang/RuntimeException", "java/lang/Exception"]).filter goodWord, w ∈ wsX8_row := by decide +kernel
theorem u_X8_row_2 : ∀ w ∈ (vx_atS RX8 78 "java/lang/IllegalStateException" ["java/lang/RuntimeException", "java/lang/Exception"]).filter goodWord, w ∈ wsX8_row := by decide +kernel
set_option maxHeartbeats 4000000 in
set_option maxRecDepth 100000 in
theorem c_X8_row (l : Launch) (hl9 : l.stackTraces = false) (dC : Nat → ClassId) (dI : Nat → Nat → Nat) (cyI cyZ cyJ : ClassId) (sz : Nat) (base : Nat) (o8 : Nat) (o7 : Nat) (o4 : Nat) (o0 : Nat) (o1 : Nat) (o3 : Nat) (o2 : Nat) (a7_0 : Nat) (a7_1 : Nat) (v7_2 : Int32) (v0_0 : Int32) (v0_1 : Int32) (v0_2 : Int32) (v0_3 : Int32) (v0_4 : Int32) (a0_5 : Nat) (v0_6 : Int32) (a0_7 : Nat) (a0_8 : Nat) (a0_9 : Nat) (v0_10 : Int32) (a0_11 : Nat) (a0_12 : Nat) (a0_13 : Nat) (a0_14 : Nat) (v0_15 : Int32) (a0_16 : Nat) (g0_14 : Nat → Int32) (p1 : Int32) (p2 : Int32) (p3 : Int32) (p4 : Int32) (R : Int32 × Int32 × Int32 × (Nat → Int32)) (hf : f_X8_row v7_2 v0_15 g0_14 p1 p2 p3 p4 = some R) : vx_Met l yX8_row wsX8_row ({ frames := 6, cells := 1, slots := 6, locals := 90 }) (va_Pc [.ref o8, .int p1, .int p2, .int p3, .int p4] (x_PreX (dC, dI) (x_T cyI cyZ cyJ) [(o8, .inr (8, [.ref o7, .ref o4, .ref o0, .ref o1, .ref o3, .ref o2])), (o7, .inr (7, [.ref a7_0, .ref a7_1, .int v7_2])), (o0, .inr (0, [.int v0_0, .int v0_1, .int v0_2, .int v0_3, .int v0_4, .ref a0_5, .int v0_6, .ref a0_7, .ref a0_8, .ref a0_9, .int v0_10, .ref a0_11, .ref a0_12, .ref a0_13, .ref a0_14, .int v0_15, .ref a0_16])), (a0_14, .inl (cyI, 200, .inl g0_14))] base sz)) (va_Qi (fun (r : Int32) (_ : Unit) => R.1 = 0 ∧ r = R.2.1) (fun (_ : Unit) (t : State) => va_P (dC, dI) vwCl [(o8, .inr (8, [.ref o7, .ref o4, .ref o0, .ref o1, .ref o3, .ref o2])), (o7, .inr (7, [.ref a7_0, .ref a7_1, .int v7_2])), (o0, .inr (0, [.int v0_0, .int v0_1, .int v0_2, .int v0_3, .int v0_4, .ref a0_5, .int v0_6, .ref a0_7, .ref a0_8, .ref a0_9, .int v0_10, .ref a0_11, .ref a0_12, .ref a0_13, .ref a0_14, .int (R.2.2.1), .ref a0_16])), (a0_14, .inl (cyI, 200, .inl R.2.2.2))] t.heap ∧ va_K (dC, dI) vwCl (x_T cyI cyZ cyJ) t ∧ va_D (va_A [(o8, .inr (8, [.ref o7, .ref o4, .ref o0, .ref o1, .ref o3, .ref o2])), (o7, .inr (7, [.ref a7_0, .ref a7_1, .int v7_2])), (o0, .inr (0, [.int v0_0, .int v0_1, .int v0_2, .int v0_3, .int v0_4, .ref a0_5, .int v0_6, .ref a0_7, .ref a0_8, .ref a0_9, .int v0_10, .ref a0_11, .ref a0_12, .ref a0_13, .ref a0_14, .int v0_15, .ref a0_16])), (a0_14, .inl (cyI, 200, .inl g0_14))] sz) [(o8, .inr (8, [.ref o7, .ref o4, .ref o0, .ref o1, .ref o3, .ref o2])), (o7, .inr (7, [.ref a7_0, .ref a7_1, .int v7_2])), (o0, .inr (0, [.int v0_0, .int v0_1, .int v0_2, .int v0_3, .int v0_4, .ref a0_5, .int v0_6, .ref a0_7, .ref a0_8, .ref a0_9, .int v0_10, .ref a0_11, .ref a0_12, .ref a0_13, .ref a0_14, .int (R.2.2.1), .ref a0_16])), (a0_14, .inl (cyI, 200, .inl R.2.2.2))]) (va_A [(o8, .inr (8, [.ref o7, .ref o4, .ref o0, .ref o1, .ref o3, .ref o2])), (o7, .inr (7, [.ref a7_0, .ref a7_1, .int v7_2])), (o0, .inr (0, [.int v0_0, .int v0_1, .int v0_2, .int v0_3, .int v0_4, .ref a0_5, .int v0_6, .ref a0_7, .ref a0_8, .ref a0_9, .int v0_10, .ref a0_11, .ref a0_12, .ref a0_13, .ref a0_14, .int v0_15, .ref a0_16])), (a0_14, .inl (cyI, 200, .inl g0_14))] sz)) (vx_X (fun _ : Unit => True) (fun (E : String) (_ : Unit) (t : State) => x_thr R.1 E ∧ (va_P (dC, dI) vwCl [(o8, .inr (8, [.ref o7, .ref o4, .ref o0, .ref o1, .ref o3, .ref o2])), (o7, .inr (7, [.ref a7_0, .ref a7_1, .int v7_2])), (o0, .inr (0, [.int v0_0, .int v0_1, .int v0_2, .int v0_3, .int v0_4, .ref a0_5, .int v0_6, .ref a0_7, .ref a0_8, .ref a0_9, .int v0_10, .ref a0_11, .ref a0_12, .ref a0_13, .ref a0_14, .int (R.2.2.1), .ref a0_16])), (a0_14, .inl (cyI, 200, .inl R.2.2.2))] t.heap ∧ va_K (dC, dI) vwCl (x_T cyI cyZ cyJ) t ∧ va_D (va_A [(o8, .inr (8, [.ref o7, .ref o4, .ref o0, .ref o1, .ref o3, .ref o2])), (o7, .inr (7, [.ref a7_0, .ref a7_1, .int v7_2])), (o0, .inr (0, [.int v0_0, .int v0_1, .int v0_2, .int v0_3, .int v0_4, .ref a0_5, .int v0_6, .ref a0_7, .ref a0_8, .ref a0_9, .int v0_10, .ref a0_11, .ref a0_12, .ref a0_13, .ref a0_14, .int v0_15, .ref a0_16])), (a0_14, .inl (cyI, 200, .inl g0_14))] sz) [(o8, .inr (8, [.ref o7, .ref o4, .ref o0, .ref o1, .ref o3, .ref o2])), (o7, .inr (7, [.ref a7_0, .ref a7_1, .int v7_2])), (o0, .inr (0, [.int v0_0, .int v0_1, .int v0_2, .int v0_3, .int v0_4, .ref a0_5, .int v0_6, .ref a0_7, .ref a0_8, .ref a0_9, .int v0_10, .ref a0_11, .ref a0_12, .ref a0_13, .ref a0_14, .int (R.2.2.1), .ref a0_16])), (a0_14, .inl (cyI, 200, .inl R.2.2.2))])) (va_A [(o8, .inr (8, [.ref o7, .ref o4, .ref o0, .ref o1, .ref o3, .ref o2])), (o7, .inr (7, [.ref a7_0, .ref a7_1, .int v7_2])), (o0, .inr (0, [.int v0_0, .int v0_1, .int v0_2, .int v0_3, .int v0_4, .ref a0_5, .int v0_6, .ref a0_7, .ref a0_8, .ref a0_9, .int v0_10, .ref a0_11, .ref a0_12, .ref a0_13, .ref a0_14, .int v0_15, .ref a0_16])), (a0_14, .inl (cyI, 200, .inl g0_14))] sz)) 1 6 (va_A [(o8, .inr (8, [.ref o7, .ref o4, .ref o0, .ref o1, .ref o3, .ref o2])), (o7, .inr (7, [.ref a7_0, .ref a7_1, .int v7_2])), (o0, .inr (0, [.int v0_0, .int v0_1, .int v0_2, .int v0_3, .int v0_4, .ref a0_5, .int v0_6, .ref a0_7, .ref a0_8, .ref a0_9, .int v0_10, .ref a0_11, .ref a0_12, .ref a0_13, .ref a0_14, .int v0_15, .ref a0_16])), (a0_14, .inl (cyI, 200, .inl g0_14))] sz) := by
  refine vx_ofW (cc := cX8_row) (maxL := 5) (ret := (some .int)) (by decide) rfl ?_
  intro p e s m args below meth c s₁ B hml hno hv
  obtain ⟨rfl, ⟨⟨hsz, hP, hK, hN⟩, hD0⟩, hDb, hbz, hG⟩ := hv
  have hx := B.exec
  have hb := B.bytes
  have hr := B.returns
  have hts := atoms_spec (ws := wsX8_row) B.pre
  have hown : s.vm.findClass RX8 = some m.cls := findClass_of_methodNamed B.named
  have hlocks := B.notSynchronized
  have hts_1 := fun w (h : w ∈ (vx_atS RX8 67 "java/lang/IllegalArgumentException" ["java/lang/RuntimeException", "java/lang/Exception"]).filter goodWord) => hts w (u_X8_row_1 w h)
  have hts_2 := fun w (h : w ∈ (vx_atS RX8 78 "java/lang/IllegalStateException" ["java/lang/RuntimeException", "java/lang/Exception"]).filter goodWord) => hts w (u_X8_row_2 w h)
  have k_1 := hts (.classLink RX8 63 "java/lang/IllegalArgumentException") (by decide +kernel)
  have k_2 := hts (.initialized "java/lang/IllegalArgumentException") (by decide +kernel)
  have k_3 := hts (.fieldLink RX8 26 "FlowJudge" "code" "LFlowJudge$Code;") (by decide +kernel)
  have k_4 := hts (.classLink RX8 74 "java/lang/IllegalStateException") (by decide +kernel)
  have k_5 := hts (.initialized "java/lang/IllegalStateException") (by decide +kernel)
  have k_6 := hts (.fieldLink RX8 10 "FlowJudge" "types" "LFlowJudge$Types;") (by decide +kernel)
  subst hsz
  have hAb : ∀ q, va_A [(o8, .inr (8, [.ref o7, .ref o4, .ref o0, .ref o1, .ref o3, .ref o2])), (o7, .inr (7, [.ref a7_0, .ref a7_1, .int v7_2])), (o0, .inr (0, [.int v0_0, .int v0_1, .int v0_2, .int v0_3, .int v0_4, .ref a0_5, .int v0_6, .ref a0_7, .ref a0_8, .ref a0_9, .int v0_10, .ref a0_11, .ref a0_12, .ref a0_13, .ref a0_14, .int v0_15, .ref a0_16])), (a0_14, .inl (cyI, 200, .inl g0_14))] s.heap.size q → x_new base q := x_Ab hDb hbz
  have hD := hD0.self (sz := s.heap.size)
  generalize hAe : va_A [(o8, .inr (8, [.ref o7, .ref o4, .ref o0, .ref o1, .ref o3, .ref o2])), (o7, .inr (7, [.ref a7_0, .ref a7_1, .int v7_2])), (o0, .inr (0, [.int v0_0, .int v0_1, .int v0_2, .int v0_3, .int v0_4, .ref a0_5, .int v0_6, .ref a0_7, .ref a0_8, .ref a0_9, .int v0_10, .ref a0_11, .ref a0_12, .ref a0_13, .ref a0_14, .int v0_15, .ref a0_16])), (a0_14, .inl (cyI, 200, .inl g0_14))] s.heap.size = A at hD hAb ⊢
  have hA : ∀ q : Nat, s.heap.size ≤ q → A q := fun q h => by rw [← hAe]; exact Or.inr h
  have hP : va_P (dC, dI) vwCl [(o8, .inr (8, [.ref o7, .ref o4, .ref o0, .ref o1, .ref o3, .ref o2])), (o7, .inr (7, [.ref a7_0, .ref a7_1, .int v7_2])), (o0, .inr (0, [.int v0_0, .int v0_1, .int v0_2, .int v0_3, .int v0_4, .ref a0_5, .int v0_6, .ref a0_7, .ref a0_8, .ref a0_9, .int v0_10, .ref a0_11, .ref a0_12, .ref a0_13, .ref a0_14, .int v0_15, .ref a0_16])), (a0_14, .inl (cyI, 200, .inl g0_14))] s.heap := hP
  have hl := lv_entry ([.ref o8, .int p1, .int p2, .int p3, .int p4]) (n := 5) (Nat.le_of_ble_eq_true rfl)
  rw [lg_entry_eq]
  generalize (lg_sl ([.ref o8, .int p1, .int p2, .int p3, .int p4]) ++ List.replicate (5 - (lg_sl ([.ref o8, .int p1, .int p2, .int p3, .int p4])).length) Slot.unset).toArray = ls at hl ⊢
  have hl : lv_has ls 5 [(0, .ref o8), (1, .int p1), (2, .int p2), (3, .int p3), (4, .int p4)] := hl
  obtain ⟨H, hH⟩ : ∃ z, z = s.heap := ⟨_, rfl⟩
  refine x_here hH ?_
  have hP : va_P (dC, dI) vwCl [(o8, .inr (8, [.ref o7, .ref o4, .ref o0, .ref o1, .ref o3, .ref o2])), (o7, .inr (7, [.ref a7_0, .ref a7_1, .int v7_2])), (o0, .inr (0, [.int v0_0, .int v0_1, .int v0_2, .int v0_3, .int v0_4, .ref a0_5, .int v0_6, .ref a0_7, .ref a0_8, .ref a0_9, .int v0_10, .ref a0_11, .ref a0_12, .ref a0_13, .ref a0_14, .int v0_15, .ref a0_16])), (a0_14, .inl (cyI, 200, .inl g0_14))] H := by rw [hH]; exact hP
  have hS : va_S A s.heap H [] := by rw [hH]; exact va_S.rf
  clear hH
  obtain ⟨locs, hlo⟩ : ∃ z : List Loc, z = [] := ⟨_, rfl⟩
  refine x_herl hlo ?_
  have hS : va_S A s.heap H locs := by rw [hlo]; exact hS
  clear hlo
  unfold f_X8_row at hf
  refine lv_iload_n hx hb dX8_row_0 rfl (lv_at hl 1 rfl) ?_
  refine lv_if_lt (tgt := 30) hx hb dX8_row_1 (by decide) (fun c_1 => ?_) (fun c_1 => ?_)
  · replace hf := x_ip c_1 hf
    obtain rfl := Option.some.inj hf
    obtain ⟨sa, hsa⟩ := hG.2.2.1 (161, "no INSTRUCTION or no CLASS") (by decide)
    have hP9 := hP.sub (ws' := [(o8, .inr (8, [.ref o7, .ref o4, .ref o0, .ref o1, .ref o3, .ref o2])), (o7, .inr (7, [.ref a7_0, .ref a7_1, .int v7_2])), (o0, .inr (0, [.int v0_0, .int v0_1, .int v0_2, .int v0_3, .int v0_4, .ref a0_5, .int v0_6, .ref a0_7, .ref a0_8, .ref a0_9, .int v0_10, .ref a0_11, .ref a0_12, .ref a0_13, .ref a0_14, .int v0_15, .ref a0_16])), (a0_14, .inl (cyI, 200, .inl g0_14))]) [0, 1, 2, 3] rfl
    have hD9 := hD.sub (ws' := [(o8, .inr (8, [.ref o7, .ref o4, .ref o0, .ref o1, .ref o3, .ref o2])), (o7, .inr (7, [.ref a7_0, .ref a7_1, .int v7_2])), (o0, .inr (0, [.int v0_0, .int v0_1, .int v0_2, .int v0_3, .int v0_4, .ref a0_5, .int v0_6, .ref a0_7, .ref a0_8, .ref a0_9, .int v0_10, .ref a0_11, .ref a0_12, .ref a0_13, .ref a0_14, .int v0_15, .ref a0_16])), (a0_14, .inl (cyI, 200, .inl g0_14))]) [0, 1, 2, 3] (by decide) rfl
    refine vx_throwS (cls := "java/lang/IllegalArgumentException") (names := ["java/lang/RuntimeException", "java/lang/Exception"]) hx hb hl9 hown (by decide +kernel) (by decide +kernel) k_1 k_2 hsa (x_at1 hG.2.2.2 hts_1) (by decide +kernel) (hG.1.narrow hAb) (hG.2.1.narrow hAb) hS (hl.1.trans hml.symm) dX8_row_30 dX8_row_33 dX8_row_34 dX8_row_36 dX8_row_39 (fun z hz => (hno z hz).elim) (Nat.le_of_ble_eq_true rfl) (Nat.le_of_ble_eq_true rfl) (Nat.le_of_ble_eq_true rfl) (Nat.le_of_ble_eq_true rfl) hlocks (fun t ha h1 h2 => ⟨(), trivial, ⟨x_thr1, x_kp hP9 (fun q h _ => h2 q h), va_K.moved ha hK, hD9⟩, x_mv hS h1 h2⟩) hS.2.2 (Nat.le_of_ble_eq_true rfl) (Nat.le_of_ble_eq_true rfl)
  · replace hf := x_in c_1 hf
    refine lv_iload_n hx hb dX8_row_4 rfl (lv_at hl 2 rfl) ?_
    refine lv_if_lt (tgt := 30) hx hb dX8_row_5 (by decide) (fun c_2 => ?_) (fun c_2 => ?_)
    · replace hf := x_ip c_2 hf
      obtain rfl := Option.some.inj hf
      obtain ⟨sa, hsa⟩ := hG.2.2.1 (161, "no INSTRUCTION or no CLASS") (by decide)
      have hP9 := hP.sub (ws' := [(o8, .inr (8, [.ref o7, .ref o4, .ref o0, .ref o1, .ref o3, .ref o2])), (o7, .inr (7, [.ref a7_0, .ref a7_1, .int v7_2])), (o0, .inr (0, [.int v0_0, .int v0_1, .int v0_2, .int v0_3, .int v0_4, .ref a0_5, .int v0_6, .ref a0_7, .ref a0_8, .ref a0_9, .int v0_10, .ref a0_11, .ref a0_12, .ref a0_13, .ref a0_14, .int v0_15, .ref a0_16])), (a0_14, .inl (cyI, 200, .inl g0_14))]) [0, 1, 2, 3] rfl
      have hD9 := hD.sub (ws' := [(o8, .inr (8, [.ref o7, .ref o4, .ref o0, .ref o1, .ref o3, .ref o2])), (o7, .inr (7, [.ref a7_0, .ref a7_1, .int v7_2])), (o0, .inr (0, [.int v0_0, .int v0_1, .int v0_2, .int v0_3, .int v0_4, .ref a0_5, .int v0_6, .ref a0_7, .ref a0_8, .ref a0_9, .int v0_10, .ref a0_11, .ref a0_12, .ref a0_13, .ref a0_14, .int v0_15, .ref a0_16])), (a0_14, .inl (cyI, 200, .inl g0_14))]) [0, 1, 2, 3] (by decide) rfl
      refine vx_throwS (cls := "java/lang/IllegalArgumentException") (names := ["java/lang/RuntimeException", "java/lang/Exception"]) hx hb hl9 hown (by decide +kernel) (by decide +kernel) k_1 k_2 hsa (x_at1 hG.2.2.2 hts_1) (by decide +kernel) (hG.1.narrow hAb) (hG.2.1.narrow hAb) hS (hl.1.trans hml.symm) dX8_row_30 dX8_row_33 dX8_row_34 dX8_row_36 dX8_row_39 (fun z hz => (hno z hz).elim) (Nat.le_of_ble_eq_true rfl) (Nat.le_of_ble_eq_true rfl) (Nat.le_of_ble_eq_true rfl) (Nat.le_of_ble_eq_true rfl) hlocks (fun t ha h1 h2 => ⟨(), trivial, ⟨x_thr1, x_kp hP9 (fun q h _ => h2 q h), va_K.moved ha hK, hD9⟩, x_mv hS h1 h2⟩) hS.2.2 (Nat.le_of_ble_eq_true rfl) (Nat.le_of_ble_eq_true rfl)
    · replace hf := x_in c_2 hf
      refine lv_iload_n hx hb dX8_row_8 rfl (lv_at hl 3 rfl) ?_
      refine lv_if_lt (tgt := 30) hx hb dX8_row_9 (by decide) (fun c_3 => ?_) (fun c_3 => ?_)
      · replace hf := x_ip c_3 hf
        obtain rfl := Option.some.inj hf
        obtain ⟨sa, hsa⟩ := hG.2.2.1 (161, "no INSTRUCTION or no CLASS") (by decide)
        have hP9 := hP.sub (ws' := [(o8, .inr (8, [.ref o7, .ref o4, .ref o0, .ref o1, .ref o3, .ref o2])), (o7, .inr (7, [.ref a7_0, .ref a7_1, .int v7_2])), (o0, .inr (0, [.int v0_0, .int v0_1, .int v0_2, .int v0_3, .int v0_4, .ref a0_5, .int v0_6, .ref a0_7, .ref a0_8, .ref a0_9, .int v0_10, .ref a0_11, .ref a0_12, .ref a0_13, .ref a0_14, .int v0_15, .ref a0_16])), (a0_14, .inl (cyI, 200, .inl g0_14))]) [0, 1, 2, 3] rfl
        have hD9 := hD.sub (ws' := [(o8, .inr (8, [.ref o7, .ref o4, .ref o0, .ref o1, .ref o3, .ref o2])), (o7, .inr (7, [.ref a7_0, .ref a7_1, .int v7_2])), (o0, .inr (0, [.int v0_0, .int v0_1, .int v0_2, .int v0_3, .int v0_4, .ref a0_5, .int v0_6, .ref a0_7, .ref a0_8, .ref a0_9, .int v0_10, .ref a0_11, .ref a0_12, .ref a0_13, .ref a0_14, .int v0_15, .ref a0_16])), (a0_14, .inl (cyI, 200, .inl g0_14))]) [0, 1, 2, 3] (by decide) rfl
        refine vx_throwS (cls := "java/lang/IllegalArgumentException") (names := ["java/lang/RuntimeException", "java/lang/Exception"]) hx hb hl9 hown (by decide +kernel) (by decide +kernel) k_1 k_2 hsa (x_at1 hG.2.2.2 hts_1) (by decide +kernel) (hG.1.narrow hAb) (hG.2.1.narrow hAb) hS (hl.1.trans hml.symm) dX8_row_30 dX8_row_33 dX8_row_34 dX8_row_36 dX8_row_39 (fun z hz => (hno z hz).elim) (Nat.le_of_ble_eq_true rfl) (Nat.le_of_ble_eq_true rfl) (Nat.le_of_ble_eq_true rfl) (Nat.le_of_ble_eq_true rfl) hlocks (fun t ha h1 h2 => ⟨(), trivial, ⟨x_thr1, x_kp hP9 (fun q h _ => h2 q h), va_K.moved ha hK, hD9⟩, x_mv hS h1 h2⟩) hS.2.2 (Nat.le_of_ble_eq_true rfl) (Nat.le_of_ble_eq_true rfl)
      · replace hf := x_in c_3 hf
        refine lv_iload hx hb dX8_row_12 (lv_at hl 4 rfl) ?_
        refine lv_iconst (v := (-1)) hx hb dX8_row_14 (by decide) ?_
        refine lv_icmp_eq (tgt := 40) hx hb dX8_row_15 (by decide) (fun c_4 => ?_) (fun c_4 => ?_)
        · replace hf := x_ip c_4 hf
          refine lv_aload_n hx hb dX8_row_40 rfl (lv_at hl 0 rfl) ?_
          refine va_get (D := (dC, dI)) (ci := 8) (v := .ref o0) (C := RX8) (T := TX8) (N := 6) hx hb hts i_X8_row_X8 hown hK hP 0 rfl rfl 2 (by decide) k_3 (fun _ h9 => h9) rfl dX8_row_41 ?_
          refine va_getN (D := (dC, dI)) (ci := 0) (v := .int v0_15) (C := RX0) (T := TX0) (N := 17) hx hb hts i_X8_row_X0 hown hK hP 2 rfl rfl 15 (by decide) ((hN.1 ("FlowJudge", 163, "FlowJudge$Code", "rowCount", "I") (List.mem_of_getElem? (i := 6) rfl)).use rfl) (fun _ h9 => h9) rfl dX8_row_44 ?_
          refine lv_bipush (v := 50) hx hb dX8_row_47 (by decide) ?_
          refine lv_icmp_lt (tgt := 62) hx hb dX8_row_49 (by decide) (fun c_5 => ?_) (fun c_5 => ?_)
          · replace hf := x_ip c_5 hf
            refine lv_aload_n hx hb dX8_row_62 rfl (lv_at hl 0 rfl) ?_
            refine va_get (D := (dC, dI)) (ci := 8) (v := .ref o0) (C := RX8) (T := TX8) (N := 6) hx hb hts i_X8_row_X8 hown hK hP 0 rfl rfl 2 (by decide) k_3 (fun _ h9 => h9) rfl dX8_row_63 ?_
            refine lv_iload_n hx hb dX8_row_66 rfl (lv_at hl 1 rfl) ?_
            refine lv_iload_n hx hb dX8_row_67 rfl (lv_at hl 2 rfl) ?_
            refine lv_iload_n hx hb dX8_row_68 rfl (lv_at hl 3 rfl) ?_
            refine lv_iload hx hb dX8_row_69 (lv_at hl 4 rfl) ?_
            obtain ⟨r_6, h_6, hf⟩ := x_bi hf
            have hPc := hP.sub (ws' := [(o0, .inr (0, [.int v0_0, .int v0_1, .int v0_2, .int v0_3, .int v0_4, .ref a0_5, .int v0_6, .ref a0_7, .ref a0_8, .ref a0_9, .int v0_10, .ref a0_11, .ref a0_12, .ref a0_13, .ref a0_14, .int v0_15, .ref a0_16])), (a0_14, .inl (cyI, 200, .inl g0_14))]) [2, 3] rfl
            have hDc := hD.sub (ws' := [(o0, .inr (0, [.int v0_0, .int v0_1, .int v0_2, .int v0_3, .int v0_4, .ref a0_5, .int v0_6, .ref a0_7, .ref a0_8, .ref a0_9, .int v0_10, .ref a0_11, .ref a0_12, .ref a0_13, .ref a0_14, .int v0_15, .ref a0_16])), (a0_14, .inl (cyI, 200, .inl g0_14))]) [2, 3] (by decide) rfl
            have hFc := va_free (wc := [(o0, .inr (0, [.int v0_0, .int v0_1, .int v0_2, .int v0_3, .int v0_4, .ref a0_5, .int v0_6, .ref a0_7, .ref a0_8, .ref a0_9, .int v0_10, .ref a0_11, .ref a0_12, .ref a0_13, .ref a0_14, .int v0_15, .ref a0_16])), (a0_14, .inl (cyI, 200, .inl g0_14))]) hD hS hA [2, 3] rfl
            refine va_calli (va_runV (As := [.int p1, .int p2, .int p3, .int p4]) (rest := []) ⟨hx, hb, hml, hown, hts⟩ (c_X0_enterRow l dC dI cyI cyZ cyJ H.size o0 v0_0 v0_1 v0_2 v0_3 v0_4 a0_5 v0_6 a0_7 a0_8 a0_9 v0_10 a0_11 a0_12 a0_13 a0_14 v0_15 a0_16 g0_14 p1 p2 p3 p4 r_6 h_6) (cwV 4 hts gX8_row_X0_enterRow rfl rfl rfl (by decide +kernel) ⟨Nat.le_of_ble_eq_true rfl, Nat.le_of_ble_eq_true rfl⟩) (x_pVD hN hK hPc hDc (ci := 0) (q0 := 0) rfl rfl) rfl rfl hl.1 rfl (lv_room (Nat.le_of_ble_eq_true rfl)) dX8_row_71 ⟨Nat.le_of_ble_eq_true rfl, Nat.le_of_ble_eq_true rfl⟩) hS (fun q _ h => hFc q h) hFc (fun q_6 u t H1 locs ht hvm hw hB hz1 hk1 hS => ?_)
            obtain ⟨hP1, hK1, hD1⟩ := hB
            rw [ht] at hP1
            obtain ⟨hP, hD⟩ := va_join (wr := [(o8, .inr (8, [.ref o7, .ref o4, .ref o0, .ref o1, .ref o3, .ref o2])), (o7, .inr (7, [.ref a7_0, .ref a7_1, .int v7_2]))]) (w1 := [(o0, .inr (0, [.int v0_0, .int v0_1, .int v0_2, .int v0_3, .int v0_4, .ref a0_5, .int v0_6, .ref a0_7, .ref a0_8, .ref a0_9, .int v0_10, .ref a0_11, .ref a0_12, .ref a0_13, .ref a0_14, .int (r_6.2.1), .ref a0_16])), (a0_14, .inl (cyI, 200, .inl r_6.2.2))]) hP hD [2, 3] [0, 1] rfl rfl (by decide) (by decide) hk1 hFc hP1 hD1
            clear hz1 hk1 hPc hDc hFc hP1 hK1 hD1 ht hvm t u
            generalize H1 = H at hP hS ⊢
            have hP : va_P (dC, dI) vwCl [(o8, .inr (8, [.ref o7, .ref o4, .ref o0, .ref o1, .ref o3, .ref o2])), (o7, .inr (7, [.ref a7_0, .ref a7_1, .int v7_2])), (o0, .inr (0, [.int v0_0, .int v0_1, .int v0_2, .int v0_3, .int v0_4, .ref a0_5, .int v0_6, .ref a0_7, .ref a0_8, .ref a0_9, .int v0_10, .ref a0_11, .ref a0_12, .ref a0_13, .ref a0_14, .int (r_6.2.1), .ref a0_16])), (a0_14, .inl (cyI, 200, .inl r_6.2.2))] H := hP
            have hD : va_D A [(o8, .inr (8, [.ref o7, .ref o4, .ref o0, .ref o1, .ref o3, .ref o2])), (o7, .inr (7, [.ref a7_0, .ref a7_1, .int v7_2])), (o0, .inr (0, [.int v0_0, .int v0_1, .int v0_2, .int v0_3, .int v0_4, .ref a0_5, .int v0_6, .ref a0_7, .ref a0_8, .ref a0_9, .int v0_10, .ref a0_11, .ref a0_12, .ref a0_13, .ref a0_14, .int (r_6.2.1), .ref a0_16])), (a0_14, .inl (cyI, 200, .inl r_6.2.2))] := hD
            obtain rfl := hw.symm
            obtain rfl := Option.some.inj hf
            have hP9 := hP.sub (ws' := [(o8, .inr (8, [.ref o7, .ref o4, .ref o0, .ref o1, .ref o3, .ref o2])), (o7, .inr (7, [.ref a7_0, .ref a7_1, .int v7_2])), (o0, .inr (0, [.int v0_0, .int v0_1, .int v0_2, .int v0_3, .int v0_4, .ref a0_5, .int v0_6, .ref a0_7, .ref a0_8, .ref a0_9, .int v0_10, .ref a0_11, .ref a0_12, .ref a0_13, .ref a0_14, .int (r_6.2.1), .ref a0_16])), (a0_14, .inl (cyI, 200, .inl r_6.2.2))]) [0, 1, 2, 3] rfl
            have hD9 := hD.sub (ws' := [(o8, .inr (8, [.ref o7, .ref o4, .ref o0, .ref o1, .ref o3, .ref o2])), (o7, .inr (7, [.ref a7_0, .ref a7_1, .int v7_2])), (o0, .inr (0, [.int v0_0, .int v0_1, .int v0_2, .int v0_3, .int v0_4, .ref a0_5, .int v0_6, .ref a0_7, .ref a0_8, .ref a0_9, .int v0_10, .ref a0_11, .ref a0_12, .ref a0_13, .ref a0_14, .int (r_6.2.1), .ref a0_16])), (a0_14, .inl (cyI, 200, .inl r_6.2.2))]) [0, 1, 2, 3] (by decide) rfl
            refine vx_ret ?_
            refine W.widen (k := 1) (n := 6) (Nat.le_of_ble_eq_true rfl) (Nat.le_of_ble_eq_true rfl) ?_
            exact W.iret hx hb hr (fun t ht hW => ⟨⟨_, (), rfl, ⟨rfl, rfl⟩, by rw [ht]; exact hP9, va_K.moved hW.alike hK, hD9⟩, hS.F ht⟩) hS.2.2 dX8_row_74
          · replace hf := x_in c_5 hf
            obtain rfl := Option.some.inj hf
            obtain ⟨sa, hsa⟩ := hG.2.2.1 (166, "no more ROWS") (by decide)
            have hP9 := hP.sub (ws' := [(o8, .inr (8, [.ref o7, .ref o4, .ref o0, .ref o1, .ref o3, .ref o2])), (o7, .inr (7, [.ref a7_0, .ref a7_1, .int v7_2])), (o0, .inr (0, [.int v0_0, .int v0_1, .int v0_2, .int v0_3, .int v0_4, .ref a0_5, .int v0_6, .ref a0_7, .ref a0_8, .ref a0_9, .int v0_10, .ref a0_11, .ref a0_12, .ref a0_13, .ref a0_14, .int v0_15, .ref a0_16])), (a0_14, .inl (cyI, 200, .inl g0_14))]) [0, 1, 2, 3] rfl
            have hD9 := hD.sub (ws' := [(o8, .inr (8, [.ref o7, .ref o4, .ref o0, .ref o1, .ref o3, .ref o2])), (o7, .inr (7, [.ref a7_0, .ref a7_1, .int v7_2])), (o0, .inr (0, [.int v0_0, .int v0_1, .int v0_2, .int v0_3, .int v0_4, .ref a0_5, .int v0_6, .ref a0_7, .ref a0_8, .ref a0_9, .int v0_10, .ref a0_11, .ref a0_12, .ref a0_13, .ref a0_14, .int v0_15, .ref a0_16])), (a0_14, .inl (cyI, 200, .inl g0_14))]) [0, 1, 2, 3] (by decide) rfl
            refine vx_throwS (cls := "java/lang/IllegalStateException") (names := ["java/lang/RuntimeException", "java/lang/Exception"]) hx hb hl9 hown (by decide +kernel) (by decide +kernel) k_4 k_5 hsa (x_at2 hG.2.2.2 hts_2) (by decide +kernel) (hG.1.narrow hAb) (hG.2.1.narrow hAb) hS (hl.1.trans hml.symm) dX8_row_52 dX8_row_55 dX8_row_56 dX8_row_58 dX8_row_61 (fun z hz => (hno z hz).elim) (Nat.le_of_ble_eq_true rfl) (Nat.le_of_ble_eq_true rfl) (Nat.le_of_ble_eq_true rfl) (Nat.le_of_ble_eq_true rfl) hlocks (fun t ha h1 h2 => ⟨(), trivial, ⟨x_thr2, x_kp hP9 (fun q h _ => h2 q h), va_K.moved ha hK, hD9⟩, x_mv hS h1 h2⟩) hS.2.2 (Nat.le_of_ble_eq_true rfl) (Nat.le_of_ble_eq_true rfl)
        · replace hf := x_in c_4 hf
          refine lv_aload_n hx hb dX8_row_18 rfl (lv_at hl 0 rfl) ?_
          refine va_get (D := (dC, dI)) (ci := 8) (v := .ref o7) (C := RX8) (T := TX8) (N := 6) hx hb hts i_X8_row_X8 hown hK hP 0 rfl rfl 0 (by decide) k_6 (fun _ h9 => h9) rfl dX8_row_19 ?_
          refine lv_iload hx hb dX8_row_22 (lv_at hl 4 rfl) ?_
          obtain ⟨r_7, h_7, hf⟩ := x_bi hf
          have hPc := hP.sub (ws' := [(o7, .inr (7, [.ref a7_0, .ref a7_1, .int v7_2]))]) [1] rfl
          refine va_calli (va_runV (As := [.int p4]) (rest := []) ⟨hx, hb, hml, hown, hts⟩ (c_X7_isClass l dC dI cyI cyZ cyJ H.size o7 a7_0 a7_1 v7_2 p4 r_7 h_7) (cwV 1 hts gX8_row_X7_isClass rfl rfl rfl (by decide +kernel) ⟨Nat.le_of_ble_eq_true rfl, Nat.le_of_ble_eq_true rfl⟩) (x_pV hN hK hPc (ci := 7) (q0 := 0) rfl rfl) rfl rfl hl.1 rfl (lv_room (Nat.le_of_ble_eq_true rfl)) dX8_row_24 ⟨Nat.le_of_ble_eq_true rfl, Nat.le_of_ble_eq_true rfl⟩) hS x_nA (x_nf hA hS) (fun q_7 u t H1 locs ht hvm hw hB hz1 hk1 hS => ?_)
          have hP := x_kp hP hk1
          clear ht hvm hB hz1 hk1 t u hPc
          generalize H1 = H at hP hS ⊢
          obtain ⟨hw, b_7⟩ := hw
          obtain rfl := hw.symm
          refine lv_if_ne (tgt := 40) hx hb dX8_row_27 (by decide) (fun c_8 => ?_) (fun c_8 => ?_)
          · replace hf := x_in c_8 hf
            refine lv_aload_n hx hb dX8_row_40 rfl (lv_at hl 0 rfl) ?_
            refine va_get (D := (dC, dI)) (ci := 8) (v := .ref o0) (C := RX8) (T := TX8) (N := 6) hx hb hts i_X8_row_X8 hown hK hP 0 rfl rfl 2 (by decide) k_3 (fun _ h9 => h9) rfl dX8_row_41 ?_
            refine va_getN (D := (dC, dI)) (ci := 0) (v := .int v0_15) (C := RX0) (T := TX0) (N := 17) hx hb hts i_X8_row_X0 hown hK hP 2 rfl rfl 15 (by decide) ((hN.1 ("FlowJudge", 163, "FlowJudge$Code", "rowCount", "I") (List.mem_of_getElem? (i := 6) rfl)).use rfl) (fun _ h9 => h9) rfl dX8_row_44 ?_
            refine lv_bipush (v := 50) hx hb dX8_row_47 (by decide) ?_
            refine lv_icmp_lt (tgt := 62) hx hb dX8_row_49 (by decide) (fun c_9 => ?_) (fun c_9 => ?_)
            · replace hf := x_ip c_9 hf
              refine lv_aload_n hx hb dX8_row_62 rfl (lv_at hl 0 rfl) ?_
              refine va_get (D := (dC, dI)) (ci := 8) (v := .ref o0) (C := RX8) (T := TX8) (N := 6) hx hb hts i_X8_row_X8 hown hK hP 0 rfl rfl 2 (by decide) k_3 (fun _ h9 => h9) rfl dX8_row_63 ?_
              refine lv_iload_n hx hb dX8_row_66 rfl (lv_at hl 1 rfl) ?_
              refine lv_iload_n hx hb dX8_row_67 rfl (lv_at hl 2 rfl) ?_
              refine lv_iload_n hx hb dX8_row_68 rfl (lv_at hl 3 rfl) ?_
              refine lv_iload hx hb dX8_row_69 (lv_at hl 4 rfl) ?_
              obtain ⟨r_10, h_10, hf⟩ := x_bi hf
              have hPc := hP.sub (ws' := [(o0, .inr (0, [.int v0_0, .int v0_1, .int v0_2, .int v0_3, .int v0_4, .ref a0_5, .int v0_6, .ref a0_7, .ref a0_8, .ref a0_9, .int v0_10, .ref a0_11, .ref a0_12, .ref a0_13, .ref a0_14, .int v0_15, .ref a0_16])), (a0_14, .inl (cyI, 200, .inl g0_14))]) [2, 3] rfl
              have hDc := hD.sub (ws' := [(o0, .inr (0, [.int v0_0, .int v0_1, .int v0_2, .int v0_3, .int v0_4, .ref a0_5, .int v0_6, .ref a0_7, .ref a0_8, .ref a0_9, .int v0_10, .ref a0_11, .ref a0_12, .ref a0_13, .ref a0_14, .int v0_15, .ref a0_16])), (a0_14, .inl (cyI, 200, .inl g0_14))]) [2, 3] (by decide) rfl
              have hFc := va_free (wc := [(o0, .inr (0, [.int v0_0, .int v0_1, .int v0_2, .int v0_3, .int v0_4, .ref a0_5, .int v0_6, .ref a0_7, .ref a0_8, .ref a0_9, .int v0_10, .ref a0_11, .ref a0_12, .ref a0_13, .ref a0_14, .int v0_15, .ref a0_16])), (a0_14, .inl (cyI, 200, .inl g0_14))]) hD hS hA [2, 3] rfl
              refine va_calli (va_runV (As := [.int p1, .int p2, .int p3, .int p4]) (rest := []) ⟨hx, hb, hml, hown, hts⟩ (c_X0_enterRow l dC dI cyI cyZ cyJ H.size o0 v0_0 v0_1 v0_2 v0_3 v0_4 a0_5 v0_6 a0_7 a0_8 a0_9 v0_10 a0_11 a0_12 a0_13 a0_14 v0_15 a0_16 g0_14 p1 p2 p3 p4 r_10 h_10) (cwV 4 hts gX8_row_X0_enterRow rfl rfl rfl (by decide +kernel) ⟨Nat.le_of_ble_eq_true rfl, Nat.le_of_ble_eq_true rfl⟩) (x_pVD hN hK hPc hDc (ci := 0) (q0 := 0) rfl rfl) rfl rfl hl.1 rfl (lv_room (Nat.le_of_ble_eq_true rfl)) dX8_row_71 ⟨Nat.le_of_ble_eq_true rfl, Nat.le_of_ble_eq_true rfl⟩) hS (fun q _ h => hFc q h) hFc (fun q_10 u t H1 locs ht hvm hw hB hz1 hk1 hS => ?_)
              obtain ⟨hP1, hK1, hD1⟩ := hB
              rw [ht] at hP1
              obtain ⟨hP, hD⟩ := va_join (wr := [(o8, .inr (8, [.ref o7, .ref o4, .ref o0, .ref o1, .ref o3, .ref o2])), (o7, .inr (7, [.ref a7_0, .ref a7_1, .int v7_2]))]) (w1 := [(o0, .inr (0, [.int v0_0, .int v0_1, .int v0_2, .int v0_3, .int v0_4, .ref a0_5, .int v0_6, .ref a0_7, .ref a0_8, .ref a0_9, .int v0_10, .ref a0_11, .ref a0_12, .ref a0_13, .ref a0_14, .int (r_10.2.1), .ref a0_16])), (a0_14, .inl (cyI, 200, .inl r_10.2.2))]) hP hD [2, 3] [0, 1] rfl rfl (by decide) (by decide) hk1 hFc hP1 hD1
              clear hz1 hk1 hPc hDc hFc hP1 hK1 hD1 ht hvm t u
              generalize H1 = H at hP hS ⊢
              have hP : va_P (dC, dI) vwCl [(o8, .inr (8, [.ref o7, .ref o4, .ref o0, .ref o1, .ref o3, .ref o2])), (o7, .inr (7, [.ref a7_0, .ref a7_1, .int v7_2])), (o0, .inr (0, [.int v0_0, .int v0_1, .int v0_2, .int v0_3, .int v0_4, .ref a0_5, .int v0_6, .ref a0_7, .ref a0_8, .ref a0_9, .int v0_10, .ref a0_11, .ref a0_12, .ref a0_13, .ref a0_14, .int (r_10.2.1), .ref a0_16])), (a0_14, .inl (cyI, 200, .inl r_10.2.2))] H := hP
              have hD : va_D A [(o8, .inr (8, [.ref o7, .ref o4, .ref o0, .ref o1, .ref o3, .ref o2])), (o7, .inr (7, [.ref a7_0, .ref a7_1, .int v7_2])), (o0, .inr (0, [.int v0_0, .int v0_1, .int v0_2, .int v0_3, .int v0_4, .ref a0_5, .int v0_6, .ref a0_7, .ref a0_8, .ref a0_9, .int v0_10, .ref a0_11, .ref a0_12, .ref a0_13, .ref a0_14, .int (r_10.2.1), .ref a0_16])), (a0_14, .inl (cyI, 200, .inl r_10.2.2))] := hD
              obtain rfl := hw.symm
              obtain rfl := Option.some.inj hf
              have hP9 := hP.sub (ws' := [(o8, .inr (8, [.ref o7, .ref o4, .ref o0, .ref o1, .ref o3, .ref o2])), (o7, .inr (7, [.ref a7_0, .ref a7_1, .int v7_2])), (o0, .inr (0, [.int v0_0, .int v0_1, .int v0_2, .int v0_3, .int v0_4, .ref a0_5, .int v0_6, .ref a0_7, .ref a0_8, .ref a0_9, .int v0_10, .ref a0_11, .ref a0_12, .ref a0_13, .ref a0_14, .int (r_10.2.1), .ref a0_16])), (a0_14, .inl (cyI, 200, .inl r_10.2.2))]) [0, 1, 2, 3] rfl
              have hD9 := hD.sub (ws' := [(o8, .inr (8, [.ref o7, .ref o4, .ref o0, .ref o1, .ref o3, .ref o2])), (o7, .inr (7, [.ref a7_0, .ref a7_1, .int v7_2])), (o0, .inr (0, [.int v0_0, .int v0_1, .int v0_2, .int v0_3, .int v0_4, .ref a0_5, .int v0_6, .ref a0_7, .ref a0_8, .ref a0_9, .int v0_10, .ref a0_11, .ref a0_12, .ref a0_13, .ref a0_14, .int (r_10.2.1), .ref a0_16])), (a0_14, .inl (cyI, 200, .inl r_10.2.2))]) [0, 1, 2, 3] (by decide) rfl
              refine vx_ret ?_
              refine W.widen (k := 1) (n := 6) (Nat.le_of_ble_eq_true rfl) (Nat.le_of_ble_eq_true rfl) ?_
              exact W.iret hx hb hr (fun t ht hW => ⟨⟨_, (), rfl, ⟨rfl, rfl⟩, by rw [ht]; exact hP9, va_K.moved hW.alike hK, hD9⟩, hS.F ht⟩) hS.2.2 dX8_row_74
            · replace hf := x_in c_9 hf
              obtain rfl := Option.some.inj hf
              obtain ⟨sa, hsa⟩ := hG.2.2.1 (166, "no more ROWS") (by decide)
              have hP9 := hP.sub (ws' := [(o8, .inr (8, [.ref o7, .ref o4, .ref o0, .ref o1, .ref o3, .ref o2])), (o7, .inr (7, [.ref a7_0, .ref a7_1, .int v7_2])), (o0, .inr (0, [.int v0_0, .int v0_1, .int v0_2, .int v0_3, .int v0_4, .ref a0_5, .int v0_6, .ref a0_7, .ref a0_8, .ref a0_9, .int v0_10, .ref a0_11, .ref a0_12, .ref a0_13, .ref a0_14, .int v0_15, .ref a0_16])), (a0_14, .inl (cyI, 200, .inl g0_14))]) [0, 1, 2, 3] rfl
              have hD9 := hD.sub (ws' := [(o8, .inr (8, [.ref o7, .ref o4, .ref o0, .ref o1, .ref o3, .ref o2])), (o7, .inr (7, [.ref a7_0, .ref a7_1, .int v7_2])), (o0, .inr (0, [.int v0_0, .int v0_1, .int v0_2, .int v0_3, .int v0_4, .ref a0_5, .int v0_6, .ref a0_7, .ref a0_8, .ref a0_9, .int v0_10, .ref a0_11, .ref a0_12, .ref a0_13, .ref a0_14, .int v0_15, .ref a0_16])), (a0_14, .inl (cyI, 200, .inl g0_14))]) [0, 1, 2, 3] (by decide) rfl
              refine vx_throwS (cls := "java/lang/IllegalStateException") (names := ["java/lang/RuntimeException", "java/lang/Exception"]) hx hb hl9 hown (by decide +kernel) (by decide +kernel) k_4 k_5 hsa (x_at2 hG.2.2.2 hts_2) (by decide +kernel) (hG.1.narrow hAb) (hG.2.1.narrow hAb) hS (hl.1.trans hml.symm) dX8_row_52 dX8_row_55 dX8_row_56 dX8_row_58 dX8_row_61 (fun z hz => (hno z hz).elim) (Nat.le_of_ble_eq_true rfl) (Nat.le_of_ble_eq_true rfl) (Nat.le_of_ble_eq_true rfl) (Nat.le_of_ble_eq_true rfl) hlocks (fun t ha h1 h2 => ⟨(), trivial, ⟨x_thr2, x_kp hP9 (fun q h _ => h2 q h), va_K.moved ha hK, hD9⟩, x_mv hS h1 h2⟩) hS.2.2 (Nat.le_of_ble_eq_true rfl) (Nat.le_of_ble_eq_true rfl)
          · replace hf := x_ip c_8 hf
            obtain rfl := Option.some.inj hf
            obtain ⟨sa, hsa⟩ := hG.2.2.1 (161, "no INSTRUCTION or no CLASS") (by decide)
            have hP9 := hP.sub (ws' := [(o8, .inr (8, [.ref o7, .ref o4, .ref o0, .ref o1, .ref o3, .ref o2])), (o7, .inr (7, [.ref a7_0, .ref a7_1, .int v7_2])), (o0, .inr (0, [.int v0_0, .int v0_1, .int v0_2, .int v0_3, .int v0_4, .ref a0_5, .int v0_6, .ref a0_7, .ref a0_8, .ref a0_9, .int v0_10, .ref a0_11, .ref a0_12, .ref a0_13, .ref a0_14, .int v0_15, .ref a0_16])), (a0_14, .inl (cyI, 200, .inl g0_14))]) [0, 1, 2, 3] rfl
            have hD9 := hD.sub (ws' := [(o8, .inr (8, [.ref o7, .ref o4, .ref o0, .ref o1, .ref o3, .ref o2])), (o7, .inr (7, [.ref a7_0, .ref a7_1, .int v7_2])), (o0, .inr (0, [.int v0_0, .int v0_1, .int v0_2, .int v0_3, .int v0_4, .ref a0_5, .int v0_6, .ref a0_7, .ref a0_8, .ref a0_9, .int v0_10, .ref a0_11, .ref a0_12, .ref a0_13, .ref a0_14, .int v0_15, .ref a0_16])), (a0_14, .inl (cyI, 200, .inl g0_14))]) [0, 1, 2, 3] (by decide) rfl
            refine vx_throwS (cls := "java/lang/IllegalArgumentException") (names := ["java/lang/RuntimeException", "java/lang/Exception"]) hx hb hl9 hown (by decide +kernel) (by decide +kernel) k_1 k_2 hsa (x_at1 hG.2.2.2 hts_1) (by decide +kernel) (hG.1.narrow hAb) (hG.2.1.narrow hAb) hS (hl.1.trans hml.symm) dX8_row_30 dX8_row_33 dX8_row_34 dX8_row_36 dX8_row_39 (fun z hz => (hno z hz).elim) (Nat.le_of_ble_eq_true rfl) (Nat.le_of_ble_eq_true rfl) (Nat.le_of_ble_eq_true rfl) (Nat.le_of_ble_eq_true rfl) hlocks (fun t ha h1 h2 => ⟨(), trivial, ⟨x_thr1, x_kp hP9 (fun q h _ => h2 q h), va_K.moved ha hK, hD9⟩, x_mv hS h1 h2⟩) hS.2.2 (Nat.le_of_ble_eq_true rfl) (Nat.le_of_ble_eq_true rfl)

theorem i_X8_frame_X8 : ∀ w ∈ wsX80, w ∈ wsX8_frame := by decide +kernel
theorem u_X8_frame_1 : ∀ w ∈ (vx_atS RX8 67 "java/lang/IllegalArgumentException" ["java/lang/RuntimeException", "java/lang/Exception"]).filter goodWord, w ∈ wsX8_frame := by decide +kernel
set_option maxHeartbeats 4000000 in
set_option maxRecDepth 100000 in
theorem c_X8_frame (l : Launch) (hl9 : l.stackTraces = false) (dC : Nat → ClassId) (dI : Nat → Nat → Nat) (cyI cyZ cyJ : ClassId) (sz : Nat) (base : Nat) (o8 : Nat) (o7 : Nat) (o4 : Nat) (o0 : Nat) (o1 : Nat) (o3 : Nat) (o2 : Nat) (a1_0 : Nat) (a1_1 : Nat) (a1_2 : Nat) (a1_3 : Nat) (a1_4 : Nat) (v1_5 : Int32) (g1_2 : Nat → Int32) (n1_2 : Nat) (v3_2 : Int32) (v3_3 : Int32) (v3_4 : Int32) (a3_5 : Nat) (a3_6 : Nat) (a3_7 : Nat) (a3_8 : Nat) (a3_9 : Nat) (a3_10 : Nat) (a3_11 : Nat) (a3_12 : Nat) (v3_13 : Int32) (v3_14 : Int32) (a3_15 : Nat) (a3_16 : Nat) (g3_6 : Nat → Int32) (n3_6 : Nat) (g3_7 : Nat → Int32) (n3_7 : Nat) (g3_8 : Nat → Int32) (n3_8 : Nat) (g3_9 : Nat → Int32) (n3_9 : Nat) (g3_15 : Nat → Int32) (n3_15 : Nat) (p1 : Int32) (p2 : Int32) (R : Int32 × Int32) (hf : f_X8_frame g1_2 n1_2 v3_4 g3_6 n3_6 g3_7 n3_7 g3_8 n3_8 g3_9 n3_9 g3_15 n3_15 p1 p2 = some R) : vx_Met l yX8_frame wsX8_frame ({ frames := 6, cells := 1, slots := 6, locals := 90 }) (va_Pc [.ref o8, .int p1, .int p2] (x_PreX (dC, dI) (x_T cyI cyZ cyJ) [(o8, .inr (8, [.ref o7, .ref o4, .ref o0, .ref o1, .ref o3, .ref o2])), (o1, .inr (1, [.ref a1_0, .ref a1_1, .ref a1_2, .ref a1_3, .ref a1_4, .int v1_5])), (a1_2, .inl (cyI, n1_2, .inl g1_2)), (o3, .inr (3, [.ref o7, .ref o1, .int v3_2, .int v3_3, .int v3_4, .ref a3_5, .ref a3_6, .ref a3_7, .ref a3_8, .ref a3_9, .ref a3_10, .ref a3_11, .ref a3_12, .int v3_13, .int v3_14, .ref a3_15, .ref a3_16])), (a3_6, .inl (cyI, n3_6, .inl g3_6)), (a3_7, .inl (cyI, n3_7, .inl g3_7)), (a3_8, .inl (cyI, n3_8, .inl g3_8)), (a3_9, .inl (cyI, n3_9, .inl g3_9)), (a3_15, .inl (cyI, n3_15, .inl g3_15))] base sz)) (va_Qi (fun (r : Int32) (_ : Unit) => R.1 = 0 ∧ r = R.2) (fun (_ : Unit) (t : State) => va_P (dC, dI) vwCl [(o8, .inr (8, [.ref o7, .ref o4, .ref o0, .ref o1, .ref o3, .ref o2])), (o1, .inr (1, [.ref a1_0, .ref a1_1, .ref a1_2, .ref a1_3, .ref a1_4, .int v1_5])), (a1_2, .inl (cyI, n1_2, .inl g1_2)), (o3, .inr (3, [.ref o7, .ref o1, .int v3_2, .int v3_3, .int v3_4, .ref a3_5, .ref a3_6, .ref a3_7, .ref a3_8, .ref a3_9, .ref a3_10, .ref a3_11, .ref a3_12, .int v3_13, .int v3_14, .ref a3_15, .ref a3_16])), (a3_6, .inl (cyI, n3_6, .inl g3_6)), (a3_7, .inl (cyI, n3_7, .inl g3_7)), (a3_8, .inl (cyI, n3_8, .inl g3_8)), (a3_9, .inl (cyI, n3_9, .inl g3_9)), (a3_15, .inl (cyI, n3_15, .inl g3_15))] t.heap ∧ va_K (dC, dI) vwCl (x_T cyI cyZ cyJ) t ∧ va_D (va_A [(o8, .inr (8, [.ref o7, .ref o4, .ref o0, .ref o1, .ref o3, .ref o2])), (o1, .inr (1, [.ref a1_0, .ref a1_1, .ref a1_2, .ref a1_3, .ref a1_4, .int v1_5])), (a1_2, .inl (cyI, n1_2, .inl g1_2)), (o3, .inr (3, [.ref o7, .ref o1, .int v3_2, .int v3_3, .int v3_4, .ref a3_5, .ref a3_6, .ref a3_7, .ref a3_8, .ref a3_9, .ref a3_10, .ref a3_11, .ref a3_12, .int v3_13, .int v3_14, .ref a3_15, .ref a3_16])), (a3_6, .inl (cyI, n3_6, .inl g3_6)), (a3_7, .inl (cyI, n3_7, .inl g3_7)), (a3_8, .inl (cyI, n3_8, .inl g3_8)), (a3_9, .inl (cyI, n3_9, .inl g3_9)), (a3_15, .inl (cyI, n3_15, .inl g3_15))] sz) [(o8, .inr (8, [.ref o7, .ref o4, .ref o0, .ref o1, .ref o3, .ref o2])), (o1, .inr (1, [.ref a1_0, .ref a1_1, .ref a1_2, .ref a1_3, .ref a1_4, .int v1_5])), (a1_2, .inl (cyI, n1_2, .inl g1_2)), (o3, .inr (3, [.ref o7, .ref o1, .int v3_2, .int v3_3, .int v3_4, .ref a3_5, .ref a3_6, .ref a3_7, .ref a3_8, .ref a3_9, .ref a3_10, .ref a3_11, .ref a3_12, .int v3_13, .int v3_14, .ref a3_15, .ref a3_16])), (a3_6, .inl (cyI, n3_6, .inl g3_6)), (a3_7, .inl (cyI, n3_7, .inl g3_7)), (a3_8, .inl (cyI, n3_8, .inl g3_8)), (a3_9, .inl (cyI, n3_9, .inl g3_9)), (a3_15, .inl (cyI, n3_15, .inl g3_15))]) (va_A [(o8, .inr (8, [.ref o7, .ref o4, .ref o0, .ref o1, .ref o3, .ref o2])), (o1, .inr (1, [.ref a1_0, .ref a1_1, .ref a1_2, .ref a1_3, .ref a1_4, .int v1_5])), (a1_2, .inl (cyI, n1_2, .inl g1_2)), (o3, .inr (3, [.ref o7, .ref o1, .int v3_2, .int v3_3, .int v3_4, .ref a3_5, .ref a3_6, .ref a3_7, .ref a3_8, .ref a3_9, .ref a3_10, .ref a3_11, .ref a3_12, .int v3_13, .int v3_14, .ref a3_15, .ref a3_16])), (a3_6, .inl (cyI, n3_6, .inl g3_6)), (a3_7, .inl (cyI, n3_7, .inl g3_7)), (a3_8, .inl (cyI, n3_8, .inl g3_8)), (a3_9, .inl (cyI, n3_9, .inl g3_9)), (a3_15, .inl (cyI, n3_15, .inl g3_15))] sz)) (vx_X (fun _ : Unit => True) (fun (E : String) (_ : Unit) (t : State) => (R.1 = 1 ∧ E = "java/lang/IllegalArgumentException") ∧ (va_P (dC, dI) vwCl [(o8, .inr (8, [.ref o7, .ref o4, .ref o0, .ref o1, .ref o3, .ref o2])), (o1, .inr (1, [.ref a1_0, .ref a1_1, .ref a1_2, .ref a1_3, .ref a1_4, .int v1_5])), (a1_2, .inl (cyI, n1_2, .inl g1_2)), (o3, .inr (3, [.ref o7, .ref o1, .int v3_2, .int v3_3, .int v3_4, .ref a3_5, .ref a3_6, .ref a3_7, .ref a3_8, .ref a3_9, .ref a3_10, .ref a3_11, .ref a3_12, .int v3_13, .int v3_14, .ref a3_15, .ref a3_16])), (a3_6, .inl (cyI, n3_6, .inl g3_6)), (a3_7, .inl (cyI, n3_7, .inl g3_7)), (a3_8, .inl (cyI, n3_8, .inl g3_8)), (a3_9, .inl (cyI, n3_9, .inl g3_9)), (a3_15, .inl (cyI, n3_15, .inl g3_15))] t.heap ∧ va_K (dC, dI) vwCl (x_T cyI cyZ cyJ) t ∧ va_D (va_A [(o8, .inr (8, [.ref o7, .ref o4, .ref o0, .ref o1, .ref o3, .ref o2])), (o1, .inr (1, [.ref a1_0, .ref a1_1, .ref a1_2, .ref a1_3, .ref a1_4, .int v1_5])), (a1_2, .inl (cyI, n1_2, .inl g1_2)), (o3, .inr (3, [.ref o7, .ref o1, .int v3_2, .int v3_3, .int v3_4, .ref a3_5, .ref a3_6, .ref a3_7, .ref a3_8, .ref a3_9, .ref a3_10, .ref a3_11, .ref a3_12, .int v3_13, .int v3_14, .ref a3_15, .ref a3_16])), (a3_6, .inl (cyI, n3_6, .inl g3_6)), (a3_7, .inl (cyI, n3_7, .inl g3_7)), (a3_8, .inl (cyI, n3_8, .inl g3_8)), (a3_9, .inl (cyI, n3_9, .inl g3_9)), (a3_15, .inl (cyI, n3_15, .inl g3_15))] sz) [(o8, .inr (8, [.ref o7, .ref o4, .ref o0, .ref o1, .ref o3, .ref o2])), (o1, .inr (1, [.ref a1_0, .ref a1_1, .ref a1_2, .ref a1_3, .ref a1_4, .int v1_5])), (a1_2, .inl (cyI, n1_2, .inl g1_2)), (o3, .inr (3, [.ref o7, .ref o1, .int v3_2, .int v3_3, .int v3_4, .ref a3_5, .ref a3_6, .ref a3_7, .ref a3_8, .ref a3_9, .ref a3_10, .ref a3_11, .ref a3_12, .int v3_13, .int v3_14, .ref a3_15, .ref a3_16])), (a3_6, .inl (cyI, n3_6, .inl g3_6)), (a3_7, .inl (cyI, n3_7, .inl g3_7)), (a3_8, .inl (cyI, n3_8, .inl g3_8)), (a3_9, .inl (cyI, n3_9, .inl g3_9)), (a3_15, .inl (cyI, n3_15, .inl g3_15))])) (va_A [(o8, .inr (8, [.ref o7, .ref o4, .ref o0, .ref o1, .ref o3, .ref o2])), (o1, .inr (1, [.ref a1_0, .ref a1_1, .ref a1_2, .ref a1_3, .ref a1_4, .int v1_5])), (a1_2, .inl (cyI, n1_2, .inl g1_2)), (o3, .inr (3, [.ref o7, .ref o1, .int v3_2, .int v3_3, .int v3_4, .ref a3_5, .ref a3_6, .ref a3_7, .ref a3_8, .ref a3_9, .ref a3_10, .ref a3_11, .ref a3_12, .int v3_13, .int v3_14, .ref a3_15, .ref a3_16])), (a3_6, .inl (cyI, n3_6, .inl g3_6)), (a3_7, .inl (cyI, n3_7, .inl g3_7)), (a3_8, .inl (cyI, n3_8, .inl g3_8)), (a3_9, .inl (cyI, n3_9, .inl g3_9)), (a3_15, .inl (cyI, n3_15, .inl g3_15))] sz)) 1 6 (va_A [(o8, .inr (8, [.ref o7, .ref o4, .ref o0, .ref o1, .ref o3, .ref o2])), (o1, .inr (1, [.ref a1_0, .ref a1_1, .ref a1_2, .ref a1_3, .ref a1_4, .int v1_5])), (a1_2, .inl (cyI, n1_2, .inl g1_2)), (o3, .inr (3, [.ref o7, .ref o1, .int v3_2, .int v3_3, .int v3_4, .ref a3_5, .ref a3_6, .ref a3_7, .ref a3_8, .ref a3_9, .ref a3_10, .ref a3_11, .ref a3_12, .int v3_13, .int v3_14, .ref a3_15, .ref a3_16])), (a3_6, .inl (cyI, n3_6, .inl g3_6)), (a3_7, .inl (cyI, n3_7, .inl g3_7)), (a3_8, .inl (cyI, n3_8, .inl g3_8)), (a3_9, .inl (cyI, n3_9, .inl g3_9)), (a3_15, .inl (cyI, n3_15, .inl g3_15))] sz) := by
  refine vx_ofW (cc := cX8_frame) (maxL := 3) (ret := (some .int)) (by decide) rfl ?_
  intro p e s m args below meth c s₁ B hml hno hv
  obtain ⟨rfl, ⟨⟨hsz, hP, hK, hN⟩, hD0⟩, hDb, hbz, hG⟩ := hv
  have hx := B.exec
  have hb := B.bytes
  have hr := B.returns
  have hts := atoms_spec (ws := wsX8_frame) B.pre
  have hown : s.vm.findClass RX8 = some m.cls := findClass_of_methodNamed B.named
  have hlocks := B.notSynchronized
  have hts_1 := fun w (h : w ∈ (vx_atS RX8 67 "java/lang/IllegalArgumentException" ["java/lang/RuntimeException", "java/lang/Exception"]).filter goodWord) => hts w (u_X8_frame_1 w h)
  have k_1 := hts (.classLink RX8 63 "java/lang/IllegalArgumentException") (by decide +kernel)
  have k_2 := hts (.initialized "java/lang/IllegalArgumentException") (by decide +kernel)
  have k_3 := hts (.fieldLink RX8 42 "FlowJudge" "frames" "LFlowJudge$Frames;") (by decide +kernel)
  subst hsz
  have hAb : ∀ q, va_A [(o8, .inr (8, [.ref o7, .ref o4, .ref o0, .ref o1, .ref o3, .ref o2])), (o1, .inr (1, [.ref a1_0, .ref a1_1, .ref a1_2, .ref a1_3, .ref a1_4, .int v1_5])), (a1_2, .inl (cyI, n1_2, .inl g1_2)), (o3, .inr (3, [.ref o7, .ref o1, .int v3_2, .int v3_3, .int v3_4, .ref a3_5, .ref a3_6, .ref a3_7, .ref a3_8, .ref a3_9, .ref a3_10, .ref a3_11, .ref a3_12, .int v3_13, .int v3_14, .ref a3_15, .ref a3_16])), (a3_6, .inl (cyI, n3_6, .inl g3_6)), (a3_7, .inl (cyI, n3_7, .inl g3_7)), (a3_8, .inl (cyI, n3_8, .inl g3_8)), (a3_9, .inl (cyI, n3_9, .inl g3_9)), (a3_15, .inl (cyI, n3_15, .inl g3_15))] s.heap.size q → x_new base q := x_Ab hDb hbz
  have hD := hD0.self (sz := s.heap.size)
  generalize hAe : va_A [(o8, .inr (8, [.ref o7, .ref o4, .ref o0, .ref o1, .ref o3, .ref o2])), (o1, .inr (1, [.ref a1_0, .ref a1_1, .ref a1_2, .ref a1_3, .ref a1_4, .int v1_5])), (a1_2, .inl (cyI, n1_2, .inl g1_2)), (o3, .inr (3, [.ref o7, .ref o1, .int v3_2, .int v3_3, .int v3_4, .ref a3_5, .ref a3_6, .ref a3_7, .ref a3_8, .ref a3_9, .ref a3_10, .ref a3_11, .ref a3_12, .int v3_13, .int v3_14, .ref a3_15, .ref a3_16])), (a3_6, .inl (cyI, n3_6, .inl g3_6)), (a3_7, .inl (cyI, n3_7, .inl g3_7)), (a3_8, .inl (cyI, n3_8, .inl g3_8)), (a3_9, .inl (cyI, n3_9, .inl g3_9)), (a3_15, .inl (cyI, n3_15, .inl g3_15))] s.heap.size = A at hD hAb ⊢
  have hA : ∀ q : Nat, s.heap.size ≤ q → A q := fun q h => by rw [← hAe]; exact Or.inr h
  have hP : va_P (dC, dI) vwCl [(o8, .inr (8, [.ref o7, .ref o4, .ref o0, .ref o1, .ref o3, .ref o2])), (o1, .inr (1, [.ref a1_0, .ref a1_1, .ref a1_2, .ref a1_3, .ref a1_4, .int v1_5])), (a1_2, .inl (cyI, n1_2, .inl g1_2)), (o3, .inr (3, [.ref o7, .ref o1, .int v3_2, .int v3_3, .int v3_4, .ref a3_5, .ref a3_6, .ref a3_7, .ref a3_8, .ref a3_9, .ref a3_10, .ref a3_11, .ref a3_12, .int v3_13, .int v3_14, .ref a3_15, .ref a3_16])), (a3_6, .inl (cyI, n3_6, .inl g3_6)), (a3_7, .inl (cyI, n3_7, .inl g3_7)), (a3_8, .inl (cyI, n3_8, .inl g3_8)), (a3_9, .inl (cyI, n3_9, .inl g3_9)), (a3_15, .inl (cyI, n3_15, .inl g3_15))] s.heap := hP
  have hl := lv_entry ([.ref o8, .int p1, .int p2]) (n := 3) (Nat.le_of_ble_eq_true rfl)
  rw [lg_entry_eq]
  generalize (lg_sl ([.ref o8, .int p1, .int p2]) ++ List.replicate (3 - (lg_sl ([.ref o8, .int p1, .int p2])).length) Slot.unset).toArray = ls at hl ⊢
  have hl : lv_has ls 3 [(0, .ref o8), (1, .int p1), (2, .int p2)] := hl
  obtain ⟨H, hH⟩ : ∃ z, z = s.heap := ⟨_, rfl⟩
  refine x_here hH ?_
  have hP : va_P (dC, dI) vwCl [(o8, .inr (8, [.ref o7, .ref o4, .ref o0, .ref o1, .ref o3, .ref o2])), (o1, .inr (1, [.ref a1_0, .ref a1_1, .ref a1_2, .ref a1_3, .ref a1_4, .int v1_5])), (a1_2, .inl (cyI, n1_2, .inl g1_2)), (o3, .inr (3, [.ref o7, .ref o1, .int v3_2, .int v3_3, .int v3_4, .ref a3_5, .ref a3_6, .ref a3_7, .ref a3_8, .ref a3_9, .ref a3_10, .ref a3_11, .ref a3_12, .int v3_13, .int v3_14, .ref a3_15, .ref a3_16])), (a3_6, .inl (cyI, n3_6, .inl g3_6)), (a3_7, .inl (cyI, n3_7, .inl g3_7)), (a3_8, .inl (cyI, n3_8, .inl g3_8)), (a3_9, .inl (cyI, n3_9, .inl g3_9)), (a3_15, .inl (cyI, n3_15, .inl g3_15))] H := by rw [hH]; exact hP
  have hS : va_S A s.heap H [] := by rw [hH]; exact va_S.rf
  clear hH
  obtain ⟨locs, hlo⟩ : ∃ z : List Loc, z = [] := ⟨_, rfl⟩
  refine x_herl hlo ?_
  have hS : va_S A s.heap H locs := by rw [hlo]; exact hS
  clear hlo
  unfold f_X8_frame at hf
  refine lv_iload_n hx hb dX8_frame_0 rfl (lv_at hl 2 rfl) ?_
  refine lv_if_lt (tgt := 9) hx hb dX8_frame_1 (by decide) (fun c_1 => ?_) (fun c_1 => ?_)
  · replace hf := x_ip c_1 hf
    obtain rfl := Option.some.inj hf
    obtain ⟨sa, hsa⟩ := hG.2.2.1 (210, "no such what") (by decide)
    have hP9 := hP.sub (ws' := [(o8, .inr (8, [.ref o7, .ref o4, .ref o0, .ref o1, .ref o3, .ref o2])), (o1, .inr (1, [.ref a1_0, .ref a1_1, .ref a1_2, .ref a1_3, .ref a1_4, .int v1_5])), (a1_2, .inl (cyI, n1_2, .inl g1_2)), (o3, .inr (3, [.ref o7, .ref o1, .int v3_2, .int v3_3, .int v3_4, .ref a3_5, .ref a3_6, .ref a3_7, .ref a3_8, .ref a3_9, .ref a3_10, .ref a3_11, .ref a3_12, .int v3_13, .int v3_14, .ref a3_15, .ref a3_16])), (a3_6, .inl (cyI, n3_6, .inl g3_6)), (a3_7, .inl (cyI, n3_7, .inl g3_7)), (a3_8, .inl (cyI, n3_8, .inl g3_8)), (a3_9, .inl (cyI, n3_9, .inl g3_9)), (a3_15, .inl (cyI, n3_15, .inl g3_15))]) [0, 1, 2, 3, 4, 5, 6, 7, 8] rfl
    have hD9 := hD.sub (ws' := [(o8, .inr (8, [.ref o7, .ref o4, .ref o0, .ref o1, .ref o3, .ref o2])), (o1, .inr (1, [.ref a1_0, .ref a1_1, .ref a1_2, .ref a1_3, .ref a1_4, .int v1_5])), (a1_2, .inl (cyI, n1_2, .inl g1_2)), (o3, .inr (3, [.ref o7, .ref o1, .int v3_2, .int v3_3, .int v3_4, .ref a3_5, .ref a3_6, .ref a3_7, .ref a3_8, .ref a3_9, .ref a3_10, .ref a3_11, .ref a3_12, .int v3_13, .int v3_14, .ref a3_15, .ref a3_16])), (a3_6, .inl (cyI, n3_6, .inl g3_6)), (a3_7, .inl (cyI, n3_7, .inl g3_7)), (a3_8, .inl (cyI, n3_8, .inl g3_8)), (a3_9, .inl (cyI, n3_9, .inl g3_9)), (a3_15, .inl (cyI, n3_15, .inl g3_15))]) [0, 1, 2, 3, 4, 5, 6, 7, 8] (by decide) rfl
    refine vx_throwS (cls := "java/lang/IllegalArgumentException") (names := ["java/lang/RuntimeException", "java/lang/Exception"]) hx hb hl9 hown (by decide +kernel) (by decide +kernel) k_1 k_2 hsa (x_at1 hG.2.2.2 hts_1) (by decide +kernel) (hG.1.narrow hAb) (hG.2.1.narrow hAb) hS (hl.1.trans hml.symm) dX8_frame_9 dX8_frame_12 dX8_frame_13 dX8_frame_15 dX8_frame_18 (fun z hz => (hno z hz).elim) (Nat.le_of_ble_eq_true rfl) (Nat.le_of_ble_eq_true rfl) (Nat.le_of_ble_eq_true rfl) (Nat.le_of_ble_eq_true rfl) hlocks (fun t ha h1 h2 => ⟨(), trivial, ⟨⟨rfl, rfl⟩, x_kp hP9 (fun q h _ => h2 q h), va_K.moved ha hK, hD9⟩, x_mv hS h1 h2⟩) hS.2.2 (Nat.le_of_ble_eq_true rfl) (Nat.le_of_ble_eq_true rfl)
  · replace hf := x_in c_1 hf
    refine lv_iload_n hx hb dX8_frame_4 rfl (lv_at hl 2 rfl) ?_
    refine lv_iconst (v := 3) hx hb dX8_frame_5 (by decide) ?_
    refine lv_icmp_le (tgt := 19) hx hb dX8_frame_6 (by decide) (fun c_2 => ?_) (fun c_2 => ?_)
    · replace hf := x_ip c_2 hf
      refine lv_aload_n hx hb dX8_frame_19 rfl (lv_at hl 0 rfl) ?_
      refine va_get (D := (dC, dI)) (ci := 8) (v := .ref o3) (C := RX8) (T := TX8) (N := 6) hx hb hts i_X8_frame_X8 hown hK hP 0 rfl rfl 4 (by decide) k_3 (fun _ h9 => h9) rfl dX8_frame_20 ?_
      refine lv_iload_n hx hb dX8_frame_23 rfl (lv_at hl 1 rfl) ?_
      refine lv_iload_n hx hb dX8_frame_24 rfl (lv_at hl 2 rfl) ?_
      obtain ⟨r_3, h_3, hf⟩ := x_bi hf
      have hPc := hP.sub (ws' := [(o1, .inr (1, [.ref a1_0, .ref a1_1, .ref a1_2, .ref a1_3, .ref a1_4, .int v1_5])), (a1_2, .inl (cyI, n1_2, .inl g1_2)), (o3, .inr (3, [.ref o7, .ref o1, .int v3_2, .int v3_3, .int v3_4, .ref a3_5, .ref a3_6, .ref a3_7, .ref a3_8, .ref a3_9, .ref a3_10, .ref a3_11, .ref a3_12, .int v3_13, .int v3_14, .ref a3_15, .ref a3_16])), (a3_6, .inl (cyI, n3_6, .inl g3_6)), (a3_7, .inl (cyI, n3_7, .inl g3_7)), (a3_8, .inl (cyI, n3_8, .inl g3_8)), (a3_9, .inl (cyI, n3_9, .inl g3_9)), (a3_15, .inl (cyI, n3_15, .inl g3_15))]) [1, 2, 3, 4, 5, 6, 7, 8] rfl
      refine va_calli (va_runV (As := [.int p1, .int p2]) (rest := []) ⟨hx, hb, hml, hown, hts⟩ (c_X3_factOf l dC dI cyI cyZ cyJ H.size o1 a1_0 a1_1 a1_2 a1_3 a1_4 v1_5 g1_2 n1_2 o3 o7 v3_2 v3_3 v3_4 a3_5 a3_6 a3_7 a3_8 a3_9 a3_10 a3_11 a3_12 v3_13 v3_14 a3_15 a3_16 g3_6 n3_6 g3_7 n3_7 g3_8 n3_8 g3_9 n3_9 g3_15 n3_15 p1 p2 r_3 h_3) (cwV 2 hts gX8_frame_X3_factOf rfl rfl rfl (by decide +kernel) ⟨Nat.le_of_ble_eq_true rfl, Nat.le_of_ble_eq_true rfl⟩) (x_pV hN hK hPc (ci := 3) (q0 := 2) rfl rfl) rfl rfl hl.1 rfl (lv_room (Nat.le_of_ble_eq_true rfl)) dX8_frame_25 ⟨Nat.le_of_ble_eq_true rfl, Nat.le_of_ble_eq_true rfl⟩) hS x_nA (x_nf hA hS) (fun q_3 u t H1 locs ht hvm hw hB hz1 hk1 hS => ?_)
      have hP := x_kp hP hk1
      clear ht hvm hB hz1 hk1 t u hPc
      generalize H1 = H at hP hS ⊢
      obtain rfl := hw.symm
      obtain rfl := Option.some.inj hf
      have hP9 := hP.sub (ws' := [(o8, .inr (8, [.ref o7, .ref o4, .ref o0, .ref o1, .ref o3, .ref o2])), (o1, .inr (1, [.ref a1_0, .ref a1_1, .ref a1_2, .ref a1_3, .ref a1_4, .int v1_5])), (a1_2, .inl (cyI, n1_2, .inl g1_2)), (o3, .inr (3, [.ref o7, .ref o1, .int v3_2, .int v3_3, .int v3_4, .ref a3_5, .ref a3_6, .ref a3_7, .ref a3_8, .ref a3_9, .ref a3_10, .ref a3_11, .ref a3_12, .int v3_13, .int v3_14, .ref a3_15, .ref a3_16])), (a3_6, .inl (cyI, n3_6, .inl g3_6)), (a3_7, .inl (cyI, n3_7, .inl g3_7)), (a3_8, .inl (cyI, n3_8, .inl g3_8)), (a3_9, .inl (cyI, n3_9, .inl g3_9)), (a3_15, .inl (cyI, n3_15, .inl g3_15))]) [0, 1, 2, 3, 4, 5, 6, 7, 8] rfl
      have hD9 := hD.sub (ws' := [(o8, .inr (8, [.ref o7, .ref o4, .ref o0, .ref o1, .ref o3, .ref o2])), (o1, .inr (1, [.ref a1_0, .ref a1_1, .ref a1_2, .ref a1_3, .ref a1_4, .int v1_5])), (a1_2, .inl (cyI, n1_2, .inl g1_2)), (o3, .inr (3, [.ref o7, .ref o1, .int v3_2, .int v3_3, .int v3_4, .ref a3_5, .ref a3_6, .ref a3_7, .ref a3_8, .ref a3_9, .ref a3_10, .ref a3_11, .ref a3_12, .int v3_13, .int v3_14, .ref a3_15, .ref a3_16])), (a3_6, .inl (cyI, n3_6, .inl g3_6)), (a3_7, .inl (cyI, n3_7, .inl g3_7)), (a3_8, .inl (cyI, n3_8, .inl g3_8)), (a3_9, .inl (cyI, n3_9, .inl g3_9)), (a3_15, .inl (cyI, n3_15, .inl g3_15))]) [0, 1, 2, 3, 4, 5, 6, 7, 8] (by decide) rfl
      refine vx_ret ?_
      refine W.widen (k := 1) (n := 6) (Nat.le_of_ble_eq_true rfl) (Nat.le_of_ble_eq_true rfl) ?_
      exact W.iret hx hb hr (fun t ht hW => ⟨⟨_, (), rfl, ⟨rfl, rfl⟩, by rw [ht]; exact hP9, va_K.moved hW.alike hK, hD9⟩, hS.F ht⟩) hS.2.2 dX8_frame_28
    · replace hf := x_in c_2 hf
      obtain rfl := Option.some.inj hf
      obtain ⟨sa, hsa⟩ := hG.2.2.1 (210, "no such what") (by decide)
      have hP9 := hP.sub (ws' := [(o8, .inr (8, [.ref o7, .ref o4, .ref o0, .ref o1, .ref o3, .ref o2])), (o1, .inr (1, [.ref a1_0, .ref a1_1, .ref a1_2, .ref a1_3, .ref a1_4, .int v1_5])), (a1_2, .inl (cyI, n1_2, .inl g1_2)), (o3, .inr (3, [.ref o7, .ref o1, .int v3_2, .int v3_3, .int v3_4, .ref a3_5, .ref a3_6, .ref a3_7, .ref a3_8, .ref a3_9, .ref a3_10, .ref a3_11, .ref a3_12, .int v3_13, .int v3_14, .ref a3_15, .ref a3_16])), (a3_6, .inl (cyI, n3_6, .inl g3_6)), (a3_7, .inl (cyI, n3_7, .inl g3_7)), (a3_8, .inl (cyI, n3_8, .inl g3_8)), (a3_9, .inl (cyI, n3_9, .inl g3_9)), (a3_15, .inl (cyI, n3_15, .inl g3_15))]) [0, 1, 2, 3, 4, 5, 6, 7, 8] rfl
      have hD9 := hD.sub (ws' := [(o8, .inr (8, [.ref o7, .ref o4, .ref o0, .ref o1, .ref o3, .ref o2])), (o1, .inr (1, [.ref a1_0, .ref a1_1, .ref a1_2, .ref a1_3, .ref a1_4, .int v1_5])), (a1_2, .inl (cyI, n1_2, .inl g1_2)), (o3, .inr (3, [.ref o7, .ref o1, .int v3_2, .int v3_3, .int v3_4, .ref a3_5, .ref a3_6, .ref a3_7, .ref a3_8, .ref a3_9, .ref a3_10, .ref a3_11, .ref a3_12, .int v3_13, .int v3_14, .ref a3_15, .ref a3_16])), (a3_6, .inl (cyI, n3_6, .inl g3_6)), (a3_7, .inl (cyI, n3_7, .inl g3_7)), (a3_8, .inl (cyI, n3_8, .inl g3_8)), (a3_9, .inl (cyI, n3_9, .inl g3_9)), (a3_15, .inl (cyI, n3_15, .inl g3_15))]) [0, 1, 2, 3, 4, 5, 6, 7, 8] (by decide) rfl
      refine vx_throwS (cls := "java/lang/IllegalArgumentException") (names := ["java/lang/RuntimeException", "java/lang/Exception"]) hx hb hl9 hown (by decide +kernel) (by decide +kernel) k_1 k_2 hsa (x_at1 hG.2.2.2 hts_1) (by decide +kernel) (hG.1.narrow hAb) (hG.2.1.narrow hAb) hS (hl.1.trans hml.symm) dX8_frame_9 dX8_frame_12 dX8_frame_13 dX8_frame_15 dX8_frame_18 (fun z hz => (hno z hz).elim) (Nat.le_of_ble_eq_true rfl) (Nat.le_of_ble_eq_true rfl) (Nat.le_of_ble_eq_true rfl) (Nat.le_of_ble_eq_true rfl) hlocks (fun t ha h1 h2 => ⟨(), trivial, ⟨⟨rfl, rfl⟩, x_kp hP9 (fun q h _ => h2 q h), va_K.moved ha hK, hD9⟩, x_mv hS h1 h2⟩) hS.2.2 (Nat.le_of_ble_eq_true rfl) (Nat.le_of_ble_eq_true rfl)

theorem i_X8_stands_X8 : ∀ w ∈ wsX80, w ∈ wsX8_stands := by decide +kernel
theorem u_X8_stands_1 : ∀ w ∈ (vx_atS RX8 67 "java/lang/IllegalArgumentException" ["java/lang/RuntimeException", "java/lang/Exception"]).filter goodWord, w ∈ wsX8_stands := by decide +kernel
set_option maxHeartbeats 4000000 in
set_option maxRecDepth 100000 in
theorem c_X8_stands (l : Launch) (hl9 : l.stackTraces = false) (dC : Nat → ClassId) (dI : Nat → Nat → Nat) (cyI cyZ cyJ : ClassId) (sz : Nat) (base : Nat) (o8 : Nat) (o7 : Nat) (o4 : Nat) (o0 : Nat) (o1 : Nat) (o3 : Nat) (o2 : Nat) (a7_0 : Nat) (a7_1 : Nat) (v7_2 : Int32) (g7_0 : Nat → Int32) (g7_1 : Nat → Int32) (p1 : Int32) (p2 : Int32) (R : Int32 × Int32) (hf : f_X8_stands v7_2 g7_0 g7_1 p1 p2 = some R) : vx_Met l yX8_stands wsX8_stands ({ frames := 6, cells := 1, slots := 6, locals := 90 }) (va_Pc [.ref o8, .int p1, .int p2] (x_PreX (dC, dI) (x_T cyI cyZ cyJ) [(o8, .inr (8, [.ref o7, .ref o4, .ref o0, .ref o1, .ref o3, .ref o2])), (o7, .inr (7, [.ref a7_0, .ref a7_1, .int v7_2])), (a7_0, .inl (cyI, 200, .inl g7_0)), (a7_1, .inl (cyZ, 200, .inl g7_1))] base sz)) (va_Qi (fun (r : Int32) (_ : Unit) => R.1 = 0 ∧ r = R.2 ∧ x_nb r) (fun (_ : Unit) (t : State) => va_P (dC, dI) vwCl [(o8, .inr (8, [.ref o7, .ref o4, .ref o0, .ref o1, .ref o3, .ref o2])), (o7, .inr (7, [.ref a7_0, .ref a7_1, .int v7_2])), (a7_0, .inl (cyI, 200, .inl g7_0)), (a7_1, .inl (cyZ, 200, .inl g7_1))] t.heap ∧ va_K (dC, dI) vwCl (x_T cyI cyZ cyJ) t ∧ va_D (va_A [(o8, .inr (8, [.ref o7, .ref o4, .ref o0, .ref o1, .ref o3, .ref o2])), (o7, .inr (7, [.ref a7_0, .ref a7_1, .int v7_2])), (a7_0, .inl (cyI, 200, .inl g7_0)), (a7_1, .inl (cyZ, 200, .inl g7_1))] sz) [(o8, .inr (8, [.ref o7, .ref o4, .ref o0, .ref o1, .ref o3, .ref o2])), (o7, .inr (7, [.ref a7_0, .ref a7_1, .int v7_2])), (a7_0, .inl (cyI, 200, .inl g7_0)), (a7_1, .inl (cyZ, 200, .inl g7_1))]) (va_A [(o8, .inr (8, [.ref o7, .ref o4, .ref o0, .ref o1, .ref o3, .ref o2])), (o7, .inr (7, [.ref a7_0, .ref a7_1, .int v7_2])), (a7_0, .inl (cyI, 200, .inl g7_0)), (a7_1, .inl (cyZ, 200, .inl g7_1))] sz)) (vx_X (fun _ : Unit => True) (fun (E : String) (_ : Unit) (t : State) => (R.1 = 1 ∧ E = "java/lang/IllegalArgumentException") ∧ (va_P (dC, dI) vwCl [(o8, .inr (8, [.ref o7, .ref o4, .ref o0, .ref o1, .ref o3, .ref o2])), (o7, .inr (7, [.ref a7_0, .ref a7_1, .int v7_2])), (a7_0, .inl (cyI, 200, .inl g7_0)), (a7_1, .inl (cyZ, 200, .inl g7_1))] t.heap ∧ va_K (dC, dI) vwCl (x_T cyI cyZ cyJ) t ∧ va_D (va_A [(o8, .inr (8, [.ref o7, .ref o4, .ref o0, .ref o1, .ref o3, .ref o2])), (o7, .inr (7, [.ref a7_0, .ref a7_1, .int v7_2])), (a7_0, .inl (cyI, 200, .inl g7_0)), (a7_1, .inl (cyZ, 200, .inl g7_1))] sz) [(o8, .inr (8, [.ref o7, .ref o4, .ref o0, .ref o1, .ref o3, .ref o2])), (o7, .inr (7, [.ref a7_0, .ref a7_1, .int v7_2])), (a7_0, .inl (cyI, 200, .inl g7_0)), (a7_1, .inl (cyZ, 200, .inl g7_1))])) (va_A [(o8, .inr (8, [.ref o7, .ref o4, .ref o0, .ref o1, .ref o3, .ref o2])), (o7, .inr (7, [.ref a7_0, .ref a7_1, .int v7_2])), (a7_0, .inl (cyI, 200, .inl g7_0)), (a7_1, .inl (cyZ, 200, .inl g7_1))] sz)) 1 6 (va_A [(o8, .inr (8, [.ref o7, .ref o4, .ref o0, .ref o1, .ref o3, .ref o2])), (o7, .inr (7, [.ref a7_0, .ref a7_1, .int v7_2])), (a7_0, .inl (cyI, 200, .inl g7_0)), (a7_1, .inl (cyZ, 200, .inl g7_1))] sz) := by
  refine vx_ofW (cc := cX8_stands) (maxL := 3) (ret := (some .boolean)) (by decide) rfl ?_
  intro p e s m args below meth c s₁ B hml hno hv
  obtain ⟨rfl, ⟨⟨hsz, hP, hK, hN⟩, hD0⟩, hDb, hbz, hG⟩ := hv
  have hx := B.exec
  have hb := B.bytes
  have hr := B.returns
  have hts := atoms_spec (ws := wsX8_stands) B.pre
  have hown : s.vm.findClass RX8 = some m.cls := findClass_of_methodNamed B.named
  have hlocks := B.notSynchronized
  have hts_1 := fun w (h : w ∈ (vx_atS RX8 67 "java/lang/IllegalArgumentException" ["java/lang/RuntimeException", "java/lang/Exception"]).filter goodWord) => hts w (u_X8_stands_1 w h)
  have k_1 := hts (.fieldLink RX8 10 "FlowJudge" "types" "LFlowJudge$Types;") (by decide +kernel)
  have k_2 := hts (.classLink RX8 63 "java/lang/IllegalArgumentException") (by decide +kernel)
  have k_3 := hts (.initialized "java/lang/IllegalArgumentException") (by decide +kernel)
  subst hsz
  have hAb : ∀ q, va_A [(o8, .inr (8, [.ref o7, .ref o4, .ref o0, .ref o1, .ref o3, .ref o2])), (o7, .inr (7, [.ref a7_0, .ref a7_1, .int v7_2])), (a7_0, .inl (cyI, 200, .inl g7_0)), (a7_1, .inl (cyZ, 200, .inl g7_1))] s.heap.size q → x_new base q := x_Ab hDb hbz
  have hD := hD0.self (sz := s.heap.size)
  generalize hAe : va_A [(o8, .inr (8, [.ref o7, .ref o4, .ref o0, .ref o1, .ref o3, .ref o2])), (o7, .inr (7, [.ref a7_0, .ref a7_1, .int v7_2])), (a7_0, .inl (cyI, 200, .inl g7_0)), (a7_1, .inl (cyZ, 200, .inl g7_1))] s.heap.size = A at hD hAb ⊢
  have hA : ∀ q : Nat, s.heap.size ≤ q → A q := fun q h => by rw [← hAe]; exact Or.inr h
  have hP : va_P (dC, dI) vwCl [(o8, .inr (8, [.ref o7, .ref o4, .ref o0, .ref o1, .ref o3, .ref o2])), (o7, .inr (7, [.ref a7_0, .ref a7_1, .int v7_2])), (a7_0, .inl (cyI, 200, .inl g7_0)), (a7_1, .inl (cyZ, 200, .inl g7_1))] s.heap := hP
  have hl := lv_entry ([.ref o8, .int p1, .int p2]) (n := 3) (Nat.le_of_ble_eq_true rfl)
  rw [lg_entry_eq]
  generalize (lg_sl ([.ref o8, .int p1, .int p2]) ++ List.replicate (3 - (lg_sl ([.ref o8, .int p1, .int p2])).length) Slot.unset).toArray = ls at hl ⊢
  have hl : lv_has ls 3 [(0, .ref o8), (1, .int p1), (2, .int p2)] := hl
  obtain ⟨H, hH⟩ : ∃ z, z = s.heap := ⟨_, rfl⟩
  refine x_here hH ?_
  have hP : va_P (dC, dI) vwCl [(o8, .inr (8, [.ref o7, .ref o4, .ref o0, .ref o1, .ref o3, .ref o2])), (o7, .inr (7, [.ref a7_0, .ref a7_1, .int v7_2])), (a7_0, .inl (cyI, 200, .inl g7_0)), (a7_1, .inl (cyZ, 200, .inl g7_1))] H := by rw [hH]; exact hP
  have hS : va_S A s.heap H [] := by rw [hH]; exact va_S.rf
  clear hH
  obtain ⟨locs, hlo⟩ : ∃ z : List Loc, z = [] := ⟨_, rfl⟩
  refine x_herl hlo ?_
  have hS : va_S A s.heap H locs := by rw [hlo]; exact hS
  clear hlo
  unfold f_X8_stands at hf
  refine lv_aload_n hx hb dX8_stands_0 rfl (lv_at hl 0 rfl) ?_
  refine va_get (D := (dC, dI)) (ci := 8) (v := .ref o7) (C := RX8) (T := TX8) (N := 6) hx hb hts i_X8_stands_X8 hown hK hP 0 rfl rfl 0 (by decide) k_1 (fun _ h9 => h9) rfl dX8_stands_1 ?_
  refine lv_iload_n hx hb dX8_stands_4 rfl (lv_at hl 1 rfl) ?_
  obtain ⟨r_1, h_1, hf⟩ := x_bi hf
  have hPc := hP.sub (ws' := [(o7, .inr (7, [.ref a7_0, .ref a7_1, .int v7_2]))]) [1] rfl
  refine va_calli (va_runV (As := [.int p1]) (rest := []) ⟨hx, hb, hml, hown, hts⟩ (c_X7_isType l dC dI cyI cyZ cyJ H.size o7 a7_0 a7_1 v7_2 p1 r_1 h_1) (cwV 1 hts gX8_stands_X7_isType rfl rfl rfl (by decide +kernel) ⟨Nat.le_of_ble_eq_true rfl, Nat.le_of_ble_eq_true rfl⟩) (x_pV hN hK hPc (ci := 7) (q0 := 0) rfl rfl) rfl rfl hl.1 rfl (lv_room (Nat.le_of_ble_eq_true rfl)) dX8_stands_5 ⟨Nat.le_of_ble_eq_true rfl, Nat.le_of_ble_eq_true rfl⟩) hS x_nA (x_nf hA hS) (fun q_1 u t H1 locs ht hvm hw hB hz1 hk1 hS => ?_)
  have hP := x_kp hP hk1
  clear ht hvm hB hz1 hk1 t u hPc
  generalize H1 = H at hP hS ⊢
  obtain ⟨hw, b_1⟩ := hw
  obtain rfl := hw.symm
  refine lv_if_eq (tgt := 22) hx hb dX8_stands_8 (by decide) (fun c_2 => ?_) (fun c_2 => ?_)
  · replace hf := x_ip c_2 hf
    obtain rfl := Option.some.inj hf
    obtain ⟨sa, hsa⟩ := hG.2.2.1 (113, "no TYPE") (by decide)
    have hP9 := hP.sub (ws' := [(o8, .inr (8, [.ref o7, .ref o4, .ref o0, .ref o1, .ref o3, .ref o2])), (o7, .inr (7, [.ref a7_0, .ref a7_1, .int v7_2])), (a7_0, .inl (cyI, 200, .inl g7_0)), (a7_1, .inl (cyZ, 200, .inl g7_1))]) [0, 1, 2, 3] rfl
    have hD9 := hD.sub (ws' := [(o8, .inr (8, [.ref o7, .ref o4, .ref o0, .ref o1, .ref o3, .ref o2])), (o7, .inr (7, [.ref a7_0, .ref a7_1, .int v7_2])), (a7_0, .inl (cyI, 200, .inl g7_0)), (a7_1, .inl (cyZ, 200, .inl g7_1))]) [0, 1, 2, 3] (by decide) rfl
    refine vx_throwS (cls := "java/lang/IllegalArgumentException") (names := ["java/lang/RuntimeException", "java/lang/Exception"]) hx hb hl9 hown (by decide +kernel) (by decide +kernel) k_2 k_3 hsa (x_at1 hG.2.2.2 hts_1) (by decide +kernel) (hG.1.narrow hAb) (hG.2.1.narrow hAb) hS (hl.1.trans hml.symm) dX8_stands_22 dX8_stands_25 dX8_stands_26 dX8_stands_28 dX8_stands_31 (fun z hz => (hno z hz).elim) (Nat.le_of_ble_eq_true rfl) (Nat.le_of_ble_eq_true rfl) (Nat.le_of_ble_eq_true rfl) (Nat.le_of_ble_eq_true rfl) hlocks (fun t ha h1 h2 => ⟨(), trivial, ⟨⟨rfl, rfl⟩, x_kp hP9 (fun q h _ => h2 q h), va_K.moved ha hK, hD9⟩, x_mv hS h1 h2⟩) hS.2.2 (Nat.le_of_ble_eq_true rfl) (Nat.le_of_ble_eq_true rfl)
  · replace hf := x_in c_2 hf
    refine lv_aload_n hx hb dX8_stands_11 rfl (lv_at hl 0 rfl) ?_
    refine va_get (D := (dC, dI)) (ci := 8) (v := .ref o7) (C := RX8) (T := TX8) (N := 6) hx hb hts i_X8_stands_X8 hown hK hP 0 rfl rfl 0 (by decide) k_1 (fun _ h9 => h9) rfl dX8_stands_12 ?_
    refine lv_iload_n hx hb dX8_stands_15 rfl (lv_at hl 2 rfl) ?_
    obtain ⟨r_3, h_3, hf⟩ := x_bi hf
    have hPc := hP.sub (ws' := [(o7, .inr (7, [.ref a7_0, .ref a7_1, .int v7_2]))]) [1] rfl
    refine va_calli (va_runV (As := [.int p2]) (rest := []) ⟨hx, hb, hml, hown, hts⟩ (c_X7_isType l dC dI cyI cyZ cyJ H.size o7 a7_0 a7_1 v7_2 p2 r_3 h_3) (cwV 1 hts gX8_stands_X7_isType rfl rfl rfl (by decide +kernel) ⟨Nat.le_of_ble_eq_true rfl, Nat.le_of_ble_eq_true rfl⟩) (x_pV hN hK hPc (ci := 7) (q0 := 0) rfl rfl) rfl rfl hl.1 rfl (lv_room (Nat.le_of_ble_eq_true rfl)) dX8_stands_16 ⟨Nat.le_of_ble_eq_true rfl, Nat.le_of_ble_eq_true rfl⟩) hS x_nA (x_nf hA hS) (fun q_3 u t H1 locs ht hvm hw hB hz1 hk1 hS => ?_)
    have hP := x_kp hP hk1
    clear ht hvm hB hz1 hk1 t u hPc
    generalize H1 = H at hP hS ⊢
    obtain ⟨hw, b_3⟩ := hw
    obtain rfl := hw.symm
    refine lv_if_ne (tgt := 32) hx hb dX8_stands_19 (by decide) (fun c_4 => ?_) (fun c_4 => ?_)
    · replace hf := x_in c_4 hf
      refine lv_aload_n hx hb dX8_stands_32 rfl (lv_at hl 0 rfl) ?_
      refine va_get (D := (dC, dI)) (ci := 8) (v := .ref o7) (C := RX8) (T := TX8) (N := 6) hx hb hts i_X8_stands_X8 hown hK hP 0 rfl rfl 0 (by decide) k_1 (fun _ h9 => h9) rfl dX8_stands_33 ?_
      refine lv_iload_n hx hb dX8_stands_36 rfl (lv_at hl 1 rfl) ?_
      refine lv_iload_n hx hb dX8_stands_37 rfl (lv_at hl 2 rfl) ?_
      obtain ⟨r_5, h_5, hf⟩ := x_bi hf
      have hPc := hP.sub (ws' := [(o7, .inr (7, [.ref a7_0, .ref a7_1, .int v7_2])), (a7_0, .inl (cyI, 200, .inl g7_0)), (a7_1, .inl (cyZ, 200, .inl g7_1))]) [1, 2, 3] rfl
      refine va_calli (va_runV (As := [.int p1, .int p2]) (rest := []) ⟨hx, hb, hml, hown, hts⟩ (c_X7_mayStand l dC dI cyI cyZ cyJ H.size o7 a7_0 a7_1 v7_2 g7_0 g7_1 p1 p2 r_5 h_5) (cwV 2 hts gX8_stands_X7_mayStand rfl rfl rfl (by decide +kernel) ⟨Nat.le_of_ble_eq_true rfl, Nat.le_of_ble_eq_true rfl⟩) (x_pV hN hK hPc (ci := 7) (q0 := 0) rfl rfl) rfl rfl hl.1 rfl (lv_room (Nat.le_of_ble_eq_true rfl)) dX8_stands_38 ⟨Nat.le_of_ble_eq_true rfl, Nat.le_of_ble_eq_true rfl⟩) hS x_nA (x_nf hA hS) (fun q_5 u t H1 locs ht hvm hw hB hz1 hk1 hS => ?_)
      have hP := x_kp hP hk1
      clear ht hvm hB hz1 hk1 t u hPc
      generalize H1 = H at hP hS ⊢
      obtain ⟨hw, b_5⟩ := hw
      obtain rfl := hw.symm
      obtain rfl := Option.some.inj hf
      have hP9 := hP.sub (ws' := [(o8, .inr (8, [.ref o7, .ref o4, .ref o0, .ref o1, .ref o3, .ref o2])), (o7, .inr (7, [.ref a7_0, .ref a7_1, .int v7_2])), (a7_0, .inl (cyI, 200, .inl g7_0)), (a7_1, .inl (cyZ, 200, .inl g7_1))]) [0, 1, 2, 3] rfl
      have hD9 := hD.sub (ws' := [(o8, .inr (8, [.ref o7, .ref o4, .ref o0, .ref o1, .ref o3, .ref o2])), (o7, .inr (7, [.ref a7_0, .ref a7_1, .int v7_2])), (a7_0, .inl (cyI, 200, .inl g7_0)), (a7_1, .inl (cyZ, 200, .inl g7_1))]) [0, 1, 2, 3] (by decide) rfl
      refine vx_ret ?_
      refine W.widen (k := 1) (n := 6) (Nat.le_of_ble_eq_true rfl) (Nat.le_of_ble_eq_true rfl) ?_
      exact W.zret (ty := .boolean) hx hb hr b_5 (fun t ht hW => ⟨⟨_, (), rfl, ⟨rfl, rfl, b_5⟩, by rw [ht]; exact hP9, va_K.moved hW.alike hK, hD9⟩, hS.F ht⟩) hS.2.2 dX8_stands_41
    · replace hf := x_ip c_4 hf
      obtain rfl := Option.some.inj hf
      obtain ⟨sa, hsa⟩ := hG.2.2.1 (113, "no TYPE") (by decide)
      have hP9 := hP.sub (ws' := [(o8, .inr (8, [.ref o7, .ref o4, .ref o0, .ref o1, .ref o3, .ref o2])), (o7, .inr (7, [.ref a7_0, .ref a7_1, .int v7_2])), (a7_0, .inl (cyI, 200, .inl g7_0)), (a7_1, .inl (cyZ, 200, .inl g7_1))]) [0, 1, 2, 3] rfl
      have hD9 := hD.sub (ws' := [(o8, .inr (8, [.ref o7, .ref o4, .ref o0, .ref o1, .ref o3, .ref o2])), (o7, .inr (7, [.ref a7_0, .ref a7_1, .int v7_2])), (a7_0, .inl (cyI, 200, .inl g7_0)), (a7_1, .inl (cyZ, 200, .inl g7_1))]) [0, 1, 2, 3] (by decide) rfl
      refine vx_throwS (cls := "java/lang/IllegalArgumentException") (names := ["java/lang/RuntimeException", "java/lang/Exception"]) hx hb hl9 hown (by decide +kernel) (by decide +kernel) k_2 k_3 hsa (x_at1 hG.2.2.2 hts_1) (by decide +kernel) (hG.1.narrow hAb) (hG.2.1.narrow hAb) hS (hl.1.trans hml.symm) dX8_stands_22 dX8_stands_25 dX8_stands_26 dX8_stands_28 dX8_stands_31 (fun z hz => (hno z hz).elim) (Nat.le_of_ble_eq_true rfl) (Nat.le_of_ble_eq_true rfl) (Nat.le_of_ble_eq_true rfl) (Nat.le_of_ble_eq_true rfl) hlocks (fun t ha h1 h2 => ⟨(), trivial, ⟨⟨rfl, rfl⟩, x_kp hP9 (fun q h _ => h2 q h), va_K.moved ha hK, hD9⟩, x_mv hS h1 h2⟩) hS.2.2 (Nat.le_of_ble_eq_true rfl) (Nat.le_of_ble_eq_true rfl)

theorem i_X8_common_X8 : ∀ w ∈ wsX80, w ∈ wsX8_common := by decide +kernel
theorem u_X8_common_1 : ∀ w ∈ (vx_atS RX8 67 "java/lang/IllegalArgumentException" ["java/lang/RuntimeException", "java/lang/Exception"]).filter goodWord, w ∈ wsX8_common := by decide +kernel
set_option maxHeartbeats 4000000 in
set_option maxRecDepth 100000 in
theorem c_X8_common (l : Launch) (hl9 : l.stackTraces = false) (dC : Nat → ClassId) (dI : Nat → Nat → Nat) (cyI cyZ cyJ : ClassId) (sz : Nat) (base : Nat) (o8 : Nat) (o7 : Nat) (o4 : Nat) (o0 : Nat) (o1 : Nat) (o3 : Nat) (o2 : Nat) (a7_0 : Nat) (a7_1 : Nat) (v7_2 : Int32) (g7_0 : Nat → Int32) (p1 : Int32) (p2 : Int32) (R : Int32 × Int32) (hf : f_X8_common v7_2 g7_0 p1 p2 = some R) : vx_Met l yX8_common wsX8_common ({ frames := 6, cells := 1, slots := 6, locals := 90 }) (va_Pc [.ref o8, .int p1, .int p2] (x_PreX (dC, dI) (x_T cyI cyZ cyJ) [(o8, .inr (8, [.ref o7, .ref o4, .ref o0, .ref o1, .ref o3, .ref o2])), (o7, .inr (7, [.ref a7_0, .ref a7_1, .int v7_2])), (a7_0, .inl (cyI, 200, .inl g7_0))] base sz)) (va_Qi (fun (r : Int32) (_ : Unit) => R.1 = 0 ∧ r = R.2) (fun (_ : Unit) (t : State) => va_P (dC, dI) vwCl [(o8, .inr (8, [.ref o7, .ref o4, .ref o0, .ref o1, .ref o3, .ref o2])), (o7, .inr (7, [.ref a7_0, .ref a7_1, .int v7_2])), (a7_0, .inl (cyI, 200, .inl g7_0))] t.heap ∧ va_K (dC, dI) vwCl (x_T cyI cyZ cyJ) t ∧ va_D (va_A [(o8, .inr (8, [.ref o7, .ref o4, .ref o0, .ref o1, .ref o3, .ref o2])), (o7, .inr (7, [.ref a7_0, .ref a7_1, .int v7_2])), (a7_0, .inl (cyI, 200, .inl g7_0))] sz) [(o8, .inr (8, [.ref o7, .ref o4, .ref o0, .ref o1, .ref o3, .ref o2])), (o7, .inr (7, [.ref a7_0, .ref a7_1, .int v7_2])), (a7_0, .inl (cyI, 200, .inl g7_0))]) (va_A [(o8, .inr (8, [.ref o7, .ref o4, .ref o0, .ref o1, .ref o3, .ref o2])), (o7, .inr (7, [.ref a7_0, .ref a7_1, .int v7_2])), (a7_0, .inl (cyI, 200, .inl g7_0))] sz)) (vx_X (fun _ : Unit => True) (fun (E : String) (_ : Unit) (t : State) => (R.1 = 1 ∧ E = "java/lang/IllegalArgumentException") ∧ (va_P (dC, dI) vwCl [(o8, .inr (8, [.ref o7, .ref o4, .ref o0, .ref o1, .ref o3, .ref o2])), (o7, .inr (7, [.ref a7_0, .ref a7_1, .int v7_2])), (a7_0, .inl (cyI, 200, .inl g7_0))] t.heap ∧ va_K (dC, dI) vwCl (x_T cyI cyZ cyJ) t ∧ va_D (va_A [(o8, .inr (8, [.ref o7, .ref o4, .ref o0, .ref o1, .ref o3, .ref o2])), (o7, .inr (7, [.ref a7_0, .ref a7_1, .int v7_2])), (a7_0, .inl (cyI, 200, .inl g7_0))] sz) [(o8, .inr (8, [.ref o7, .ref o4, .ref o0, .ref o1, .ref o3, .ref o2])), (o7, .inr (7, [.ref a7_0, .ref a7_1, .int v7_2])), (a7_0, .inl (cyI, 200, .inl g7_0))])) (va_A [(o8, .inr (8, [.ref o7, .ref o4, .ref o0, .ref o1, .ref o3, .ref o2])), (o7, .inr (7, [.ref a7_0, .ref a7_1, .int v7_2])), (a7_0, .inl (cyI, 200, .inl g7_0))] sz)) 1 6 (va_A [(o8, .inr (8, [.ref o7, .ref o4, .ref o0, .ref o1, .ref o3, .ref o2])), (o7, .inr (7, [.ref a7_0, .ref a7_1, .int v7_2])), (a7_0, .inl (cyI, 200, .inl g7_0))] sz) := by
  refine vx_ofW (cc := cX8_common) (maxL := 3) (ret := (some .int)) (by decide) rfl ?_
  intro p e s m args below meth c s₁ B hml hno hv
  obtain ⟨rfl, ⟨⟨hsz, hP, hK, hN⟩, hD0⟩, hDb, hbz, hG⟩ := hv
  have hx := B.exec
  have hb := B.bytes
  have hr := B.returns
  have hts := atoms_spec (ws := wsX8_common) B.pre
  have hown : s.vm.findClass RX8 = some m.cls := findClass_of_methodNamed B.named
  have hlocks := B.notSynchronized
  have hts_1 := fun w (h : w ∈ (vx_atS RX8 67 "java/lang/IllegalArgumentException" ["java/lang/RuntimeException", "java/lang/Exception"]).filter goodWord) => hts w (u_X8_common_1 w h)
  have k_1 := hts (.fieldLink RX8 10 "FlowJudge" "types" "LFlowJudge$Types;") (by decide +kernel)
  have k_2 := hts (.classLink RX8 63 "java/lang/IllegalArgumentException") (by decide +kernel)
  have k_3 := hts (.initialized "java/lang/IllegalArgumentException") (by decide +kernel)
  subst hsz
  have hAb : ∀ q, va_A [(o8, .inr (8, [.ref o7, .ref o4, .ref o0, .ref o1, .ref o3, .ref o2])), (o7, .inr (7, [.ref a7_0, .ref a7_1, .int v7_2])), (a7_0, .inl (cyI, 200, .inl g7_0))] s.heap.size q → x_new base q := x_Ab hDb hbz
  have hD := hD0.self (sz := s.heap.size)
  generalize hAe : va_A [(o8, .inr (8, [.ref o7, .ref o4, .ref o0, .ref o1, .ref o3, .ref o2])), (o7, .inr (7, [.ref a7_0, .ref a7_1, .int v7_2])), (a7_0, .inl (cyI, 200, .inl g7_0))] s.heap.size = A at hD hAb ⊢
  have hA : ∀ q : Nat, s.heap.size ≤ q → A q := fun q h => by rw [← hAe]; exact Or.inr h
  have hP : va_P (dC, dI) vwCl [(o8, .inr (8, [.ref o7, .ref o4, .ref o0, .ref o1, .ref o3, .ref o2])), (o7, .inr (7, [.ref a7_0, .ref a7_1, .int v7_2])), (a7_0, .inl (cyI, 200, .inl g7_0))] s.heap := hP
  have hl := lv_entry ([.ref o8, .int p1, .int p2]) (n := 3) (Nat.le_of_ble_eq_true rfl)
  rw [lg_entry_eq]
  generalize (lg_sl ([.ref o8, .int p1, .int p2]) ++ List.replicate (3 - (lg_sl ([.ref o8, .int p1, .int p2])).length) Slot.unset).toArray = ls at hl ⊢
  have hl : lv_has ls 3 [(0, .ref o8), (1, .int p1), (2, .int p2)] := hl
  obtain ⟨H, hH⟩ : ∃ z, z = s.heap := ⟨_, rfl⟩
  refine x_here hH ?_
  have hP : va_P (dC, dI) vwCl [(o8, .inr (8, [.ref o7, .ref o4, .ref o0, .ref o1, .ref o3, .ref o2])), (o7, .inr (7, [.ref a7_0, .ref a7_1, .int v7_2])), (a7_0, .inl (cyI, 200, .inl g7_0))] H := by rw [hH]; exact hP
  have hS : va_S A s.heap H [] := by rw [hH]; exact va_S.rf
  clear hH
  obtain ⟨locs, hlo⟩ : ∃ z : List Loc, z = [] := ⟨_, rfl⟩
  refine x_herl hlo ?_
  have hS : va_S A s.heap H locs := by rw [hlo]; exact hS
  clear hlo
  unfold f_X8_common at hf
  refine lv_aload_n hx hb dX8_common_0 rfl (lv_at hl 0 rfl) ?_
  refine va_get (D := (dC, dI)) (ci := 8) (v := .ref o7) (C := RX8) (T := TX8) (N := 6) hx hb hts i_X8_common_X8 hown hK hP 0 rfl rfl 0 (by decide) k_1 (fun _ h9 => h9) rfl dX8_common_1 ?_
  refine lv_iload_n hx hb dX8_common_4 rfl (lv_at hl 1 rfl) ?_
  obtain ⟨r_1, h_1, hf⟩ := x_bi hf
  have hPc := hP.sub (ws' := [(o7, .inr (7, [.ref a7_0, .ref a7_1, .int v7_2]))]) [1] rfl
  refine va_calli (va_runV (As := [.int p1]) (rest := []) ⟨hx, hb, hml, hown, hts⟩ (c_X7_isReference l dC dI cyI cyZ cyJ H.size o7 a7_0 a7_1 v7_2 p1 r_1 h_1) (cwV 1 hts gX8_common_X7_isReference rfl rfl rfl (by decide +kernel) ⟨Nat.le_of_ble_eq_true rfl, Nat.le_of_ble_eq_true rfl⟩) (x_pV hN hK hPc (ci := 7) (q0 := 0) rfl rfl) rfl rfl hl.1 rfl (lv_room (Nat.le_of_ble_eq_true rfl)) dX8_common_5 ⟨Nat.le_of_ble_eq_true rfl, Nat.le_of_ble_eq_true rfl⟩) hS x_nA (x_nf hA hS) (fun q_1 u t H1 locs ht hvm hw hB hz1 hk1 hS => ?_)
  have hP := x_kp hP hk1
  clear ht hvm hB hz1 hk1 t u hPc
  generalize H1 = H at hP hS ⊢
  obtain ⟨hw, b_1⟩ := hw
  obtain rfl := hw.symm
  refine lv_if_eq (tgt := 22) hx hb dX8_common_8 (by decide) (fun c_2 => ?_) (fun c_2 => ?_)
  · replace hf := x_ip c_2 hf
    obtain rfl := Option.some.inj hf
    obtain ⟨sa, hsa⟩ := hG.2.2.1 (233, "no TYPE, or a primitive one") (by decide)
    have hP9 := hP.sub (ws' := [(o8, .inr (8, [.ref o7, .ref o4, .ref o0, .ref o1, .ref o3, .ref o2])), (o7, .inr (7, [.ref a7_0, .ref a7_1, .int v7_2])), (a7_0, .inl (cyI, 200, .inl g7_0))]) [0, 1, 2] rfl
    have hD9 := hD.sub (ws' := [(o8, .inr (8, [.ref o7, .ref o4, .ref o0, .ref o1, .ref o3, .ref o2])), (o7, .inr (7, [.ref a7_0, .ref a7_1, .int v7_2])), (a7_0, .inl (cyI, 200, .inl g7_0))]) [0, 1, 2] (by decide) rfl
    refine vx_throwS (cls := "java/lang/IllegalArgumentException") (names := ["java/lang/RuntimeException", "java/lang/Exception"]) hx hb hl9 hown (by decide +kernel) (by decide +kernel) k_2 k_3 hsa (x_at1 hG.2.2.2 hts_1) (by decide +kernel) (hG.1.narrow hAb) (hG.2.1.narrow hAb) hS (hl.1.trans hml.symm) dX8_common_22 dX8_common_25 dX8_common_26 dX8_common_28 dX8_common_31 (fun z hz => (hno z hz).elim) (Nat.le_of_ble_eq_true rfl) (Nat.le_of_ble_eq_true rfl) (Nat.le_of_ble_eq_true rfl) (Nat.le_of_ble_eq_true rfl) hlocks (fun t ha h1 h2 => ⟨(), trivial, ⟨⟨rfl, rfl⟩, x_kp hP9 (fun q h _ => h2 q h), va_K.moved ha hK, hD9⟩, x_mv hS h1 h2⟩) hS.2.2 (Nat.le_of_ble_eq_true rfl) (Nat.le_of_ble_eq_true rfl)
  · replace hf := x_in c_2 hf
    refine lv_aload_n hx hb dX8_common_11 rfl (lv_at hl 0 rfl) ?_
    refine va_get (D := (dC, dI)) (ci := 8) (v := .ref o7) (C := RX8) (T := TX8) (N := 6) hx hb hts i_X8_common_X8 hown hK hP 0 rfl rfl 0 (by decide) k_1 (fun _ h9 => h9) rfl dX8_common_12 ?_
    refine lv_iload_n hx hb dX8_common_15 rfl (lv_at hl 2 rfl) ?_
    obtain ⟨r_3, h_3, hf⟩ := x_bi hf
    have hPc := hP.sub (ws' := [(o7, .inr (7, [.ref a7_0, .ref a7_1, .int v7_2]))]) [1] rfl
    refine va_calli (va_runV (As := [.int p2]) (rest := []) ⟨hx, hb, hml, hown, hts⟩ (c_X7_isReference l dC dI cyI cyZ cyJ H.size o7 a7_0 a7_1 v7_2 p2 r_3 h_3) (cwV 1 hts gX8_common_X7_isReference rfl rfl rfl (by decide +kernel) ⟨Nat.le_of_ble_eq_true rfl, Nat.le_of_ble_eq_true rfl⟩) (x_pV hN hK hPc (ci := 7) (q0 := 0) rfl rfl) rfl rfl hl.1 rfl (lv_room (Nat.le_of_ble_eq_true rfl)) dX8_common_16 ⟨Nat.le_of_ble_eq_true rfl, Nat.le_of_ble_eq_true rfl⟩) hS x_nA (x_nf hA hS) (fun q_3 u t H1 locs ht hvm hw hB hz1 hk1 hS => ?_)
    have hP := x_kp hP hk1
    clear ht hvm hB hz1 hk1 t u hPc
    generalize H1 = H at hP hS ⊢
    obtain ⟨hw, b_3⟩ := hw
    obtain rfl := hw.symm
    refine lv_if_ne (tgt := 32) hx hb dX8_common_19 (by decide) (fun c_4 => ?_) (fun c_4 => ?_)
    · replace hf := x_in c_4 hf
      refine lv_aload_n hx hb dX8_common_32 rfl (lv_at hl 0 rfl) ?_
      refine va_get (D := (dC, dI)) (ci := 8) (v := .ref o7) (C := RX8) (T := TX8) (N := 6) hx hb hts i_X8_common_X8 hown hK hP 0 rfl rfl 0 (by decide) k_1 (fun _ h9 => h9) rfl dX8_common_33 ?_
      refine lv_iload_n hx hb dX8_common_36 rfl (lv_at hl 1 rfl) ?_
      refine lv_iload_n hx hb dX8_common_37 rfl (lv_at hl 2 rfl) ?_
      obtain ⟨r_5, h_5, hf⟩ := x_bi hf
      have hPc := hP.sub (ws' := [(o7, .inr (7, [.ref a7_0, .ref a7_1, .int v7_2])), (a7_0, .inl (cyI, 200, .inl g7_0))]) [1, 2] rfl
      refine va_calli (va_runV (As := [.int p1, .int p2]) (rest := []) ⟨hx, hb, hml, hown, hts⟩ (c_X7_sharedOf l dC dI cyI cyZ cyJ H.size o7 a7_0 a7_1 v7_2 g7_0 p1 p2 r_5 h_5) (cwV 2 hts gX8_common_X7_sharedOf rfl rfl rfl (by decide +kernel) ⟨Nat.le_of_ble_eq_true rfl, Nat.le_of_ble_eq_true rfl⟩) (x_pV hN hK hPc (ci := 7) (q0 := 0) rfl rfl) rfl rfl hl.1 rfl (lv_room (Nat.le_of_ble_eq_true rfl)) dX8_common_38 ⟨Nat.le_of_ble_eq_true rfl, Nat.le_of_ble_eq_true rfl⟩) hS x_nA (x_nf hA hS) (fun q_5 u t H1 locs ht hvm hw hB hz1 hk1 hS => ?_)
      have hP := x_kp hP hk1
      clear ht hvm hB hz1 hk1 t u hPc
      generalize H1 = H at hP hS ⊢
      obtain rfl := hw.symm
      obtain rfl := Option.some.inj hf
      have hP9 := hP.sub (ws' := [(o8, .inr (8, [.ref o7, .ref o4, .ref o0, .ref o1, .ref o3, .ref o2])), (o7, .inr (7, [.ref a7_0, .ref a7_1, .int v7_2])), (a7_0, .inl (cyI, 200, .inl g7_0))]) [0, 1, 2] rfl
      have hD9 := hD.sub (ws' := [(o8, .inr (8, [.ref o7, .ref o4, .ref o0, .ref o1, .ref o3, .ref o2])), (o7, .inr (7, [.ref a7_0, .ref a7_1, .int v7_2])), (a7_0, .inl (cyI, 200, .inl g7_0))]) [0, 1, 2] (by decide) rfl
      refine vx_ret ?_
      refine W.widen (k := 1) (n := 6) (Nat.le_of_ble_eq_true rfl) (Nat.le_of_ble_eq_true rfl) ?_
      exact W.iret hx hb hr (fun t ht hW => ⟨⟨_, (), rfl, ⟨rfl, rfl⟩, by rw [ht]; exact hP9, va_K.moved hW.alike hK, hD9⟩, hS.F ht⟩) hS.2.2 dX8_common_41
    · replace hf := x_ip c_4 hf
      obtain rfl := Option.some.inj hf
      obtain ⟨sa, hsa⟩ := hG.2.2.1 (233, "no TYPE, or a primitive one") (by decide)
      have hP9 := hP.sub (ws' := [(o8, .inr (8, [.ref o7, .ref o4, .ref o0, .ref o1, .ref o3, .ref o2])), (o7, .inr (7, [.ref a7_0, .ref a7_1, .int v7_2])), (a7_0, .inl (cyI, 200, .inl g7_0))]) [0, 1, 2] rfl
      have hD9 := hD.sub (ws' := [(o8, .inr (8, [.ref o7, .ref o4, .ref o0, .ref o1, .ref o3, .ref o2])), (o7, .inr (7, [.ref a7_0, .ref a7_1, .int v7_2])), (a7_0, .inl (cyI, 200, .inl g7_0))]) [0, 1, 2] (by decide) rfl
      refine vx_throwS (cls := "java/lang/IllegalArgumentException") (names := ["java/lang/RuntimeException", "java/lang/Exception"]) hx hb hl9 hown (by decide +kernel) (by decide +kernel) k_2 k_3 hsa (x_at1 hG.2.2.2 hts_1) (by decide +kernel) (hG.1.narrow hAb) (hG.2.1.narrow hAb) hS (hl.1.trans hml.symm) dX8_common_22 dX8_common_25 dX8_common_26 dX8_common_28 dX8_common_31 (fun z hz => (hno z hz).elim) (Nat.le_of_ble_eq_true rfl) (Nat.le_of_ble_eq_true rfl) (Nat.le_of_ble_eq_true rfl) (Nat.le_of_ble_eq_true rfl) hlocks (fun t ha h1 h2 => ⟨(), trivial, ⟨⟨rfl, rfl⟩, x_kp hP9 (fun q h _ => h2 q h), va_K.moved ha hK, hD9⟩, x_mv hS h1 h2⟩) hS.2.2 (Nat.le_of_ble_eq_true rfl) (Nat.le_of_ble_eq_true rfl)

