theorem i_X2_init_X2 : ∀ w ∈ wsX20, w ∈ wsX2_init := by decide +kernel
theorem i_X2_init_X5 : ∀ w ∈ wsX50, w ∈ wsX2_init := by decide +kernel
theorem i_X2_init_X6 : ∀ w ∈ wsX60, w ∈ wsX2_init := by decide +kernel
set_option maxHeartbeats 4000000 in
set_option maxRecDepth 100000 in
theorem c_X2_init (l : Launch) (dC : Nat → ClassId) (dI : Nat → Nat → Nat) (cyI cyZ cyJ : ClassId) (sz : Nat) (h0 : Nat) (b0 : Nat) (b1 : Nat) (b2 : Nat) (b3 : Nat) (b4 : Nat) : Met l yX2_init wsX2_init ({ frames := 2, cells := 3, slots := 414, locals := 36 }) (va_Pc [.ref h0, .ref b0, .ref b1, .ref b2, .ref b3, .ref b4] (x_PreD (dC, dI) (x_T cyI cyZ cyJ) [(h0, .inr (2, [.null, .null, .null, .null, .null, .null]))] sz)) (va_Qv (fun _ : Unit => True) (fun (_ : Unit) (t : State) => va_P (dC, dI) vwCl [] t.heap ∧ va_K (dC, dI) vwCl (x_T cyI cyZ cyJ) t ∧ va_D (va_A [(h0, .inr (2, [.null, .null, .null, .null, .null, .null]))] sz) []) (va_A [(h0, .inr (2, [.null, .null, .null, .null, .null, .null]))] sz)) 3 414 (va_A [(h0, .inr (2, [.null, .null, .null, .null, .null, .null]))] sz) := by
  refine Met.ofW (cc := cX2_init) (maxL := 6) (ret := none) (by decide) rfl ?_
  intro p e s m args below meth c s₁ B hml hv
  obtain ⟨rfl, ⟨hsz, hP, hK, hN⟩, hD0⟩ := hv
  have hx := B.exec
  have hb := B.bytes
  have hr := B.returns
  have hts := atoms_spec (ws := wsX2_init) B.pre
  have hown : s.vm.findClass RX2 = some m.cls := findClass_of_methodNamed B.named
  have hlocks := B.notSynchronized
  have hin : meth.name = "<init>" := (name_of_methodNamed B.named B.method).1
  have k_1 := hts (.methodLink RX2 3 objectInit) (by decide +kernel)
  have k_2 := hts (.instanceMethod objectInit) (by decide +kernel)
  have k_3 := hts (.code objectInit ⟨#[0xb1]⟩ 1 none) (by decide +kernel)
  have k_4 := hts (.fieldLink RX2 9 "FlowJudge$Flow" "types" "LFlowJudge$Types;") (by decide +kernel)
  have k_5 := hts (.fieldLink RX2 15 "FlowJudge$Flow" "code" "LFlowJudge$Code;") (by decide +kernel)
  have k_6 := hts (.fieldLink RX2 19 "FlowJudge$Flow" "contexts" "LFlowJudge$Contexts;") (by decide +kernel)
  have k_7 := hts (.fieldLink RX2 23 "FlowJudge$Flow" "frames" "LFlowJudge$Frames;") (by decide +kernel)
  have k_8 := hts (.classLink RX2 27 RX5) (by decide +kernel)
  have k_9 := hts (.instantiable RX5 10) (by decide +kernel)
  have k_10 := hts (.initialized RX5) (by decide +kernel)
  have k_11 := hts (.methodLink RX2 29 yX5_init) (by decide +kernel)
  have k_12 := hts (.instanceMethod yX5_init) (by decide +kernel)
  have k_13 := hts (.fieldLink RX2 32 "FlowJudge$Flow" "places" "LFlowJudge$Places;") (by decide +kernel)
  have k_14 := hts (.classLink RX2 36 RX6) (by decide +kernel)
  have k_15 := hts (.instantiable RX6 4) (by decide +kernel)
  have k_16 := hts (.initialized RX6) (by decide +kernel)
  have k_17 := hts (.methodLink RX2 38 yX6_init) (by decide +kernel)
  have k_18 := hts (.instanceMethod yX6_init) (by decide +kernel)
  have k_19 := hts (.fieldLink RX2 41 "FlowJudge$Flow" "steps" "LFlowJudge$Steps;") (by decide +kernel)
  subst hsz
  have hD := hD0.self (sz := s.heap.size)
  generalize hAe : va_A [(h0, .inr (2, [.null, .null, .null, .null, .null, .null]))] s.heap.size = A at hD ⊢
  have hA : ∀ q : Nat, s.heap.size ≤ q → A q := fun q h => by rw [← hAe]; exact Or.inr h
  have hS : va_S A s.heap s.heap [] := va_S.rf
  have hP : va_P (dC, dI) vwCl [(h0, .inr (2, [.null, .null, .null, .null, .null, .null]))] s.heap := hP
  have hl := lv_entry ([.ref h0, .ref b0, .ref b1, .ref b2, .ref b3, .ref b4]) (n := 6) (Nat.le_of_ble_eq_true rfl)
  rw [lg_entry_eq]
  generalize (lg_sl ([.ref h0, .ref b0, .ref b1, .ref b2, .ref b3, .ref b4]) ++ List.replicate (6 - (lg_sl ([.ref h0, .ref b0, .ref b1, .ref b2, .ref b3, .ref b4])).length) Slot.unset).toArray = ls at hl ⊢
  have hl : lv_has ls 6 [(0, .ref h0), (1, .ref b0), (2, .ref b1), (3, .ref b2), (4, .ref b3), (5, .ref b4)] := hl
  obtain ⟨H, hH⟩ : ∃ z, z = s.heap := ⟨_, rfl⟩
  refine x_here hH ?_
  have hP : va_P (dC, dI) vwCl [(h0, .inr (2, [.null, .null, .null, .null, .null, .null]))] H := by rw [hH]; exact hP
  have hS : va_S A s.heap H [] := by rw [hH]; exact va_S.rf
  clear hH
  refine lv_aload_n hx hb dX2_init_0 rfl (lv_at hl 0 rfl) ?_
  refine W.objInit hx hb hown k_1 k_2 k_3 rfl (by rw [hml]; exact hl.1) rfl dX2_init_1 (Nat.le_of_ble_eq_true rfl) (Nat.le_of_ble_eq_true rfl) ?_
  refine W.eq (g2 := F0 m 4 ls []) rfl ?_
  refine lv_aload_n hx hb dX2_init_4 rfl (lv_at hl 0 rfl) ?_
  refine lv_aload_n hx hb dX2_init_5 rfl (lv_at hl 1 rfl) ?_
  refine va_putF (D := (dC, dI)) (ci := 2) (v := .ref b0) (ty := .object "FlowJudge$Types") (C := RX2) (T := TX2) (N := 6) hx hb hts i_X2_init_X2 tyX2 tyX2_ok nmX2 hown hK hP hD hS 0 rfl rfl 0 (by decide) k_4 (fun _ h9 => h9) rfl hin rfl (by decide +kernel) rfl rfl (Nat.le_of_ble_eq_true rfl) dX2_init_6 (fun H locs hP hD hS => ?_)
  have hP : va_P (dC, dI) vwCl [(h0, .inr (2, [.ref b0, .null, .null, .null, .null, .null]))] H := hP
  have hD : va_D A [(h0, .inr (2, [.ref b0, .null, .null, .null, .null, .null]))] := hD
  refine lv_aload_n hx hb dX2_init_9 rfl (lv_at hl 0 rfl) ?_
  refine lv_aload_n hx hb dX2_init_10 rfl (lv_at hl 3 rfl) ?_
  refine va_putF (D := (dC, dI)) (ci := 2) (v := .ref b2) (ty := .object "FlowJudge$Code") (C := RX2) (T := TX2) (N := 6) hx hb hts i_X2_init_X2 tyX2 tyX2_ok nmX2 hown hK hP hD hS 0 rfl rfl 1 (by decide) k_5 (fun _ h9 => h9) rfl hin rfl (by decide +kernel) rfl rfl (Nat.le_of_ble_eq_true rfl) dX2_init_11 (fun H locs hP hD hS => ?_)
  have hP : va_P (dC, dI) vwCl [(h0, .inr (2, [.ref b0, .ref b2, .null, .null, .null, .null]))] H := hP
  have hD : va_D A [(h0, .inr (2, [.ref b0, .ref b2, .null, .null, .null, .null]))] := hD
  refine lv_aload_n hx hb dX2_init_14 rfl (lv_at hl 0 rfl) ?_
  refine lv_aload hx hb dX2_init_15 (lv_at hl 4 rfl) ?_
  refine va_putF (D := (dC, dI)) (ci := 2) (v := .ref b3) (ty := .object "FlowJudge$Contexts") (C := RX2) (T := TX2) (N := 6) hx hb hts i_X2_init_X2 tyX2 tyX2_ok nmX2 hown hK hP hD hS 0 rfl rfl 2 (by decide) k_6 (fun _ h9 => h9) rfl hin rfl (by decide +kernel) rfl rfl (Nat.le_of_ble_eq_true rfl) dX2_init_17 (fun H locs hP hD hS => ?_)
  have hP : va_P (dC, dI) vwCl [(h0, .inr (2, [.ref b0, .ref b2, .ref b3, .null, .null, .null]))] H := hP
  have hD : va_D A [(h0, .inr (2, [.ref b0, .ref b2, .ref b3, .null, .null, .null]))] := hD
  refine lv_aload_n hx hb dX2_init_20 rfl (lv_at hl 0 rfl) ?_
  refine lv_aload hx hb dX2_init_21 (lv_at hl 5 rfl) ?_
  refine va_putF (D := (dC, dI)) (ci := 2) (v := .ref b4) (ty := .object "FlowJudge$Frames") (C := RX2) (T := TX2) (N := 6) hx hb hts i_X2_init_X2 tyX2 tyX2_ok nmX2 hown hK hP hD hS 0 rfl rfl 3 (by decide) k_7 (fun _ h9 => h9) rfl hin rfl (by decide +kernel) rfl rfl (Nat.le_of_ble_eq_true rfl) dX2_init_23 (fun H locs hP hD hS => ?_)
  have hP : va_P (dC, dI) vwCl [(h0, .inr (2, [.ref b0, .ref b2, .ref b3, .ref b4, .null, .null]))] H := hP
  have hD : va_D A [(h0, .inr (2, [.ref b0, .ref b2, .ref b3, .ref b4, .null, .null]))] := hD
  refine lv_aload_n hx hb dX2_init_26 rfl (lv_at hl 0 rfl) ?_
  refine va_new (ci := 5) (fs := [.null, .null, .int 0, .int 0, .int 0, .int 0, .int 0, .int 0, .int 0, .int 0]) (C := RX5) (T := TX5) (N := 10) hx hb hts i_X2_init_X5 tyX5 tyX5_ok hown k_8 k_9 k_10 hK hP hD hS hA rfl (fun j hj => by match j, hj with | 0, _ => rfl | 1, _ => rfl | 2, _ => rfl | 3, _ => rfl | 4, _ => rfl | 5, _ => rfl | 6, _ => rfl | 7, _ => rfl | 8, _ => rfl | 9, _ => rfl | j + 10, h => omega) (Nat.le_of_ble_eq_true rfl) (Nat.le_of_ble_eq_true rfl) dX2_init_27 (fun q27_1 H hP hD hS => ?_)
  have hP : va_P (dC, dI) vwCl [(h0, .inr (2, [.ref b0, .ref b2, .ref b3, .ref b4, .null, .null])), (q27_1, .inr (5, [.null, .null, .int 0, .int 0, .int 0, .int 0, .int 0, .int 0, .int 0, .int 0]))] H := hP
  have hD : va_D A [(h0, .inr (2, [.ref b0, .ref b2, .ref b3, .ref b4, .null, .null])), (q27_1, .inr (5, [.null, .null, .int 0, .int 0, .int 0, .int 0, .int 0, .int 0, .int 0, .int 0]))] := hD
  refine W.widen (k := 1) (n := 10) (Nat.le_of_ble_eq_true rfl) (Nat.le_of_ble_eq_true rfl) ?_
  refine lv_dup hx hb dX2_init_30 rfl ?_
  refine lv_aload_n hx hb dX2_init_31 rfl (lv_at hl 1 rfl) ?_
  have hPc := hP.sub (ws' := [(q27_1, .inr (5, [.null, .null, .int 0, .int 0, .int 0, .int 0, .int 0, .int 0, .int 0, .int 0]))]) [1] rfl
  have hDc := hD.sub (ws' := [(q27_1, .inr (5, [.null, .null, .int 0, .int 0, .int 0, .int 0, .int 0, .int 0, .int 0, .int 0]))]) [1] (by decide) rfl
  have hFc := va_free (wc := [(q27_1, .inr (5, [.null, .null, .int 0, .int 0, .int 0, .int 0, .int 0, .int 0, .int 0, .int 0]))]) hD hS hA [1] rfl
  refine va_callv (va_runI (As := [.ref b0]) (rest := [.ref q27_1, .ref h0]) ⟨hx, hb, hml, hown, hts⟩ (c_X5_init l dC dI cyI cyZ cyJ H.size q27_1 b0) (cwI 1 hts gX2_init_X5_init rfl rfl rfl k_10 k_11 k_12 rfl (by decide +kernel) ⟨Nat.le_of_ble_eq_true rfl, Nat.le_of_ble_eq_true rfl⟩) (x_pSD hN hK hPc hDc) rfl rfl hl.1 rfl (lv_room (Nat.le_of_ble_eq_true rfl)) dX2_init_32 ⟨Nat.le_of_ble_eq_true rfl, Nat.le_of_ble_eq_true rfl⟩) hS (fun q _ h => hFc q h) hFc (fun u t H1 locs ht hvm hw hB hz1 hk1 hS => ?_)
  obtain ⟨hP1, hK1, hD1⟩ := hB
  rw [ht] at hP1
  obtain ⟨hP, hD⟩ := va_join (wr := [(h0, .inr (2, [.ref b0, .ref b2, .ref b3, .ref b4, .null, .null]))]) (w1 := []) hP hD [1] [0] rfl rfl (by decide) (by decide) hk1 hFc hP1 hD1
  clear hz1 hk1 hPc hDc hFc hP1 hK1 hD1 ht hvm t u
  generalize H1 = H at hP hS ⊢
  have hP : va_P (dC, dI) vwCl [(h0, .inr (2, [.ref b0, .ref b2, .ref b3, .ref b4, .null, .null]))] H := hP
  have hD : va_D A [(h0, .inr (2, [.ref b0, .ref b2, .ref b3, .ref b4, .null, .null]))] := hD
  refine W.widen (k := 2) (n := 410) (Nat.le_of_ble_eq_true rfl) (Nat.le_of_ble_eq_true rfl) ?_
  refine va_putF (D := (dC, dI)) (ci := 2) (v := .ref q27_1) (ty := .object "FlowJudge$Places") (C := RX2) (T := TX2) (N := 6) hx hb hts i_X2_init_X2 tyX2 tyX2_ok nmX2 hown hK hP hD hS 0 rfl rfl 4 (by decide) k_13 (fun _ h9 => h9) rfl hin rfl (by decide +kernel) rfl rfl (Nat.le_of_ble_eq_true rfl) dX2_init_35 (fun H locs hP hD hS => ?_)
  have hP : va_P (dC, dI) vwCl [(h0, .inr (2, [.ref b0, .ref b2, .ref b3, .ref b4, .ref q27_1, .null]))] H := hP
  have hD : va_D A [(h0, .inr (2, [.ref b0, .ref b2, .ref b3, .ref b4, .ref q27_1, .null]))] := hD
  refine lv_aload_n hx hb dX2_init_38 rfl (lv_at hl 0 rfl) ?_
  refine va_new (ci := 6) (fs := [.null, .null, .null, .null]) (C := RX6) (T := TX6) (N := 4) hx hb hts i_X2_init_X6 tyX6 tyX6_ok hown k_14 k_15 k_16 hK hP hD hS hA rfl (fun j hj => by match j, hj with | 0, _ => rfl | 1, _ => rfl | 2, _ => rfl | 3, _ => rfl | j + 4, h => omega) (Nat.le_of_ble_eq_true rfl) (Nat.le_of_ble_eq_true rfl) dX2_init_39 (fun q39_2 H hP hD hS => ?_)
  have hP : va_P (dC, dI) vwCl [(h0, .inr (2, [.ref b0, .ref b2, .ref b3, .ref b4, .ref q27_1, .null])), (q39_2, .inr (6, [.null, .null, .null, .null]))] H := hP
  have hD : va_D A [(h0, .inr (2, [.ref b0, .ref b2, .ref b3, .ref b4, .ref q27_1, .null])), (q39_2, .inr (6, [.null, .null, .null, .null]))] := hD
  refine W.widen (k := 3) (n := 414) (Nat.le_of_ble_eq_true rfl) (Nat.le_of_ble_eq_true rfl) ?_
  refine lv_dup hx hb dX2_init_42 rfl ?_
  refine lv_aload_n hx hb dX2_init_43 rfl (lv_at hl 1 rfl) ?_
  refine lv_aload_n hx hb dX2_init_44 rfl (lv_at hl 2 rfl) ?_
  refine lv_aload_n hx hb dX2_init_45 rfl (lv_at hl 3 rfl) ?_
  refine lv_aload_n hx hb dX2_init_46 rfl (lv_at hl 0 rfl) ?_
  refine va_get (D := (dC, dI)) (ci := 2) (v := .ref q27_1) (C := RX2) (T := TX2) (N := 6) hx hb hts i_X2_init_X2 hown hK hP 0 rfl rfl 4 (by decide) k_13 (fun _ h9 => h9) rfl dX2_init_47 ?_
  have hPc := hP.sub (ws' := [(q39_2, .inr (6, [.null, .null, .null, .null]))]) [1] rfl
  have hDc := hD.sub (ws' := [(q39_2, .inr (6, [.null, .null, .null, .null]))]) [1] (by decide) rfl
  have hFc := va_free (wc := [(q39_2, .inr (6, [.null, .null, .null, .null]))]) hD hS hA [1] rfl
  refine va_callv (va_runI (As := [.ref b0, .ref b1, .ref b2, .ref q27_1]) (rest := [.ref q39_2, .ref h0]) ⟨hx, hb, hml, hown, hts⟩ (c_X6_init l dC dI cyI cyZ cyJ H.size q39_2 b0 b1 b2 q27_1) (cwI 4 hts gX2_init_X6_init rfl rfl rfl k_16 k_17 k_18 rfl (by decide +kernel) ⟨Nat.le_of_ble_eq_true rfl, Nat.le_of_ble_eq_true rfl⟩) (x_pSD hN hK hPc hDc) rfl rfl hl.1 rfl (lv_room (Nat.le_of_ble_eq_true rfl)) dX2_init_50 ⟨Nat.le_of_ble_eq_true rfl, Nat.le_of_ble_eq_true rfl⟩) hS (fun q _ h => hFc q h) hFc (fun u t H1 locs ht hvm hw hB hz1 hk1 hS => ?_)
  obtain ⟨hP1, hK1, hD1⟩ := hB
  rw [ht] at hP1
  obtain ⟨hP, hD⟩ := va_join (wr := [(h0, .inr (2, [.ref b0, .ref b2, .ref b3, .ref b4, .ref q27_1, .null]))]) (w1 := []) hP hD [1] [0] rfl rfl (by decide) (by decide) hk1 hFc hP1 hD1
  clear hz1 hk1 hPc hDc hFc hP1 hK1 hD1 ht hvm t u
  generalize H1 = H at hP hS ⊢
  have hP : va_P (dC, dI) vwCl [(h0, .inr (2, [.ref b0, .ref b2, .ref b3, .ref b4, .ref q27_1, .null]))] H := hP
  have hD : va_D A [(h0, .inr (2, [.ref b0, .ref b2, .ref b3, .ref b4, .ref q27_1, .null]))] := hD
  refine va_putF (D := (dC, dI)) (ci := 2) (v := .ref q39_2) (ty := .object "FlowJudge$Steps") (C := RX2) (T := TX2) (N := 6) hx hb hts i_X2_init_X2 tyX2 tyX2_ok nmX2 hown hK hP hD hS 0 rfl rfl 5 (by decide) k_19 (fun _ h9 => h9) rfl hin rfl (by decide +kernel) rfl rfl (Nat.le_of_ble_eq_true rfl) dX2_init_53 (fun H locs hP hD hS => ?_)
  have hP : va_P (dC, dI) vwCl [(h0, .inr (2, [.ref b0, .ref b2, .ref b3, .ref b4, .ref q27_1, .ref q39_2]))] H := hP
  have hD : va_D A [(h0, .inr (2, [.ref b0, .ref b2, .ref b3, .ref b4, .ref q27_1, .ref q39_2]))] := hD
  have hP9 := hP.sub (ws' := []) [] rfl
  have hD9 := hD.sub (ws' := []) [] (by decide) rfl
  exact W.vret hx hb hr (fun t ht hW => ⟨⟨(), rfl, trivial, by rw [ht]; exact hP9, va_K.moved hW.alike hK, hD9⟩, hS.F ht⟩) hS.2.2 dX2_init_56
