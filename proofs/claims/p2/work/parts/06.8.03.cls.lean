def f_X3_takeAwaited (v3_13 : Int32) (v3_14 : Int32) (g3_12 : Nat → Int32) (n3_12 : Nat) : Option (Int32 × Int32 × Int32 × (Nat → Int32)) := if x_gd v3_13 n3_12 = true then if (g3_12 (Int32.toNatClampNeg v3_13)) = (-1 : Int32) then if x_gd v3_13 n3_12 = true then some (v3_13, g3_12 (Int32.toNatClampNeg v3_13), -1, upd g3_12 (Int32.toNatClampNeg v3_13) (-2)) else none else if x_gd v3_13 n3_12 = true then some (v3_13, g3_12 (Int32.toNatClampNeg v3_13), v3_14, upd g3_12 (Int32.toNatClampNeg v3_13) (-2)) else none else none
theorem i_X3_takeAwaited_X3 : ∀ w ∈ wsX30, w ∈ wsX3_takeAwaited := by decide +kernel
set_option maxHeartbeats 4000000 in
set_option maxRecDepth 100000 in
theorem c_X3_takeAwaited (l : Launch) (dC : Nat → ClassId) (dI : Nat → Nat → Nat) (cyI cyZ cyJ : ClassId) (sz : Nat) (o3 : Nat) (o7 : Nat) (o1 : Nat) (v3_2 : Int32) (v3_3 : Int32) (v3_4 : Int32) (a3_5 : Nat) (a3_6 : Nat) (a3_7 : Nat) (a3_8 : Nat) (a3_9 : Nat) (a3_10 : Nat) (a3_11 : Nat) (a3_12 : Nat) (v3_13 : Int32) (v3_14 : Int32) (a3_15 : Nat) (a3_16 : Nat) (g3_12 : Nat → Int32) (n3_12 : Nat) (R : Int32 × Int32 × Int32 × (Nat → Int32)) (hf : f_X3_takeAwaited v3_13 v3_14 g3_12 n3_12 = some R) : Met l yX3_takeAwaited wsX3_takeAwaited ({ frames := 0, cells := 0, slots := 0, locals := 0 }) (va_Pc [.ref o3] (x_PreD (dC, dI) (x_T cyI cyZ cyJ) [(o3, .inr (3, [.ref o7, .ref o1, .int v3_2, .int v3_3, .int v3_4, .ref a3_5, .ref a3_6, .ref a3_7, .ref a3_8, .ref a3_9, .ref a3_10, .ref a3_11, .ref a3_12, .int v3_13, .int v3_14, .ref a3_15, .ref a3_16])), (a3_12, .inl (cyI, n3_12, .inl g3_12))] sz)) (va_Qi (fun (r : Int32) (_ : Unit) => r = R.1) (fun (_ : Unit) (t : State) => va_P (dC, dI) vwCl [(o3, .inr (3, [.ref o7, .ref o1, .int v3_2, .int v3_3, .int v3_4, .ref a3_5, .ref a3_6, .ref a3_7, .ref a3_8, .ref a3_9, .ref a3_10, .ref a3_11, .ref a3_12, .int (R.2.1), .int (R.2.2.1), .ref a3_15, .ref a3_16])), (a3_12, .inl (cyI, n3_12, .inl R.2.2.2))] t.heap ∧ va_K (dC, dI) vwCl (x_T cyI cyZ cyJ) t ∧ va_D (va_A [(o3, .inr (3, [.ref o7, .ref o1, .int v3_2, .int v3_3, .int v3_4, .ref a3_5, .ref a3_6, .ref a3_7, .ref a3_8, .ref a3_9, .ref a3_10, .ref a3_11, .ref a3_12, .int v3_13, .int v3_14, .ref a3_15, .ref a3_16])), (a3_12, .inl (cyI, n3_12, .inl g3_12))] sz) [(o3, .inr (3, [.ref o7, .ref o1, .int v3_2, .int v3_3, .int v3_4, .ref a3_5, .ref a3_6, .ref a3_7, .ref a3_8, .ref a3_9, .ref a3_10, .ref a3_11, .ref a3_12, .int (R.2.1), .int (R.2.2.1), .ref a3_15, .ref a3_16])), (a3_12, .inl (cyI, n3_12, .inl R.2.2.2))]) (va_A [(o3, .inr (3, [.ref o7, .ref o1, .int v3_2, .int v3_3, .int v3_4, .ref a3_5, .ref a3_6, .ref a3_7, .ref a3_8, .ref a3_9, .ref a3_10, .ref a3_11, .ref a3_12, .int v3_13, .int v3_14, .ref a3_15, .ref a3_16])), (a3_12, .inl (cyI, n3_12, .inl g3_12))] sz)) 0 0 (va_A [(o3, .inr (3, [.ref o7, .ref o1, .int v3_2, .int v3_3, .int v3_4, .ref a3_5, .ref a3_6, .ref a3_7, .ref a3_8, .ref a3_9, .ref a3_10, .ref a3_11, .ref a3_12, .int v3_13, .int v3_14, .ref a3_15, .ref a3_16])), (a3_12, .inl (cyI, n3_12, .inl g3_12))] sz) := by
  refine Met.ofW (cc := cX3_takeAwaited) (maxL := 2) (ret := (some .int)) (by decide) rfl ?_
  intro p e s m args below meth c s₁ B hml hv
  obtain ⟨rfl, ⟨hsz, hP, hK, hN⟩, hD0⟩ := hv
  have hx := B.exec
  have hb := B.bytes
  have hr := B.returns
  have hts := atoms_spec (ws := wsX3_takeAwaited) B.pre
  have hown : s.vm.findClass RX3 = some m.cls := findClass_of_methodNamed B.named
  have k_1 := hts (.fieldLink RX3 36 "FlowJudge$Frames" "firstAwaited" "I") (by decide +kernel)
  have k_2 := hts (.fieldLink RX3 33 "FlowJudge$Frames" "nextAwaited" "[I") (by decide +kernel)
  have k_3 := hts (.fieldLink RX3 40 "FlowJudge$Frames" "lastAwaited" "I") (by decide +kernel)
  subst hsz
  have hD := hD0.self (sz := s.heap.size)
  generalize hAe : va_A [(o3, .inr (3, [.ref o7, .ref o1, .int v3_2, .int v3_3, .int v3_4, .ref a3_5, .ref a3_6, .ref a3_7, .ref a3_8, .ref a3_9, .ref a3_10, .ref a3_11, .ref a3_12, .int v3_13, .int v3_14, .ref a3_15, .ref a3_16])), (a3_12, .inl (cyI, n3_12, .inl g3_12))] s.heap.size = A at hD ⊢
  have hA : ∀ q : Nat, s.heap.size ≤ q → A q := fun q h => by rw [← hAe]; exact Or.inr h
  have hP : va_P (dC, dI) vwCl [(o3, .inr (3, [.ref o7, .ref o1, .int v3_2, .int v3_3, .int v3_4, .ref a3_5, .ref a3_6, .ref a3_7, .ref a3_8, .ref a3_9, .ref a3_10, .ref a3_11, .ref a3_12, .int v3_13, .int v3_14, .ref a3_15, .ref a3_16])), (a3_12, .inl (cyI, n3_12, .inl g3_12))] s.heap := hP
  have hl := lv_entry ([.ref o3]) (n := 2) (Nat.le_of_ble_eq_true rfl)
  rw [lg_entry_eq]
  generalize (lg_sl ([.ref o3]) ++ List.replicate (2 - (lg_sl ([.ref o3])).length) Slot.unset).toArray = ls at hl ⊢
  have hl : lv_has ls 2 [(0, .ref o3)] := hl
  obtain ⟨H, hH⟩ : ∃ z, z = s.heap := ⟨_, rfl⟩
  refine x_here hH ?_
  have hP : va_P (dC, dI) vwCl [(o3, .inr (3, [.ref o7, .ref o1, .int v3_2, .int v3_3, .int v3_4, .ref a3_5, .ref a3_6, .ref a3_7, .ref a3_8, .ref a3_9, .ref a3_10, .ref a3_11, .ref a3_12, .int v3_13, .int v3_14, .ref a3_15, .ref a3_16])), (a3_12, .inl (cyI, n3_12, .inl g3_12))] H := by rw [hH]; exact hP
  have hS : va_S A s.heap H [] := by rw [hH]; exact va_S.rf
  clear hH
  obtain ⟨locs, hlo⟩ : ∃ z : List Loc, z = [] := ⟨_, rfl⟩
  refine x_herl hlo ?_
  have hS : va_S A s.heap H locs := by rw [hlo]; exact hS
  clear hlo
  unfold f_X3_takeAwaited at hf
  refine lv_aload_n hx hb dX3_takeAwaited_0 rfl (lv_at hl 0 rfl) ?_
  refine va_get (D := (dC, dI)) (ci := 3) (v := .int v3_13) (C := RX3) (T := TX3) (N := 17) hx hb hts i_X3_takeAwaited_X3 hown hK hP 0 rfl rfl 13 (by decide) k_1 (fun _ h9 => h9) rfl dX3_takeAwaited_1 ?_
  refine lv_istore_n (lv' := [(1, .int v3_13), (0, .ref o3)]) hx hb dX3_takeAwaited_4 rfl hl (by decide) rfl (fun ls hl => ?_)
  refine lv_aload_n hx hb dX3_takeAwaited_5 rfl (lv_at hl 1 rfl) ?_
  refine lv_aload_n hx hb dX3_takeAwaited_6 rfl (lv_at hl 1 rfl) ?_
  refine va_get (D := (dC, dI)) (ci := 3) (v := .ref a3_12) (C := RX3) (T := TX3) (N := 17) hx hb hts i_X3_takeAwaited_X3 hown hK hP 0 rfl rfl 12 (by decide) k_2 (fun _ h9 => h9) rfl dX3_takeAwaited_7 ?_
  refine lv_iload_n hx hb dX3_takeAwaited_10 rfl (lv_at hl 0 rfl) ?_
  obtain ⟨g_1, hf⟩ := x_gu hf
  refine va_iald hx hb hK hP 1 0 rfl rfl (x_gdin g_1) dX3_takeAwaited_11 ?_
  refine va_put (D := (dC, dI)) (ci := 3) (v := .int (g3_12 (Int32.toNatClampNeg v3_13))) (ty := .int) (C := RX3) (T := TX3) (N := 17) hx hb hts i_X3_takeAwaited_X3 tyX3 tyX3_ok nmX3 hown hK hP hD hS 0 rfl rfl 13 (by decide) k_1 (fun _ h9 => h9) rfl (by decide +kernel) rfl rfl (Nat.le_of_ble_eq_true rfl) dX3_takeAwaited_12 (fun H locs hP hD hS => ?_)
  have hP : va_P (dC, dI) vwCl [(o3, .inr (3, [.ref o7, .ref o1, .int v3_2, .int v3_3, .int v3_4, .ref a3_5, .ref a3_6, .ref a3_7, .ref a3_8, .ref a3_9, .ref a3_10, .ref a3_11, .ref a3_12, .int (g3_12 (Int32.toNatClampNeg v3_13)), .int v3_14, .ref a3_15, .ref a3_16])), (a3_12, .inl (cyI, n3_12, .inl g3_12))] H := hP
  have hD : va_D A [(o3, .inr (3, [.ref o7, .ref o1, .int v3_2, .int v3_3, .int v3_4, .ref a3_5, .ref a3_6, .ref a3_7, .ref a3_8, .ref a3_9, .ref a3_10, .ref a3_11, .ref a3_12, .int (g3_12 (Int32.toNatClampNeg v3_13)), .int v3_14, .ref a3_15, .ref a3_16])), (a3_12, .inl (cyI, n3_12, .inl g3_12))] := hD
  refine lv_aload_n hx hb dX3_takeAwaited_15 rfl (lv_at hl 1 rfl) ?_
  refine va_get (D := (dC, dI)) (ci := 3) (v := .int (g3_12 (Int32.toNatClampNeg v3_13))) (C := RX3) (T := TX3) (N := 17) hx hb hts i_X3_takeAwaited_X3 hown hK hP 0 rfl rfl 13 (by decide) k_1 (fun _ h9 => h9) rfl dX3_takeAwaited_16 ?_
  refine lv_iconst (v := (-1)) hx hb dX3_takeAwaited_19 (by decide) ?_
  refine lv_icmp_ne (tgt := 28) hx hb dX3_takeAwaited_20 (by decide) (fun c_2 => ?_) (fun c_2 => ?_)
  · replace hf := x_in c_2 hf
    refine lv_aload_n hx hb dX3_takeAwaited_28 rfl (lv_at hl 1 rfl) ?_
    refine va_get (D := (dC, dI)) (ci := 3) (v := .ref a3_12) (C := RX3) (T := TX3) (N := 17) hx hb hts i_X3_takeAwaited_X3 hown hK hP 0 rfl rfl 12 (by decide) k_2 (fun _ h9 => h9) rfl dX3_takeAwaited_29 ?_
    refine lv_iload_n hx hb dX3_takeAwaited_32 rfl (lv_at hl 0 rfl) ?_
    refine lv_bipush (v := (-2)) hx hb dX3_takeAwaited_33 (by decide) ?_
    obtain ⟨g_3, hf⟩ := x_gu hf
    refine va_iast hx hb hK hP hD hS 1 0 rfl rfl (x_gdin g_3) dX3_takeAwaited_35 (fun H locs hP hD hS => ?_)
    have hP : va_P (dC, dI) vwCl [(o3, .inr (3, [.ref o7, .ref o1, .int v3_2, .int v3_3, .int v3_4, .ref a3_5, .ref a3_6, .ref a3_7, .ref a3_8, .ref a3_9, .ref a3_10, .ref a3_11, .ref a3_12, .int (g3_12 (Int32.toNatClampNeg v3_13)), .int v3_14, .ref a3_15, .ref a3_16])), (a3_12, .inl (cyI, n3_12, .inl (upd g3_12 (Int32.toNatClampNeg v3_13) (-2))))] H := hP
    have hD : va_D A [(o3, .inr (3, [.ref o7, .ref o1, .int v3_2, .int v3_3, .int v3_4, .ref a3_5, .ref a3_6, .ref a3_7, .ref a3_8, .ref a3_9, .ref a3_10, .ref a3_11, .ref a3_12, .int (g3_12 (Int32.toNatClampNeg v3_13)), .int v3_14, .ref a3_15, .ref a3_16])), (a3_12, .inl (cyI, n3_12, .inl (upd g3_12 (Int32.toNatClampNeg v3_13) (-2))))] := hD
    refine lv_iload_n hx hb dX3_takeAwaited_36 rfl (lv_at hl 0 rfl) ?_
    obtain rfl := Option.some.inj hf
    have hP9 := hP.sub (ws' := [(o3, .inr (3, [.ref o7, .ref o1, .int v3_2, .int v3_3, .int v3_4, .ref a3_5, .ref a3_6, .ref a3_7, .ref a3_8, .ref a3_9, .ref a3_10, .ref a3_11, .ref a3_12, .int (g3_12 (Int32.toNatClampNeg v3_13)), .int v3_14, .ref a3_15, .ref a3_16])), (a3_12, .inl (cyI, n3_12, .inl (upd g3_12 (Int32.toNatClampNeg v3_13) (-2))))]) [0, 1] rfl
    have hD9 := hD.sub (ws' := [(o3, .inr (3, [.ref o7, .ref o1, .int v3_2, .int v3_3, .int v3_4, .ref a3_5, .ref a3_6, .ref a3_7, .ref a3_8, .ref a3_9, .ref a3_10, .ref a3_11, .ref a3_12, .int (g3_12 (Int32.toNatClampNeg v3_13)), .int v3_14, .ref a3_15, .ref a3_16])), (a3_12, .inl (cyI, n3_12, .inl (upd g3_12 (Int32.toNatClampNeg v3_13) (-2))))]) [0, 1] (by decide) rfl
    exact W.iret hx hb hr (fun t ht hW => ⟨⟨_, (), rfl, rfl, by rw [ht]; exact hP9, va_K.moved hW.alike hK, hD9⟩, hS.F ht⟩) hS.2.2 dX3_takeAwaited_37
  · replace hf := x_ip c_2 hf
    refine lv_aload_n hx hb dX3_takeAwaited_23 rfl (lv_at hl 1 rfl) ?_
    refine lv_iconst (v := (-1)) hx hb dX3_takeAwaited_24 (by decide) ?_
    refine va_put (D := (dC, dI)) (ci := 3) (v := .int (-1)) (ty := .int) (C := RX3) (T := TX3) (N := 17) hx hb hts i_X3_takeAwaited_X3 tyX3 tyX3_ok nmX3 hown hK hP hD hS 0 rfl rfl 14 (by decide) k_3 (fun _ h9 => h9) rfl (by decide +kernel) rfl rfl (Nat.le_of_ble_eq_true rfl) dX3_takeAwaited_25 (fun H locs hP hD hS => ?_)
    have hP : va_P (dC, dI) vwCl [(o3, .inr (3, [.ref o7, .ref o1, .int v3_2, .int v3_3, .int v3_4, .ref a3_5, .ref a3_6, .ref a3_7, .ref a3_8, .ref a3_9, .ref a3_10, .ref a3_11, .ref a3_12, .int (g3_12 (Int32.toNatClampNeg v3_13)), .int (-1), .ref a3_15, .ref a3_16])), (a3_12, .inl (cyI, n3_12, .inl g3_12))] H := hP
    have hD : va_D A [(o3, .inr (3, [.ref o7, .ref o1, .int v3_2, .int v3_3, .int v3_4, .ref a3_5, .ref a3_6, .ref a3_7, .ref a3_8, .ref a3_9, .ref a3_10, .ref a3_11, .ref a3_12, .int (g3_12 (Int32.toNatClampNeg v3_13)), .int (-1), .ref a3_15, .ref a3_16])), (a3_12, .inl (cyI, n3_12, .inl g3_12))] := hD
    refine lv_aload_n hx hb dX3_takeAwaited_28 rfl (lv_at hl 1 rfl) ?_
    refine va_get (D := (dC, dI)) (ci := 3) (v := .ref a3_12) (C := RX3) (T := TX3) (N := 17) hx hb hts i_X3_takeAwaited_X3 hown hK hP 0 rfl rfl 12 (by decide) k_2 (fun _ h9 => h9) rfl dX3_takeAwaited_29 ?_
    refine lv_iload_n hx hb dX3_takeAwaited_32 rfl (lv_at hl 0 rfl) ?_
    refine lv_bipush (v := (-2)) hx hb dX3_takeAwaited_33 (by decide) ?_
    obtain ⟨g_4, hf⟩ := x_gu hf
    refine va_iast hx hb hK hP hD hS 1 0 rfl rfl (x_gdin g_4) dX3_takeAwaited_35 (fun H locs hP hD hS => ?_)
    have hP : va_P (dC, dI) vwCl [(o3, .inr (3, [.ref o7, .ref o1, .int v3_2, .int v3_3, .int v3_4, .ref a3_5, .ref a3_6, .ref a3_7, .ref a3_8, .ref a3_9, .ref a3_10, .ref a3_11, .ref a3_12, .int (g3_12 (Int32.toNatClampNeg v3_13)), .int (-1), .ref a3_15, .ref a3_16])), (a3_12, .inl (cyI, n3_12, .inl (upd g3_12 (Int32.toNatClampNeg v3_13) (-2))))] H := hP
    have hD : va_D A [(o3, .inr (3, [.ref o7, .ref o1, .int v3_2, .int v3_3, .int v3_4, .ref a3_5, .ref a3_6, .ref a3_7, .ref a3_8, .ref a3_9, .ref a3_10, .ref a3_11, .ref a3_12, .int (g3_12 (Int32.toNatClampNeg v3_13)), .int (-1), .ref a3_15, .ref a3_16])), (a3_12, .inl (cyI, n3_12, .inl (upd g3_12 (Int32.toNatClampNeg v3_13) (-2))))] := hD
    refine lv_iload_n hx hb dX3_takeAwaited_36 rfl (lv_at hl 0 rfl) ?_
    obtain rfl := Option.some.inj hf
    have hP9 := hP.sub (ws' := [(o3, .inr (3, [.ref o7, .ref o1, .int v3_2, .int v3_3, .int v3_4, .ref a3_5, .ref a3_6, .ref a3_7, .ref a3_8, .ref a3_9, .ref a3_10, .ref a3_11, .ref a3_12, .int (g3_12 (Int32.toNatClampNeg v3_13)), .int (-1), .ref a3_15, .ref a3_16])), (a3_12, .inl (cyI, n3_12, .inl (upd g3_12 (Int32.toNatClampNeg v3_13) (-2))))]) [0, 1] rfl
    have hD9 := hD.sub (ws' := [(o3, .inr (3, [.ref o7, .ref o1, .int v3_2, .int v3_3, .int v3_4, .ref a3_5, .ref a3_6, .ref a3_7, .ref a3_8, .ref a3_9, .ref a3_10, .ref a3_11, .ref a3_12, .int (g3_12 (Int32.toNatClampNeg v3_13)), .int (-1), .ref a3_15, .ref a3_16])), (a3_12, .inl (cyI, n3_12, .inl (upd g3_12 (Int32.toNatClampNeg v3_13) (-2))))]) [0, 1] (by decide) rfl
    exact W.iret hx hb hr (fun t ht hW => ⟨⟨_, (), rfl, rfl, by rw [ht]; exact hP9, va_K.moved hW.alike hK, hD9⟩, hS.F ht⟩) hS.2.2 dX3_takeAwaited_37

def f_X3_isBefore (g1_0 : Nat → Int32) (n1_0 : Nat) (g1_1 : Nat → Int32) (n1_1 : Nat) (g1_2 : Nat → Int32) (n1_2 : Nat) (g3_6 : Nat → Int32) (n3_6 : Nat) (g3_7 : Nat → Int32) (n3_7 : Nat) (p1 : Int32) (p2 : Int32) : Option (Int32) := if x_gd p1 n3_6 = true then if x_gd p2 n3_6 = true then if (g3_6 (Int32.toNatClampNeg p1)) = (g3_6 (Int32.toNatClampNeg p2)) then if x_gd p1 n3_7 = true then if x_gd p2 n3_7 = true then (f_X1_isBefore g1_0 n1_0 g1_1 n1_1 g1_2 n1_2 (g3_7 (Int32.toNatClampNeg p1)) (g3_7 (Int32.toNatClampNeg p2))) >>= (fun r_6 => some r_6) else none else none else if x_gd p1 n3_6 = true then if x_gd p2 n3_6 = true then if (g3_6 (Int32.toNatClampNeg p2)) ≤ (g3_6 (Int32.toNatClampNeg p1)) then some 0 else some 1 else none else none else none else none
theorem i_X3_isBefore_X3 : ∀ w ∈ wsX30, w ∈ wsX3_isBefore := by decide +kernel
set_option maxHeartbeats 4000000 in
set_option maxRecDepth 100000 in
theorem c_X3_isBefore (l : Launch) (dC : Nat → ClassId) (dI : Nat → Nat → Nat) (cyI cyZ cyJ : ClassId) (sz : Nat) (o1 : Nat) (a1_0 : Nat) (a1_1 : Nat) (a1_2 : Nat) (a1_3 : Nat) (a1_4 : Nat) (v1_5 : Int32) (g1_0 : Nat → Int32) (n1_0 : Nat) (g1_1 : Nat → Int32) (n1_1 : Nat) (g1_2 : Nat → Int32) (n1_2 : Nat) (o3 : Nat) (o7 : Nat) (v3_2 : Int32) (v3_3 : Int32) (v3_4 : Int32) (a3_5 : Nat) (a3_6 : Nat) (a3_7 : Nat) (a3_8 : Nat) (a3_9 : Nat) (a3_10 : Nat) (a3_11 : Nat) (a3_12 : Nat) (v3_13 : Int32) (v3_14 : Int32) (a3_15 : Nat) (a3_16 : Nat) (g3_6 : Nat → Int32) (n3_6 : Nat) (g3_7 : Nat → Int32) (n3_7 : Nat) (p1 : Int32) (p2 : Int32) (R : Int32) (hf : f_X3_isBefore g1_0 n1_0 g1_1 n1_1 g1_2 n1_2 g3_6 n3_6 g3_7 n3_7 p1 p2 = some R) : Met l yX3_isBefore wsX3_isBefore ({ frames := 1, cells := 0, slots := 0, locals := 25 }) (va_Pc [.ref o3, .int p1, .int p2] (x_Pre (dC, dI) (x_T cyI cyZ cyJ) [(o1, .inr (1, [.ref a1_0, .ref a1_1, .ref a1_2, .ref a1_3, .ref a1_4, .int v1_5])), (a1_0, .inl (cyI, n1_0, .inl g1_0)), (a1_1, .inl (cyI, n1_1, .inl g1_1)), (a1_2, .inl (cyI, n1_2, .inl g1_2)), (o3, .inr (3, [.ref o7, .ref o1, .int v3_2, .int v3_3, .int v3_4, .ref a3_5, .ref a3_6, .ref a3_7, .ref a3_8, .ref a3_9, .ref a3_10, .ref a3_11, .ref a3_12, .int v3_13, .int v3_14, .ref a3_15, .ref a3_16])), (a3_6, .inl (cyI, n3_6, .inl g3_6)), (a3_7, .inl (cyI, n3_7, .inl g3_7))] sz)) (va_Qi (fun (r : Int32) (_ : Unit) => r = R ∧ x_nb r) (fun _ _ => True) (x_new sz)) 0 0 (x_new sz) := by
  refine Met.ofW (cc := cX3_isBefore) (maxL := 3) (ret := (some .boolean)) (by decide) rfl ?_
  intro p e s m args below meth c s₁ B hml hv
  obtain ⟨rfl, hsz, hP, hK, hN⟩ := hv
  have hx := B.exec
  have hb := B.bytes
  have hr := B.returns
  have hts := atoms_spec (ws := wsX3_isBefore) B.pre
  have hown : s.vm.findClass RX3 = some m.cls := findClass_of_methodNamed B.named
  have k_1 := hts (.fieldLink RX3 15 "FlowJudge$Frames" "targets" "[I") (by decide +kernel)
  have k_2 := hts (.fieldLink RX3 53 "FlowJudge$Frames" "contexts" "LFlowJudge$Contexts;") (by decide +kernel)
  have k_3 := hts (.fieldLink RX3 18 "FlowJudge$Frames" "ways" "[I") (by decide +kernel)
  subst hsz
  have hA : ∀ q : Nat, s.heap.size ≤ q → x_new s.heap.size q := fun _ h => h
  have hS : va_S (x_new s.heap.size) s.heap s.heap [] := va_S.rf
  have hP : va_P (dC, dI) vwCl [(o1, .inr (1, [.ref a1_0, .ref a1_1, .ref a1_2, .ref a1_3, .ref a1_4, .int v1_5])), (a1_0, .inl (cyI, n1_0, .inl g1_0)), (a1_1, .inl (cyI, n1_1, .inl g1_1)), (a1_2, .inl (cyI, n1_2, .inl g1_2)), (o3, .inr (3, [.ref o7, .ref o1, .int v3_2, .int v3_3, .int v3_4, .ref a3_5, .ref a3_6, .ref a3_7, .ref a3_8, .ref a3_9, .ref a3_10, .ref a3_11, .ref a3_12, .int v3_13, .int v3_14, .ref a3_15, .ref a3_16])), (a3_6, .inl (cyI, n3_6, .inl g3_6)), (a3_7, .inl (cyI, n3_7, .inl g3_7))] s.heap := hP
  have hl := lv_entry ([.ref o3, .int p1, .int p2]) (n := 3) (Nat.le_of_ble_eq_true rfl)
  rw [lg_entry_eq]
  generalize (lg_sl ([.ref o3, .int p1, .int p2]) ++ List.replicate (3 - (lg_sl ([.ref o3, .int p1, .int p2])).length) Slot.unset).toArray = ls at hl ⊢
  have hl : lv_has ls 3 [(0, .ref o3), (1, .int p1), (2, .int p2)] := hl
  obtain ⟨H, hH⟩ : ∃ z, z = s.heap := ⟨_, rfl⟩
  refine x_here hH ?_
  have hP : va_P (dC, dI) vwCl [(o1, .inr (1, [.ref a1_0, .ref a1_1, .ref a1_2, .ref a1_3, .ref a1_4, .int v1_5])), (a1_0, .inl (cyI, n1_0, .inl g1_0)), (a1_1, .inl (cyI, n1_1, .inl g1_1)), (a1_2, .inl (cyI, n1_2, .inl g1_2)), (o3, .inr (3, [.ref o7, .ref o1, .int v3_2, .int v3_3, .int v3_4, .ref a3_5, .ref a3_6, .ref a3_7, .ref a3_8, .ref a3_9, .ref a3_10, .ref a3_11, .ref a3_12, .int v3_13, .int v3_14, .ref a3_15, .ref a3_16])), (a3_6, .inl (cyI, n3_6, .inl g3_6)), (a3_7, .inl (cyI, n3_7, .inl g3_7))] H := by rw [hH]; exact hP
  have hS : va_S (x_new s.heap.size) s.heap H [] := by rw [hH]; exact va_S.rf
  clear hH
  obtain ⟨locs, hlo⟩ : ∃ z : List Loc, z = [] := ⟨_, rfl⟩
  refine x_herl hlo ?_
  have hS : va_S (x_new s.heap.size) s.heap H locs := by rw [hlo]; exact hS
  clear hlo
  unfold f_X3_isBefore at hf
  refine lv_aload_n hx hb dX3_isBefore_0 rfl (lv_at hl 0 rfl) ?_
  refine va_get (D := (dC, dI)) (ci := 3) (v := .ref a3_6) (C := RX3) (T := TX3) (N := 17) hx hb hts i_X3_isBefore_X3 hown hK hP 4 rfl rfl 6 (by decide) k_1 (fun _ h9 => h9) rfl dX3_isBefore_1 ?_
  refine lv_iload_n hx hb dX3_isBefore_4 rfl (lv_at hl 1 rfl) ?_
  obtain ⟨g_1, hf⟩ := x_gu hf
  refine va_iald hx hb hK hP 5 0 rfl rfl (x_gdin g_1) dX3_isBefore_5 ?_
  refine lv_aload_n hx hb dX3_isBefore_6 rfl (lv_at hl 0 rfl) ?_
  refine va_get (D := (dC, dI)) (ci := 3) (v := .ref a3_6) (C := RX3) (T := TX3) (N := 17) hx hb hts i_X3_isBefore_X3 hown hK hP 4 rfl rfl 6 (by decide) k_1 (fun _ h9 => h9) rfl dX3_isBefore_7 ?_
  refine lv_iload_n hx hb dX3_isBefore_10 rfl (lv_at hl 2 rfl) ?_
  obtain ⟨g_2, hf⟩ := x_gu hf
  refine va_iald hx hb hK hP 5 0 rfl rfl (x_gdin g_2) dX3_isBefore_11 ?_
  refine lv_icmp_eq (tgt := 36) hx hb dX3_isBefore_12 (by decide) (fun c_3 => ?_) (fun c_3 => ?_)
  · replace hf := x_ip c_3 hf
    refine lv_aload_n hx hb dX3_isBefore_36 rfl (lv_at hl 0 rfl) ?_
    refine va_get (D := (dC, dI)) (ci := 3) (v := .ref o1) (C := RX3) (T := TX3) (N := 17) hx hb hts i_X3_isBefore_X3 hown hK hP 4 rfl rfl 1 (by decide) k_2 (fun _ h9 => h9) rfl dX3_isBefore_37 ?_
    refine lv_aload_n hx hb dX3_isBefore_40 rfl (lv_at hl 0 rfl) ?_
    refine va_get (D := (dC, dI)) (ci := 3) (v := .ref a3_7) (C := RX3) (T := TX3) (N := 17) hx hb hts i_X3_isBefore_X3 hown hK hP 4 rfl rfl 7 (by decide) k_3 (fun _ h9 => h9) rfl dX3_isBefore_41 ?_
    refine lv_iload_n hx hb dX3_isBefore_44 rfl (lv_at hl 1 rfl) ?_
    obtain ⟨g_4, hf⟩ := x_gu hf
    refine va_iald hx hb hK hP 6 0 rfl rfl (x_gdin g_4) dX3_isBefore_45 ?_
    refine lv_aload_n hx hb dX3_isBefore_46 rfl (lv_at hl 0 rfl) ?_
    refine va_get (D := (dC, dI)) (ci := 3) (v := .ref a3_7) (C := RX3) (T := TX3) (N := 17) hx hb hts i_X3_isBefore_X3 hown hK hP 4 rfl rfl 7 (by decide) k_3 (fun _ h9 => h9) rfl dX3_isBefore_47 ?_
    refine lv_iload_n hx hb dX3_isBefore_50 rfl (lv_at hl 2 rfl) ?_
    obtain ⟨g_5, hf⟩ := x_gu hf
    refine va_iald hx hb hK hP 6 0 rfl rfl (x_gdin g_5) dX3_isBefore_51 ?_
    obtain ⟨r_6, h_6, hf⟩ := x_bi hf
    have hPc := hP.sub (ws' := [(o1, .inr (1, [.ref a1_0, .ref a1_1, .ref a1_2, .ref a1_3, .ref a1_4, .int v1_5])), (a1_0, .inl (cyI, n1_0, .inl g1_0)), (a1_1, .inl (cyI, n1_1, .inl g1_1)), (a1_2, .inl (cyI, n1_2, .inl g1_2))]) [0, 1, 2, 3] rfl
    refine va_calli (va_runV (As := [.int (g3_7 (Int32.toNatClampNeg p1)), .int (g3_7 (Int32.toNatClampNeg p2))]) (rest := []) ⟨hx, hb, hml, hown, hts⟩ (c_X1_isBefore l dC dI cyI cyZ cyJ H.size o1 a1_0 a1_1 a1_2 a1_3 a1_4 v1_5 g1_0 n1_0 g1_1 n1_1 g1_2 n1_2 (g3_7 (Int32.toNatClampNeg p1)) (g3_7 (Int32.toNatClampNeg p2)) r_6 h_6) (cwV 2 hts gX3_isBefore_X1_isBefore rfl rfl rfl (by decide +kernel) ⟨Nat.le_of_ble_eq_true rfl, Nat.le_of_ble_eq_true rfl⟩) (x_pV hN hK hPc (ci := 1) (q0 := 0) rfl rfl) rfl rfl hl.1 rfl (lv_room (Nat.le_of_ble_eq_true rfl)) dX3_isBefore_52 ⟨Nat.le_of_ble_eq_true rfl, Nat.le_of_ble_eq_true rfl⟩) hS x_nA (x_nf hA hS) (fun q_6 u t H1 locs ht hvm hw hB hz1 hk1 hS => ?_)
    have hP := x_kp hP hk1
    clear ht hvm hB hz1 hk1 t u hPc
    generalize H1 = H at hP hS ⊢
    obtain ⟨hw, b_6⟩ := hw
    obtain rfl := hw.symm
    obtain rfl := Option.some.inj hf
    exact W.zret (ty := .boolean) hx hb hr b_6 (fun t ht hW => ⟨⟨_, (), rfl, ⟨rfl, b_6⟩, trivial⟩, hS.F ht⟩) hS.2.2 dX3_isBefore_55
  · replace hf := x_in c_3 hf
    refine lv_aload_n hx hb dX3_isBefore_15 rfl (lv_at hl 0 rfl) ?_
    refine va_get (D := (dC, dI)) (ci := 3) (v := .ref a3_6) (C := RX3) (T := TX3) (N := 17) hx hb hts i_X3_isBefore_X3 hown hK hP 4 rfl rfl 6 (by decide) k_1 (fun _ h9 => h9) rfl dX3_isBefore_16 ?_
    refine lv_iload_n hx hb dX3_isBefore_19 rfl (lv_at hl 1 rfl) ?_
    obtain ⟨g_7, hf⟩ := x_gu hf
    refine va_iald hx hb hK hP 5 0 rfl rfl (x_gdin g_7) dX3_isBefore_20 ?_
    refine lv_aload_n hx hb dX3_isBefore_21 rfl (lv_at hl 0 rfl) ?_
    refine va_get (D := (dC, dI)) (ci := 3) (v := .ref a3_6) (C := RX3) (T := TX3) (N := 17) hx hb hts i_X3_isBefore_X3 hown hK hP 4 rfl rfl 6 (by decide) k_1 (fun _ h9 => h9) rfl dX3_isBefore_22 ?_
    refine lv_iload_n hx hb dX3_isBefore_25 rfl (lv_at hl 2 rfl) ?_
    obtain ⟨g_8, hf⟩ := x_gu hf
    refine va_iald hx hb hK hP 5 0 rfl rfl (x_gdin g_8) dX3_isBefore_26 ?_
    refine lv_icmp_ge (tgt := 34) hx hb dX3_isBefore_27 (by decide) (fun c_9 => ?_) (fun c_9 => ?_)
    · replace hf := x_ip c_9 hf
      refine lv_iconst (v := 0) hx hb dX3_isBefore_34 (by decide) ?_
      obtain rfl := Option.some.inj hf
      exact W.zret (ty := .boolean) hx hb hr rfl (fun t ht hW => ⟨⟨_, (), rfl, ⟨rfl, rfl⟩, trivial⟩, hS.F ht⟩) hS.2.2 dX3_isBefore_35
    · replace hf := x_in c_9 hf
      refine lv_iconst (v := 1) hx hb dX3_isBefore_30 (by decide) ?_
      refine lv_goto (tgt := 35) hx hb dX3_isBefore_31 (by decide) ?_
      obtain rfl := Option.some.inj hf
      exact W.zret (ty := .boolean) hx hb hr rfl (fun t ht hW => ⟨⟨_, (), rfl, ⟨rfl, rfl⟩, trivial⟩, hS.F ht⟩) hS.2.2 dX3_isBefore_35

def f_X3_mergeRuns_L (g1_0 : Nat → Int32) (n1_0 : Nat) (g1_1 : Nat → Int32) (n1_1 : Nat) (g1_2 : Nat → Int32) (n1_2 : Nat) (v3_4 : Int32) (g3_6 : Nat → Int32) (n3_6 : Nat) (g3_7 : Nat → Int32) (n3_7 : Nat) (g3_15 : Nat → Int32) (n3_15 : Nat) (n3_16 : Nat) (l3 : Int32) (l4 : Int32) (z : Nat × Int32 × Int32 × Int32 × (Nat → Int32)) : Option ((Nat → Int32)) := match z with
  | (q, l5, l6, l7, g3_16) => if q = 0 then if l4 ≤ l7 then some g3_16 else if l4 ≤ l6 then if x_gd l5 n3_15 = true then if x_gd l7 n3_16 = true then (f_X3_mergeRuns_L g1_0 n1_0 g1_1 n1_1 g1_2 n1_2 v3_4 g3_6 n3_6 g3_7 n3_7 g3_15 n3_15 n3_16 l3 l4 (0, l5 + 1, l6, l7 + 1, upd g3_16 (Int32.toNatClampNeg l7) (g3_15 (Int32.toNatClampNeg l5)))) else none else none else if l3 ≤ l5 then if x_gd l6 n3_15 = true then if x_gd l7 n3_16 = true then (f_X3_mergeRuns_L g1_0 n1_0 g1_1 n1_1 g1_2 n1_2 v3_4 g3_6 n3_6 g3_7 n3_7 g3_15 n3_15 n3_16 l3 l4 (0, l5, l6 + 1, l7 + 1, upd g3_16 (Int32.toNatClampNeg l7) (g3_15 (Int32.toNatClampNeg l6)))) else none else none else if x_gd l6 n3_15 = true then if x_gd l5 n3_15 = true then (f_X3_isBefore g1_0 n1_0 g1_1 n1_1 g1_2 n1_2 g3_6 n3_6 g3_7 n3_7 (g3_15 (Int32.toNatClampNeg l6)) (g3_15 (Int32.toNatClampNeg l5))) >>= (fun r_14 => if r_14 = (0 : Int32) then if x_gd l5 n3_15 = true then if x_gd l7 n3_16 = true then (f_X3_mergeRuns_L g1_0 n1_0 g1_1 n1_1 g1_2 n1_2 v3_4 g3_6 n3_6 g3_7 n3_7 g3_15 n3_15 n3_16 l3 l4 (0, l5 + 1, l6, l7 + 1, upd g3_16 (Int32.toNatClampNeg l7) (g3_15 (Int32.toNatClampNeg l5)))) else none else none else if x_gd l6 n3_15 = true then if x_gd l7 n3_16 = true then (f_X3_mergeRuns_L g1_0 n1_0 g1_1 n1_1 g1_2 n1_2 v3_4 g3_6 n3_6 g3_7 n3_7 g3_15 n3_15 n3_16 l3 l4 (0, l5, l6 + 1, l7 + 1, upd g3_16 (Int32.toNatClampNeg l7) (g3_15 (Int32.toNatClampNeg l6)))) else none else none) else none else none else none
partial_fixpoint
def f_X3_mergeRuns (g1_0 : Nat → Int32) (n1_0 : Nat) (g1_1 : Nat → Int32) (n1_1 : Nat) (g1_2 : Nat → Int32) (n1_2 : Nat) (v3_4 : Int32) (g3_6 : Nat → Int32) (n3_6 : Nat) (g3_7 : Nat → Int32) (n3_7 : Nat) (g3_15 : Nat → Int32) (n3_15 : Nat) (g3_16 : Nat → Int32) (n3_16 : Nat) (p1 : Int32) (p2 : Int32) : Option ((Nat → Int32)) := if v3_4 ≤ (p1 + p2) then if v3_4 ≤ (v3_4 + p2) then (f_X3_mergeRuns_L g1_0 n1_0 g1_1 n1_1 g1_2 n1_2 v3_4 g3_6 n3_6 g3_7 n3_7 g3_15 n3_15 n3_16 v3_4 v3_4 (0, p1, v3_4, p1, g3_16)) else (f_X3_mergeRuns_L g1_0 n1_0 g1_1 n1_1 g1_2 n1_2 v3_4 g3_6 n3_6 g3_7 n3_7 g3_15 n3_15 n3_16 v3_4 (v3_4 + p2) (0, p1, v3_4, p1, g3_16)) else if v3_4 ≤ ((p1 + p2) + p2) then (f_X3_mergeRuns_L g1_0 n1_0 g1_1 n1_1 g1_2 n1_2 v3_4 g3_6 n3_6 g3_7 n3_7 g3_15 n3_15 n3_16 (p1 + p2) v3_4 (0, p1, p1 + p2, p1, g3_16)) else (f_X3_mergeRuns_L g1_0 n1_0 g1_1 n1_1 g1_2 n1_2 v3_4 g3_6 n3_6 g3_7 n3_7 g3_15 n3_15 n3_16 (p1 + p2) ((p1 + p2) + p2) (0, p1, p1 + p2, p1, g3_16))
theorem i_X3_mergeRuns_X3 : ∀ w ∈ wsX30, w ∈ wsX3_mergeRuns := by decide +kernel
set_option maxHeartbeats 4000000 in
set_option maxRecDepth 100000 in
theorem c_X3_mergeRuns (l : Launch) (dC : Nat → ClassId) (dI : Nat → Nat → Nat) (cyI cyZ cyJ : ClassId) (sz : Nat) (o1 : Nat) (a1_0 : Nat) (a1_1 : Nat) (a1_2 : Nat) (a1_3 : Nat) (a1_4 : Nat) (v1_5 : Int32) (g1_0 : Nat → Int32) (n1_0 : Nat) (g1_1 : Nat → Int32) (n1_1 : Nat) (g1_2 : Nat → Int32) (n1_2 : Nat) (o3 : Nat) (o7 : Nat) (v3_2 : Int32) (v3_3 : Int32) (v3_4 : Int32) (a3_5 : Nat) (a3_6 : Nat) (a3_7 : Nat) (a3_8 : Nat) (a3_9 : Nat) (a3_10 : Nat) (a3_11 : Nat) (a3_12 : Nat) (v3_13 : Int32) (v3_14 : Int32) (a3_15 : Nat) (a3_16 : Nat) (g3_6 : Nat → Int32) (n3_6 : Nat) (g3_7 : Nat → Int32) (n3_7 : Nat) (g3_15 : Nat → Int32) (n3_15 : Nat) (g3_16 : Nat → Int32) (n3_16 : Nat) (p1 : Int32) (p2 : Int32) (R : (Nat → Int32)) (hf : f_X3_mergeRuns g1_0 n1_0 g1_1 n1_1 g1_2 n1_2 v3_4 g3_6 n3_6 g3_7 n3_7 g3_15 n3_15 g3_16 n3_16 p1 p2 = some R) : Met l yX3_mergeRuns wsX3_mergeRuns ({ frames := 2, cells := 0, slots := 0, locals := 47 }) (va_Pc [.ref o3, .int p1, .int p2] (x_PreD (dC, dI) (x_T cyI cyZ cyJ) [(o1, .inr (1, [.ref a1_0, .ref a1_1, .ref a1_2, .ref a1_3, .ref a1_4, .int v1_5])), (a1_0, .inl (cyI, n1_0, .inl g1_0)), (a1_1, .inl (cyI, n1_1, .inl g1_1)), (a1_2, .inl (cyI, n1_2, .inl g1_2)), (o3, .inr (3, [.ref o7, .ref o1, .int v3_2, .int v3_3, .int v3_4, .ref a3_5, .ref a3_6, .ref a3_7, .ref a3_8, .ref a3_9, .ref a3_10, .ref a3_11, .ref a3_12, .int v3_13, .int v3_14, .ref a3_15, .ref a3_16])), (a3_6, .inl (cyI, n3_6, .inl g3_6)), (a3_7, .inl (cyI, n3_7, .inl g3_7)), (a3_15, .inl (cyI, n3_15, .inl g3_15)), (a3_16, .inl (cyI, n3_16, .inl g3_16))] sz)) (va_Qv (fun _ : Unit => True) (fun (_ : Unit) (t : State) => va_P (dC, dI) vwCl [(o1, .inr (1, [.ref a1_0, .ref a1_1, .ref a1_2, .ref a1_3, .ref a1_4, .int v1_5])), (a1_0, .inl (cyI, n1_0, .inl g1_0)), (a1_1, .inl (cyI, n1_1, .inl g1_1)), (a1_2, .inl (cyI, n1_2, .inl g1_2)), (o3, .inr (3, [.ref o7, .ref o1, .int v3_2, .int v3_3, .int v3_4, .ref a3_5, .ref a3_6, .ref a3_7, .ref a3_8, .ref a3_9, .ref a3_10, .ref a3_11, .ref a3_12, .int v3_13, .int v3_14, .ref a3_15, .ref a3_16])), (a3_6, .inl (cyI, n3_6, .inl g3_6)), (a3_7, .inl (cyI, n3_7, .inl g3_7)), (a3_15, .inl (cyI, n3_15, .inl g3_15)), (a3_16, .inl (cyI, n3_16, .inl R))] t.heap ∧ va_K (dC, dI) vwCl (x_T cyI cyZ cyJ) t ∧ va_D (va_A [(o1, .inr (1, [.ref a1_0, .ref a1_1, .ref a1_2, .ref a1_3, .ref a1_4, .int v1_5])), (a1_0, .inl (cyI, n1_0, .inl g1_0)), (a1_1, .inl (cyI, n1_1, .inl g1_1)), (a1_2, .inl (cyI, n1_2, .inl g1_2)), (o3, .inr (3, [.ref o7, .ref o1, .int v3_2, .int v3_3, .int v3_4, .ref a3_5, .ref a3_6, .ref a3_7, .ref a3_8, .ref a3_9, .ref a3_10, .ref a3_11, .ref a3_12, .int v3_13, .int v3_14, .ref a3_15, .ref a3_16])), (a3_6, .inl (cyI, n3_6, .inl g3_6)), (a3_7, .inl (cyI, n3_7, .inl g3_7)), (a3_15, .inl (cyI, n3_15, .inl g3_15)), (a3_16, .inl (cyI, n3_16, .inl g3_16))] sz) [(o1, .inr (1, [.ref a1_0, .ref a1_1, .ref a1_2, .ref a1_3, .ref a1_4, .int v1_5])), (a1_0, .inl (cyI, n1_0, .inl g1_0)), (a1_1, .inl (cyI, n1_1, .inl g1_1)), (a1_2, .inl (cyI, n1_2, .inl g1_2)), (o3, .inr (3, [.ref o7, .ref o1, .int v3_2, .int v3_3, .int v3_4, .ref a3_5, .ref a3_6, .ref a3_7, .ref a3_8, .ref a3_9, .ref a3_10, .ref a3_11, .ref a3_12, .int v3_13, .int v3_14, .ref a3_15, .ref a3_16])), (a3_6, .inl (cyI, n3_6, .inl g3_6)), (a3_7, .inl (cyI, n3_7, .inl g3_7)), (a3_15, .inl (cyI, n3_15, .inl g3_15)), (a3_16, .inl (cyI, n3_16, .inl R))]) (va_A [(o1, .inr (1, [.ref a1_0, .ref a1_1, .ref a1_2, .ref a1_3, .ref a1_4, .int v1_5])), (a1_0, .inl (cyI, n1_0, .inl g1_0)), (a1_1, .inl (cyI, n1_1, .inl g1_1)), (a1_2, .inl (cyI, n1_2, .inl g1_2)), (o3, .inr (3, [.ref o7, .ref o1, .int v3_2, .int v3_3, .int v3_4, .ref a3_5, .ref a3_6, .ref a3_7, .ref a3_8, .ref a3_9, .ref a3_10, .ref a3_11, .ref a3_12, .int v3_13, .int v3_14, .ref a3_15, .ref a3_16])), (a3_6, .inl (cyI, n3_6, .inl g3_6)), (a3_7, .inl (cyI, n3_7, .inl g3_7)), (a3_15, .inl (cyI, n3_15, .inl g3_15)), (a3_16, .inl (cyI, n3_16, .inl g3_16))] sz)) 0 0 (va_A [(o1, .inr (1, [.ref a1_0, .ref a1_1, .ref a1_2, .ref a1_3, .ref a1_4, .int v1_5])), (a1_0, .inl (cyI, n1_0, .inl g1_0)), (a1_1, .inl (cyI, n1_1, .inl g1_1)), (a1_2, .inl (cyI, n1_2, .inl g1_2)), (o3, .inr (3, [.ref o7, .ref o1, .int v3_2, .int v3_3, .int v3_4, .ref a3_5, .ref a3_6, .ref a3_7, .ref a3_8, .ref a3_9, .ref a3_10, .ref a3_11, .ref a3_12, .int v3_13, .int v3_14, .ref a3_15, .ref a3_16])), (a3_6, .inl (cyI, n3_6, .inl g3_6)), (a3_7, .inl (cyI, n3_7, .inl g3_7)), (a3_15, .inl (cyI, n3_15, .inl g3_15)), (a3_16, .inl (cyI, n3_16, .inl g3_16))] sz) := by
  refine Met.ofW (cc := cX3_mergeRuns) (maxL := 9) (ret := none) (by decide) rfl ?_
  intro p e s m args below meth c s₁ B hml hv
  obtain ⟨rfl, ⟨hsz, hP, hK, hN⟩, hD0⟩ := hv
  have hx := B.exec
  have hb := B.bytes
  have hr := B.returns
  have hts := atoms_spec (ws := wsX3_mergeRuns) B.pre
  have hown : s.vm.findClass RX3 = some m.cls := findClass_of_methodNamed B.named
  have k_1 := hts (.fieldLink RX3 46 "FlowJudge$Frames" "otherOrder" "[I") (by decide +kernel)
  have k_2 := hts (.fieldLink RX3 43 "FlowJudge$Frames" "order" "[I") (by decide +kernel)
  have k_3 := hts (.fieldLink RX3 69 "FlowJudge$Frames" "count" "I") (by decide +kernel)
  subst hsz
  have hD := hD0.self (sz := s.heap.size)
  generalize hAe : va_A [(o1, .inr (1, [.ref a1_0, .ref a1_1, .ref a1_2, .ref a1_3, .ref a1_4, .int v1_5])), (a1_0, .inl (cyI, n1_0, .inl g1_0)), (a1_1, .inl (cyI, n1_1, .inl g1_1)), (a1_2, .inl (cyI, n1_2, .inl g1_2)), (o3, .inr (3, [.ref o7, .ref o1, .int v3_2, .int v3_3, .int v3_4, .ref a3_5, .ref a3_6, .ref a3_7, .ref a3_8, .ref a3_9, .ref a3_10, .ref a3_11, .ref a3_12, .int v3_13, .int v3_14, .ref a3_15, .ref a3_16])), (a3_6, .inl (cyI, n3_6, .inl g3_6)), (a3_7, .inl (cyI, n3_7, .inl g3_7)), (a3_15, .inl (cyI, n3_15, .inl g3_15)), (a3_16, .inl (cyI, n3_16, .inl g3_16))] s.heap.size = A at hD ⊢
  have hA : ∀ q : Nat, s.heap.size ≤ q → A q := fun q h => by rw [← hAe]; exact Or.inr h
  have hP : va_P (dC, dI) vwCl [(o1, .inr (1, [.ref a1_0, .ref a1_1, .ref a1_2, .ref a1_3, .ref a1_4, .int v1_5])), (a1_0, .inl (cyI, n1_0, .inl g1_0)), (a1_1, .inl (cyI, n1_1, .inl g1_1)), (a1_2, .inl (cyI, n1_2, .inl g1_2)), (o3, .inr (3, [.ref o7, .ref o1, .int v3_2, .int v3_3, .int v3_4, .ref a3_5, .ref a3_6, .ref a3_7, .ref a3_8, .ref a3_9, .ref a3_10, .ref a3_11, .ref a3_12, .int v3_13, .int v3_14, .ref a3_15, .ref a3_16])), (a3_6, .inl (cyI, n3_6, .inl g3_6)), (a3_7, .inl (cyI, n3_7, .inl g3_7)), (a3_15, .inl (cyI, n3_15, .inl g3_15)), (a3_16, .inl (cyI, n3_16, .inl g3_16))] s.heap := hP
  have hl := lv_entry ([.ref o3, .int p1, .int p2]) (n := 9) (Nat.le_of_ble_eq_true rfl)
  rw [lg_entry_eq]
  generalize (lg_sl ([.ref o3, .int p1, .int p2]) ++ List.replicate (9 - (lg_sl ([.ref o3, .int p1, .int p2])).length) Slot.unset).toArray = ls at hl ⊢
  have hl : lv_has ls 9 [(0, .ref o3), (1, .int p1), (2, .int p2)] := hl
  obtain ⟨H, hH⟩ : ∃ z, z = s.heap := ⟨_, rfl⟩
  refine x_here hH ?_
  have hP : va_P (dC, dI) vwCl [(o1, .inr (1, [.ref a1_0, .ref a1_1, .ref a1_2, .ref a1_3, .ref a1_4, .int v1_5])), (a1_0, .inl (cyI, n1_0, .inl g1_0)), (a1_1, .inl (cyI, n1_1, .inl g1_1)), (a1_2, .inl (cyI, n1_2, .inl g1_2)), (o3, .inr (3, [.ref o7, .ref o1, .int v3_2, .int v3_3, .int v3_4, .ref a3_5, .ref a3_6, .ref a3_7, .ref a3_8, .ref a3_9, .ref a3_10, .ref a3_11, .ref a3_12, .int v3_13, .int v3_14, .ref a3_15, .ref a3_16])), (a3_6, .inl (cyI, n3_6, .inl g3_6)), (a3_7, .inl (cyI, n3_7, .inl g3_7)), (a3_15, .inl (cyI, n3_15, .inl g3_15)), (a3_16, .inl (cyI, n3_16, .inl g3_16))] H := by rw [hH]; exact hP
  have hS : va_S A s.heap H [] := by rw [hH]; exact va_S.rf
  clear hH
  obtain ⟨locs, hlo⟩ : ∃ z : List Loc, z = [] := ⟨_, rfl⟩
  refine x_herl hlo ?_
  have hS : va_S A s.heap H locs := by rw [hlo]; exact hS
  clear hlo
  unfold f_X3_mergeRuns at hf
  refine x_wn (fun WW hWW => ?_)
  have J := fun (l3 : Int32) (l4 : Int32) => f_X3_mergeRuns_L.partial_correctness g1_0 n1_0 g1_1 n1_1 g1_2 n1_2 v3_4 g3_6 n3_6 g3_7 n3_7 g3_15 n3_15 n3_16 l3 l4 (fun (z : Nat × Int32 × Int32 × Int32 × (Nat → Int32)) (r : (Nat → Int32)) => r = R → ∀ (q : Nat) (l5 : Int32) (l6 : Int32) (l7 : Int32) (g3_16 : Nat → Int32), z = (q, l5, l6, l7, g3_16) → ((q = 0 → ∀ (H : Heap) (locs : List Loc) (ls : Array Slot), va_P (dC, dI) vwCl [(o1, .inr (1, [.ref a1_0, .ref a1_1, .ref a1_2, .ref a1_3, .ref a1_4, .int v1_5])), (a1_0, .inl (cyI, n1_0, .inl g1_0)), (a1_1, .inl (cyI, n1_1, .inl g1_1)), (a1_2, .inl (cyI, n1_2, .inl g1_2)), (o3, .inr (3, [.ref o7, .ref o1, .int v3_2, .int v3_3, .int v3_4, .ref a3_5, .ref a3_6, .ref a3_7, .ref a3_8, .ref a3_9, .ref a3_10, .ref a3_11, .ref a3_12, .int v3_13, .int v3_14, .ref a3_15, .ref a3_16])), (a3_6, .inl (cyI, n3_6, .inl g3_6)), (a3_7, .inl (cyI, n3_7, .inl g3_7)), (a3_15, .inl (cyI, n3_15, .inl g3_15)), (a3_16, .inl (cyI, n3_16, .inl g3_16))] H → va_D A [(o1, .inr (1, [.ref a1_0, .ref a1_1, .ref a1_2, .ref a1_3, .ref a1_4, .int v1_5])), (a1_0, .inl (cyI, n1_0, .inl g1_0)), (a1_1, .inl (cyI, n1_1, .inl g1_1)), (a1_2, .inl (cyI, n1_2, .inl g1_2)), (o3, .inr (3, [.ref o7, .ref o1, .int v3_2, .int v3_3, .int v3_4, .ref a3_5, .ref a3_6, .ref a3_7, .ref a3_8, .ref a3_9, .ref a3_10, .ref a3_11, .ref a3_12, .int v3_13, .int v3_14, .ref a3_15, .ref a3_16])), (a3_6, .inl (cyI, n3_6, .inl g3_6)), (a3_7, .inl (cyI, n3_7, .inl g3_7)), (a3_15, .inl (cyI, n3_15, .inl g3_15)), (a3_16, .inl (cyI, n3_16, .inl g3_16))] → va_S A s.heap H locs → lv_has ls 9 [(0, .ref o3), (3, .int l3), (4, .int l4), (5, .int l5), (6, .int l6), (7, .int l7)] → WW H locs 0 0 (F0 m 52 ls [])))) (by
    intro F ih z r hf hr q l5 l6 l7 g3_16 hz
    subst hz
    obtain rfl := hr
    · intro hq H locs ls hP hD hS hl
      subst hq
      refine (hWW _ _ _ _ _).mp ?_
      replace hf := x_ip rfl hf
      refine lv_iload hx hb dX3_mergeRuns_52 (lv_at hl 5 rfl) ?_
      refine lv_iload hx hb dX3_mergeRuns_54 (lv_at hl 2 rfl) ?_
      refine lv_icmp_ge (tgt := 149) hx hb dX3_mergeRuns_56 (by decide) (fun c_1 => ?_) (fun c_1 => ?_)
      · replace hf := x_ip c_1 hf
        obtain rfl := Option.some.inj hf
        have hP9 := hP.sub (ws' := [(o1, .inr (1, [.ref a1_0, .ref a1_1, .ref a1_2, .ref a1_3, .ref a1_4, .int v1_5])), (a1_0, .inl (cyI, n1_0, .inl g1_0)), (a1_1, .inl (cyI, n1_1, .inl g1_1)), (a1_2, .inl (cyI, n1_2, .inl g1_2)), (o3, .inr (3, [.ref o7, .ref o1, .int v3_2, .int v3_3, .int v3_4, .ref a3_5, .ref a3_6, .ref a3_7, .ref a3_8, .ref a3_9, .ref a3_10, .ref a3_11, .ref a3_12, .int v3_13, .int v3_14, .ref a3_15, .ref a3_16])), (a3_6, .inl (cyI, n3_6, .inl g3_6)), (a3_7, .inl (cyI, n3_7, .inl g3_7)), (a3_15, .inl (cyI, n3_15, .inl g3_15)), (a3_16, .inl (cyI, n3_16, .inl g3_16))]) [0, 1, 2, 3, 4, 5, 6, 7, 8] rfl
        have hD9 := hD.sub (ws' := [(o1, .inr (1, [.ref a1_0, .ref a1_1, .ref a1_2, .ref a1_3, .ref a1_4, .int v1_5])), (a1_0, .inl (cyI, n1_0, .inl g1_0)), (a1_1, .inl (cyI, n1_1, .inl g1_1)), (a1_2, .inl (cyI, n1_2, .inl g1_2)), (o3, .inr (3, [.ref o7, .ref o1, .int v3_2, .int v3_3, .int v3_4, .ref a3_5, .ref a3_6, .ref a3_7, .ref a3_8, .ref a3_9, .ref a3_10, .ref a3_11, .ref a3_12, .int v3_13, .int v3_14, .ref a3_15, .ref a3_16])), (a3_6, .inl (cyI, n3_6, .inl g3_6)), (a3_7, .inl (cyI, n3_7, .inl g3_7)), (a3_15, .inl (cyI, n3_15, .inl g3_15)), (a3_16, .inl (cyI, n3_16, .inl g3_16))]) [0, 1, 2, 3, 4, 5, 6, 7, 8] (by decide) rfl
        exact W.vret hx hb hr (fun t ht hW => ⟨⟨(), rfl, trivial, by rw [ht]; exact hP9, va_K.moved hW.alike hK, hD9⟩, hS.F ht⟩) hS.2.2 dX3_mergeRuns_149
      · replace hf := x_in c_1 hf
        refine lv_iload hx hb dX3_mergeRuns_59 (lv_at hl 4 rfl) ?_
        refine lv_iload hx hb dX3_mergeRuns_61 (lv_at hl 2 rfl) ?_
        refine lv_icmp_ge (tgt := 93) hx hb dX3_mergeRuns_63 (by decide) (fun c_2 => ?_) (fun c_2 => ?_)
        · replace hf := x_ip c_2 hf
          refine lv_iconst (v := 1) hx hb dX3_mergeRuns_93 (by decide) ?_
          refine lv_goto (tgt := 98) hx hb dX3_mergeRuns_94 (by decide) ?_
          refine lv_istore (lv' := [(8, .int 1), (0, .ref o3), (3, .int l3), (4, .int l4), (5, .int l5), (6, .int l6), (7, .int l7)]) hx hb dX3_mergeRuns_98 hl (by decide) rfl (fun ls hl => ?_)
          refine lv_aload_n hx hb dX3_mergeRuns_100 rfl (lv_at hl 1 rfl) ?_
          refine va_get (D := (dC, dI)) (ci := 3) (v := .ref a3_16) (C := RX3) (T := TX3) (N := 17) hx hb hts i_X3_mergeRuns_X3 hown hK hP 4 rfl rfl 16 (by decide) k_1 (fun _ h9 => h9) rfl dX3_mergeRuns_101 ?_
          refine lv_iload hx hb dX3_mergeRuns_104 (lv_at hl 6 rfl) ?_
          refine lv_iload hx hb dX3_mergeRuns_106 (lv_at hl 0 rfl) ?_
          refine lv_if_eq (tgt := 121) hx hb dX3_mergeRuns_108 (by decide) (fun c_3 => absurd c_3 (by decide)) (fun _ => ?_)
          refine lv_aload_n hx hb dX3_mergeRuns_111 rfl (lv_at hl 1 rfl) ?_
          refine va_get (D := (dC, dI)) (ci := 3) (v := .ref a3_15) (C := RX3) (T := TX3) (N := 17) hx hb hts i_X3_mergeRuns_X3 hown hK hP 4 rfl rfl 15 (by decide) k_2 (fun _ h9 => h9) rfl dX3_mergeRuns_112 ?_
          refine lv_iload hx hb dX3_mergeRuns_115 (lv_at hl 4 rfl) ?_
          obtain ⟨g_4, hf⟩ := x_gu hf
          refine va_iald hx hb hK hP 7 0 rfl rfl (x_gdin g_4) dX3_mergeRuns_117 ?_
          refine lv_goto (tgt := 128) hx hb dX3_mergeRuns_118 (by decide) ?_
          obtain ⟨g_5, hf⟩ := x_gu hf
          refine va_iast hx hb hK hP hD hS 8 0 rfl rfl (x_gdin g_5) dX3_mergeRuns_128 (fun H locs hP hD hS => ?_)
          have hP : va_P (dC, dI) vwCl [(o1, .inr (1, [.ref a1_0, .ref a1_1, .ref a1_2, .ref a1_3, .ref a1_4, .int v1_5])), (a1_0, .inl (cyI, n1_0, .inl g1_0)), (a1_1, .inl (cyI, n1_1, .inl g1_1)), (a1_2, .inl (cyI, n1_2, .inl g1_2)), (o3, .inr (3, [.ref o7, .ref o1, .int v3_2, .int v3_3, .int v3_4, .ref a3_5, .ref a3_6, .ref a3_7, .ref a3_8, .ref a3_9, .ref a3_10, .ref a3_11, .ref a3_12, .int v3_13, .int v3_14, .ref a3_15, .ref a3_16])), (a3_6, .inl (cyI, n3_6, .inl g3_6)), (a3_7, .inl (cyI, n3_7, .inl g3_7)), (a3_15, .inl (cyI, n3_15, .inl g3_15)), (a3_16, .inl (cyI, n3_16, .inl (upd g3_16 (Int32.toNatClampNeg l7) (g3_15 (Int32.toNatClampNeg l5)))))] H := hP
          have hD : va_D A [(o1, .inr (1, [.ref a1_0, .ref a1_1, .ref a1_2, .ref a1_3, .ref a1_4, .int v1_5])), (a1_0, .inl (cyI, n1_0, .inl g1_0)), (a1_1, .inl (cyI, n1_1, .inl g1_1)), (a1_2, .inl (cyI, n1_2, .inl g1_2)), (o3, .inr (3, [.ref o7, .ref o1, .int v3_2, .int v3_3, .int v3_4, .ref a3_5, .ref a3_6, .ref a3_7, .ref a3_8, .ref a3_9, .ref a3_10, .ref a3_11, .ref a3_12, .int v3_13, .int v3_14, .ref a3_15, .ref a3_16])), (a3_6, .inl (cyI, n3_6, .inl g3_6)), (a3_7, .inl (cyI, n3_7, .inl g3_7)), (a3_15, .inl (cyI, n3_15, .inl g3_15)), (a3_16, .inl (cyI, n3_16, .inl (upd g3_16 (Int32.toNatClampNeg l7) (g3_15 (Int32.toNatClampNeg l5)))))] := hD
          refine lv_iload hx hb dX3_mergeRuns_129 (lv_at hl 0 rfl) ?_
          refine lv_if_eq (tgt := 140) hx hb dX3_mergeRuns_131 (by decide) (fun c_6 => absurd c_6 (by decide)) (fun _ => ?_)
          refine lv_iinc (v := (l5 + 1)) (lv' := [(5, .int (l5 + 1)), (8, .int 1), (0, .ref o3), (3, .int l3), (4, .int l4), (6, .int l6), (7, .int l7)]) hx hb dX3_mergeRuns_134 hl (k := 4) rfl rfl (by decide) rfl (fun ls hl => ?_)
          refine lv_goto (tgt := 143) hx hb dX3_mergeRuns_137 (by decide) ?_
          refine lv_iinc (v := (l7 + 1)) (lv' := [(7, .int (l7 + 1)), (5, .int (l5 + 1)), (8, .int 1), (0, .ref o3), (3, .int l3), (4, .int l4), (6, .int l6)]) hx hb dX3_mergeRuns_143 hl (k := 6) rfl rfl (by decide) rfl (fun ls hl => ?_)
          refine lv_goto (tgt := 52) hx hb dX3_mergeRuns_146 (by decide) ?_
          exact (hWW _ _ _ _ _).mpr ((ih (0, l5 + 1, l6, l7 + 1, upd g3_16 (Int32.toNatClampNeg l7) (g3_15 (Int32.toNatClampNeg l5))) _ hf rfl _ _ _ _ _ rfl) rfl H locs ls hP hD hS (lv_sub hl [3, 4, 5, 1, 6, 0] rfl))
        · replace hf := x_in c_2 hf
          refine lv_iload hx hb dX3_mergeRuns_66 (lv_at hl 3 rfl) ?_
          refine lv_iload_n hx hb dX3_mergeRuns_68 rfl (lv_at hl 1 rfl) ?_
          refine lv_icmp_ge (tgt := 97) hx hb dX3_mergeRuns_69 (by decide) (fun c_7 => ?_) (fun c_7 => ?_)
          · replace hf := x_ip c_7 hf
            refine lv_iconst (v := 0) hx hb dX3_mergeRuns_97 (by decide) ?_
            refine lv_istore (lv' := [(8, .int 0), (0, .ref o3), (3, .int l3), (4, .int l4), (5, .int l5), (6, .int l6), (7, .int l7)]) hx hb dX3_mergeRuns_98 hl (by decide) rfl (fun ls hl => ?_)
            refine lv_aload_n hx hb dX3_mergeRuns_100 rfl (lv_at hl 1 rfl) ?_
            refine va_get (D := (dC, dI)) (ci := 3) (v := .ref a3_16) (C := RX3) (T := TX3) (N := 17) hx hb hts i_X3_mergeRuns_X3 hown hK hP 4 rfl rfl 16 (by decide) k_1 (fun _ h9 => h9) rfl dX3_mergeRuns_101 ?_
            refine lv_iload hx hb dX3_mergeRuns_104 (lv_at hl 6 rfl) ?_
            refine lv_iload hx hb dX3_mergeRuns_106 (lv_at hl 0 rfl) ?_
            refine lv_if_eq (tgt := 121) hx hb dX3_mergeRuns_108 (by decide) (fun _ => ?_) (fun c_8 => absurd (by decide) c_8)
            refine lv_aload_n hx hb dX3_mergeRuns_121 rfl (lv_at hl 1 rfl) ?_
            refine va_get (D := (dC, dI)) (ci := 3) (v := .ref a3_15) (C := RX3) (T := TX3) (N := 17) hx hb hts i_X3_mergeRuns_X3 hown hK hP 4 rfl rfl 15 (by decide) k_2 (fun _ h9 => h9) rfl dX3_mergeRuns_122 ?_
            refine lv_iload hx hb dX3_mergeRuns_125 (lv_at hl 5 rfl) ?_
            obtain ⟨g_9, hf⟩ := x_gu hf
            refine va_iald hx hb hK hP 7 0 rfl rfl (x_gdin g_9) dX3_mergeRuns_127 ?_
            obtain ⟨g_10, hf⟩ := x_gu hf
            refine va_iast hx hb hK hP hD hS 8 0 rfl rfl (x_gdin g_10) dX3_mergeRuns_128 (fun H locs hP hD hS => ?_)
            have hP : va_P (dC, dI) vwCl [(o1, .inr (1, [.ref a1_0, .ref a1_1, .ref a1_2, .ref a1_3, .ref a1_4, .int v1_5])), (a1_0, .inl (cyI, n1_0, .inl g1_0)), (a1_1, .inl (cyI, n1_1, .inl g1_1)), (a1_2, .inl (cyI, n1_2, .inl g1_2)), (o3, .inr (3, [.ref o7, .ref o1, .int v3_2, .int v3_3, .int v3_4, .ref a3_5, .ref a3_6, .ref a3_7, .ref a3_8, .ref a3_9, .ref a3_10, .ref a3_11, .ref a3_12, .int v3_13, .int v3_14, .ref a3_15, .ref a3_16])), (a3_6, .inl (cyI, n3_6, .inl g3_6)), (a3_7, .inl (cyI, n3_7, .inl g3_7)), (a3_15, .inl (cyI, n3_15, .inl g3_15)), (a3_16, .inl (cyI, n3_16, .inl (upd g3_16 (Int32.toNatClampNeg l7) (g3_15 (Int32.toNatClampNeg l6)))))] H := hP
            have hD : va_D A [(o1, .inr (1, [.ref a1_0, .ref a1_1, .ref a1_2, .ref a1_3, .ref a1_4, .int v1_5])), (a1_0, .inl (cyI, n1_0, .inl g1_0)), (a1_1, .inl (cyI, n1_1, .inl g1_1)), (a1_2, .inl (cyI, n1_2, .inl g1_2)), (o3, .inr (3, [.ref o7, .ref o1, .int v3_2, .int v3_3, .int v3_4, .ref a3_5, .ref a3_6, .ref a3_7, .ref a3_8, .ref a3_9, .ref a3_10, .ref a3_11, .ref a3_12, .int v3_13, .int v3_14, .ref a3_15, .ref a3_16])), (a3_6, .inl (cyI, n3_6, .inl g3_6)), (a3_7, .inl (cyI, n3_7, .inl g3_7)), (a3_15, .inl (cyI, n3_15, .inl g3_15)), (a3_16, .inl (cyI, n3_16, .inl (upd g3_16 (Int32.toNatClampNeg l7) (g3_15 (Int32.toNatClampNeg l6)))))] := hD
            refine lv_iload hx hb dX3_mergeRuns_129 (lv_at hl 0 rfl) ?_
            refine lv_if_eq (tgt := 140) hx hb dX3_mergeRuns_131 (by decide) (fun _ => ?_) (fun c_11 => absurd (by decide) c_11)
            refine lv_iinc (v := (l6 + 1)) (lv' := [(6, .int (l6 + 1)), (8, .int 0), (0, .ref o3), (3, .int l3), (4, .int l4), (5, .int l5), (7, .int l7)]) hx hb dX3_mergeRuns_140 hl (k := 5) rfl rfl (by decide) rfl (fun ls hl => ?_)
            refine lv_iinc (v := (l7 + 1)) (lv' := [(7, .int (l7 + 1)), (6, .int (l6 + 1)), (8, .int 0), (0, .ref o3), (3, .int l3), (4, .int l4), (5, .int l5)]) hx hb dX3_mergeRuns_143 hl (k := 6) rfl rfl (by decide) rfl (fun ls hl => ?_)
            refine lv_goto (tgt := 52) hx hb dX3_mergeRuns_146 (by decide) ?_
            exact (hWW _ _ _ _ _).mpr ((ih (0, l5, l6 + 1, l7 + 1, upd g3_16 (Int32.toNatClampNeg l7) (g3_15 (Int32.toNatClampNeg l6))) _ hf rfl _ _ _ _ _ rfl) rfl H locs ls hP hD hS (lv_sub hl [3, 4, 5, 6, 1, 0] rfl))
          · replace hf := x_in c_7 hf
            refine lv_aload_n hx hb dX3_mergeRuns_72 rfl (lv_at hl 0 rfl) ?_
            refine lv_aload_n hx hb dX3_mergeRuns_73 rfl (lv_at hl 0 rfl) ?_
            refine va_get (D := (dC, dI)) (ci := 3) (v := .ref a3_15) (C := RX3) (T := TX3) (N := 17) hx hb hts i_X3_mergeRuns_X3 hown hK hP 4 rfl rfl 15 (by decide) k_2 (fun _ h9 => h9) rfl dX3_mergeRuns_74 ?_
            refine lv_iload hx hb dX3_mergeRuns_77 (lv_at hl 4 rfl) ?_
            obtain ⟨g_12, hf⟩ := x_gu hf
            refine va_iald hx hb hK hP 7 0 rfl rfl (x_gdin g_12) dX3_mergeRuns_79 ?_
            refine lv_aload_n hx hb dX3_mergeRuns_80 rfl (lv_at hl 0 rfl) ?_
            refine va_get (D := (dC, dI)) (ci := 3) (v := .ref a3_15) (C := RX3) (T := TX3) (N := 17) hx hb hts i_X3_mergeRuns_X3 hown hK hP 4 rfl rfl 15 (by decide) k_2 (fun _ h9 => h9) rfl dX3_mergeRuns_81 ?_
            refine lv_iload hx hb dX3_mergeRuns_84 (lv_at hl 3 rfl) ?_
            obtain ⟨g_13, hf⟩ := x_gu hf
            refine va_iald hx hb hK hP 7 0 rfl rfl (x_gdin g_13) dX3_mergeRuns_86 ?_
            obtain ⟨r_14, h_14, hf⟩ := x_bi hf
            have hPc := hP.sub (ws' := [(o1, .inr (1, [.ref a1_0, .ref a1_1, .ref a1_2, .ref a1_3, .ref a1_4, .int v1_5])), (a1_0, .inl (cyI, n1_0, .inl g1_0)), (a1_1, .inl (cyI, n1_1, .inl g1_1)), (a1_2, .inl (cyI, n1_2, .inl g1_2)), (o3, .inr (3, [.ref o7, .ref o1, .int v3_2, .int v3_3, .int v3_4, .ref a3_5, .ref a3_6, .ref a3_7, .ref a3_8, .ref a3_9, .ref a3_10, .ref a3_11, .ref a3_12, .int v3_13, .int v3_14, .ref a3_15, .ref a3_16])), (a3_6, .inl (cyI, n3_6, .inl g3_6)), (a3_7, .inl (cyI, n3_7, .inl g3_7))]) [0, 1, 2, 3, 4, 5, 6] rfl
            refine va_calli (va_runV (As := [.int (g3_15 (Int32.toNatClampNeg l6)), .int (g3_15 (Int32.toNatClampNeg l5))]) (rest := []) ⟨hx, hb, hml, hown, hts⟩ (c_X3_isBefore l dC dI cyI cyZ cyJ H.size o1 a1_0 a1_1 a1_2 a1_3 a1_4 v1_5 g1_0 n1_0 g1_1 n1_1 g1_2 n1_2 o3 o7 v3_2 v3_3 v3_4 a3_5 a3_6 a3_7 a3_8 a3_9 a3_10 a3_11 a3_12 v3_13 v3_14 a3_15 a3_16 g3_6 n3_6 g3_7 n3_7 (g3_15 (Int32.toNatClampNeg l6)) (g3_15 (Int32.toNatClampNeg l5)) r_14 h_14) (cwV 2 hts gX3_mergeRuns_X3_isBefore rfl rfl rfl (by decide +kernel) ⟨Nat.le_of_ble_eq_true rfl, Nat.le_of_ble_eq_true rfl⟩) (x_pV hN hK hPc (ci := 3) (q0 := 4) rfl rfl) rfl rfl hl.1 rfl (lv_room (Nat.le_of_ble_eq_true rfl)) dX3_mergeRuns_87 ⟨Nat.le_of_ble_eq_true rfl, Nat.le_of_ble_eq_true rfl⟩) hS x_nA (x_nf hA hS) (fun q_14 u t H1 locs ht hvm hw hB hz1 hk1 hS => ?_)
            have hP := x_kp hP hk1
            clear ht hvm hB hz1 hk1 t u hPc
            generalize H1 = H at hP hS ⊢
            obtain ⟨hw, b_14⟩ := hw
            obtain rfl := hw.symm
            refine lv_if_ne (tgt := 97) hx hb dX3_mergeRuns_90 (by decide) (fun c_15 => ?_) (fun c_15 => ?_)
            · replace hf := x_in c_15 hf
              refine lv_iconst (v := 0) hx hb dX3_mergeRuns_97 (by decide) ?_
              refine lv_istore (lv' := [(8, .int 0), (0, .ref o3), (3, .int l3), (4, .int l4), (5, .int l5), (6, .int l6), (7, .int l7)]) hx hb dX3_mergeRuns_98 hl (by decide) rfl (fun ls hl => ?_)
              refine lv_aload_n hx hb dX3_mergeRuns_100 rfl (lv_at hl 1 rfl) ?_
              refine va_get (D := (dC, dI)) (ci := 3) (v := .ref a3_16) (C := RX3) (T := TX3) (N := 17) hx hb hts i_X3_mergeRuns_X3 hown hK hP 4 rfl rfl 16 (by decide) k_1 (fun _ h9 => h9) rfl dX3_mergeRuns_101 ?_
              refine lv_iload hx hb dX3_mergeRuns_104 (lv_at hl 6 rfl) ?_
              refine lv_iload hx hb dX3_mergeRuns_106 (lv_at hl 0 rfl) ?_
              refine lv_if_eq (tgt := 121) hx hb dX3_mergeRuns_108 (by decide) (fun _ => ?_) (fun c_16 => absurd (by decide) c_16)
              refine lv_aload_n hx hb dX3_mergeRuns_121 rfl (lv_at hl 1 rfl) ?_
              refine va_get (D := (dC, dI)) (ci := 3) (v := .ref a3_15) (C := RX3) (T := TX3) (N := 17) hx hb hts i_X3_mergeRuns_X3 hown hK hP 4 rfl rfl 15 (by decide) k_2 (fun _ h9 => h9) rfl dX3_mergeRuns_122 ?_
              refine lv_iload hx hb dX3_mergeRuns_125 (lv_at hl 5 rfl) ?_
              obtain ⟨g_17, hf⟩ := x_gu hf
              refine va_iald hx hb hK hP 7 0 rfl rfl (x_gdin g_17) dX3_mergeRuns_127 ?_
              obtain ⟨g_18, hf⟩ := x_gu hf
              refine va_iast hx hb hK hP hD hS 8 0 rfl rfl (x_gdin g_18) dX3_mergeRuns_128 (fun H locs hP hD hS => ?_)
              have hP : va_P (dC, dI) vwCl [(o1, .inr (1, [.ref a1_0, .ref a1_1, .ref a1_2, .ref a1_3, .ref a1_4, .int v1_5])), (a1_0, .inl (cyI, n1_0, .inl g1_0)), (a1_1, .inl (cyI, n1_1, .inl g1_1)), (a1_2, .inl (cyI, n1_2, .inl g1_2)), (o3, .inr (3, [.ref o7, .ref o1, .int v3_2, .int v3_3, .int v3_4, .ref a3_5, .ref a3_6, .ref a3_7, .ref a3_8, .ref a3_9, .ref a3_10, .ref a3_11, .ref a3_12, .int v3_13, .int v3_14, .ref a3_15, .ref a3_16])), (a3_6, .inl (cyI, n3_6, .inl g3_6)), (a3_7, .inl (cyI, n3_7, .inl g3_7)), (a3_15, .inl (cyI, n3_15, .inl g3_15)), (a3_16, .inl (cyI, n3_16, .inl (upd g3_16 (Int32.toNatClampNeg l7) (g3_15 (Int32.toNatClampNeg l6)))))] H := hP
              have hD : va_D A [(o1, .inr (1, [.ref a1_0, .ref a1_1, .ref a1_2, .ref a1_3, .ref a1_4, .int v1_5])), (a1_0, .inl (cyI, n1_0, .inl g1_0)), (a1_1, .inl (cyI, n1_1, .inl g1_1)), (a1_2, .inl (cyI, n1_2, .inl g1_2)), (o3, .inr (3, [.ref o7, .ref o1, .int v3_2, .int v3_3, .int v3_4, .ref a3_5, .ref a3_6, .ref a3_7, .ref a3_8, .ref a3_9, .ref a3_10, .ref a3_11, .ref a3_12, .int v3_13, .int v3_14, .ref a3_15, .ref a3_16])), (a3_6, .inl (cyI, n3_6, .inl g3_6)), (a3_7, .inl (cyI, n3_7, .inl g3_7)), (a3_15, .inl (cyI, n3_15, .inl g3_15)), (a3_16, .inl (cyI, n3_16, .inl (upd g3_16 (Int32.toNatClampNeg l7) (g3_15 (Int32.toNatClampNeg l6)))))] := hD
              refine lv_iload hx hb dX3_mergeRuns_129 (lv_at hl 0 rfl) ?_
              refine lv_if_eq (tgt := 140) hx hb dX3_mergeRuns_131 (by decide) (fun _ => ?_) (fun c_19 => absurd (by decide) c_19)
              refine lv_iinc (v := (l6 + 1)) (lv' := [(6, .int (l6 + 1)), (8, .int 0), (0, .ref o3), (3, .int l3), (4, .int l4), (5, .int l5), (7, .int l7)]) hx hb dX3_mergeRuns_140 hl (k := 5) rfl rfl (by decide) rfl (fun ls hl => ?_)
              refine lv_iinc (v := (l7 + 1)) (lv' := [(7, .int (l7 + 1)), (6, .int (l6 + 1)), (8, .int 0), (0, .ref o3), (3, .int l3), (4, .int l4), (5, .int l5)]) hx hb dX3_mergeRuns_143 hl (k := 6) rfl rfl (by decide) rfl (fun ls hl => ?_)
              refine lv_goto (tgt := 52) hx hb dX3_mergeRuns_146 (by decide) ?_
              exact (hWW _ _ _ _ _).mpr ((ih (0, l5, l6 + 1, l7 + 1, upd g3_16 (Int32.toNatClampNeg l7) (g3_15 (Int32.toNatClampNeg l6))) _ hf rfl _ _ _ _ _ rfl) rfl H locs ls hP hD hS (lv_sub hl [3, 4, 5, 6, 1, 0] rfl))
            · replace hf := x_ip c_15 hf
              refine lv_iconst (v := 1) hx hb dX3_mergeRuns_93 (by decide) ?_
              refine lv_goto (tgt := 98) hx hb dX3_mergeRuns_94 (by decide) ?_
              refine lv_istore (lv' := [(8, .int 1), (0, .ref o3), (3, .int l3), (4, .int l4), (5, .int l5), (6, .int l6), (7, .int l7)]) hx hb dX3_mergeRuns_98 hl (by decide) rfl (fun ls hl => ?_)
              refine lv_aload_n hx hb dX3_mergeRuns_100 rfl (lv_at hl 1 rfl) ?_
              refine va_get (D := (dC, dI)) (ci := 3) (v := .ref a3_16) (C := RX3) (T := TX3) (N := 17) hx hb hts i_X3_mergeRuns_X3 hown hK hP 4 rfl rfl 16 (by decide) k_1 (fun _ h9 => h9) rfl dX3_mergeRuns_101 ?_
              refine lv_iload hx hb dX3_mergeRuns_104 (lv_at hl 6 rfl) ?_
              refine lv_iload hx hb dX3_mergeRuns_106 (lv_at hl 0 rfl) ?_
              refine lv_if_eq (tgt := 121) hx hb dX3_mergeRuns_108 (by decide) (fun c_20 => absurd c_20 (by decide)) (fun _ => ?_)
              refine lv_aload_n hx hb dX3_mergeRuns_111 rfl (lv_at hl 1 rfl) ?_
              refine va_get (D := (dC, dI)) (ci := 3) (v := .ref a3_15) (C := RX3) (T := TX3) (N := 17) hx hb hts i_X3_mergeRuns_X3 hown hK hP 4 rfl rfl 15 (by decide) k_2 (fun _ h9 => h9) rfl dX3_mergeRuns_112 ?_
              refine lv_iload hx hb dX3_mergeRuns_115 (lv_at hl 4 rfl) ?_
              obtain ⟨g_21, hf⟩ := x_gu hf
              refine va_iald hx hb hK hP 7 0 rfl rfl (x_gdin g_21) dX3_mergeRuns_117 ?_
              refine lv_goto (tgt := 128) hx hb dX3_mergeRuns_118 (by decide) ?_
              obtain ⟨g_22, hf⟩ := x_gu hf
              refine va_iast hx hb hK hP hD hS 8 0 rfl rfl (x_gdin g_22) dX3_mergeRuns_128 (fun H locs hP hD hS => ?_)
              have hP : va_P (dC, dI) vwCl [(o1, .inr (1, [.ref a1_0, .ref a1_1, .ref a1_2, .ref a1_3, .ref a1_4, .int v1_5])), (a1_0, .inl (cyI, n1_0, .inl g1_0)), (a1_1, .inl (cyI, n1_1, .inl g1_1)), (a1_2, .inl (cyI, n1_2, .inl g1_2)), (o3, .inr (3, [.ref o7, .ref o1, .int v3_2, .int v3_3, .int v3_4, .ref a3_5, .ref a3_6, .ref a3_7, .ref a3_8, .ref a3_9, .ref a3_10, .ref a3_11, .ref a3_12, .int v3_13, .int v3_14, .ref a3_15, .ref a3_16])), (a3_6, .inl (cyI, n3_6, .inl g3_6)), (a3_7, .inl (cyI, n3_7, .inl g3_7)), (a3_15, .inl (cyI, n3_15, .inl g3_15)), (a3_16, .inl (cyI, n3_16, .inl (upd g3_16 (Int32.toNatClampNeg l7) (g3_15 (Int32.toNatClampNeg l5)))))] H := hP
              have hD : va_D A [(o1, .inr (1, [.ref a1_0, .ref a1_1, .ref a1_2, .ref a1_3, .ref a1_4, .int v1_5])), (a1_0, .inl (cyI, n1_0, .inl g1_0)), (a1_1, .inl (cyI, n1_1, .inl g1_1)), (a1_2, .inl (cyI, n1_2, .inl g1_2)), (o3, .inr (3, [.ref o7, .ref o1, .int v3_2, .int v3_3, .int v3_4, .ref a3_5, .ref a3_6, .ref a3_7, .ref a3_8, .ref a3_9, .ref a3_10, .ref a3_11, .ref a3_12, .int v3_13, .int v3_14, .ref a3_15, .ref a3_16])), (a3_6, .inl (cyI, n3_6, .inl g3_6)), (a3_7, .inl (cyI, n3_7, .inl g3_7)), (a3_15, .inl (cyI, n3_15, .inl g3_15)), (a3_16, .inl (cyI, n3_16, .inl (upd g3_16 (Int32.toNatClampNeg l7) (g3_15 (Int32.toNatClampNeg l5)))))] := hD
              refine lv_iload hx hb dX3_mergeRuns_129 (lv_at hl 0 rfl) ?_
              refine lv_if_eq (tgt := 140) hx hb dX3_mergeRuns_131 (by decide) (fun c_23 => absurd c_23 (by decide)) (fun _ => ?_)
              refine lv_iinc (v := (l5 + 1)) (lv' := [(5, .int (l5 + 1)), (8, .int 1), (0, .ref o3), (3, .int l3), (4, .int l4), (6, .int l6), (7, .int l7)]) hx hb dX3_mergeRuns_134 hl (k := 4) rfl rfl (by decide) rfl (fun ls hl => ?_)
              refine lv_goto (tgt := 143) hx hb dX3_mergeRuns_137 (by decide) ?_
              refine lv_iinc (v := (l7 + 1)) (lv' := [(7, .int (l7 + 1)), (5, .int (l5 + 1)), (8, .int 1), (0, .ref o3), (3, .int l3), (4, .int l4), (6, .int l6)]) hx hb dX3_mergeRuns_143 hl (k := 6) rfl rfl (by decide) rfl (fun ls hl => ?_)
              refine lv_goto (tgt := 52) hx hb dX3_mergeRuns_146 (by decide) ?_
              exact (hWW _ _ _ _ _).mpr ((ih (0, l5 + 1, l6, l7 + 1, upd g3_16 (Int32.toNatClampNeg l7) (g3_15 (Int32.toNatClampNeg l5))) _ hf rfl _ _ _ _ _ rfl) rfl H locs ls hP hD hS (lv_sub hl [3, 4, 5, 1, 6, 0] rfl)))
  refine lv_iload_n hx hb dX3_mergeRuns_0 rfl (lv_at hl 1 rfl) ?_
  refine lv_iload_n hx hb dX3_mergeRuns_1 rfl (lv_at hl 2 rfl) ?_
  refine lv_iadd hx hb dX3_mergeRuns_2 ?_
  refine lv_aload_n hx hb dX3_mergeRuns_3 rfl (lv_at hl 0 rfl) ?_
  refine va_get (D := (dC, dI)) (ci := 3) (v := .int v3_4) (C := RX3) (T := TX3) (N := 17) hx hb hts i_X3_mergeRuns_X3 hown hK hP 4 rfl rfl 4 (by decide) k_3 (fun _ h9 => h9) rfl dX3_mergeRuns_4 ?_
  refine lv_icmp_ge (tgt := 16) hx hb dX3_mergeRuns_7 (by decide) (fun c_24 => ?_) (fun c_24 => ?_)
  · replace hf := x_ip c_24 hf
    refine lv_aload_n hx hb dX3_mergeRuns_16 rfl (lv_at hl 0 rfl) ?_
    refine va_get (D := (dC, dI)) (ci := 3) (v := .int v3_4) (C := RX3) (T := TX3) (N := 17) hx hb hts i_X3_mergeRuns_X3 hown hK hP 4 rfl rfl 4 (by decide) k_3 (fun _ h9 => h9) rfl dX3_mergeRuns_17 ?_
    refine lv_istore_n (lv' := [(3, .int v3_4), (0, .ref o3), (1, .int p1), (2, .int p2)]) hx hb dX3_mergeRuns_20 rfl hl (by decide) rfl (fun ls hl => ?_)
    refine lv_iload_n hx hb dX3_mergeRuns_21 rfl (lv_at hl 0 rfl) ?_
    refine lv_iload_n hx hb dX3_mergeRuns_22 rfl (lv_at hl 3 rfl) ?_
    refine lv_iadd hx hb dX3_mergeRuns_23 ?_
    refine lv_aload_n hx hb dX3_mergeRuns_24 rfl (lv_at hl 1 rfl) ?_
    refine va_get (D := (dC, dI)) (ci := 3) (v := .int v3_4) (C := RX3) (T := TX3) (N := 17) hx hb hts i_X3_mergeRuns_X3 hown hK hP 4 rfl rfl 4 (by decide) k_3 (fun _ h9 => h9) rfl dX3_mergeRuns_25 ?_
    refine lv_icmp_ge (tgt := 37) hx hb dX3_mergeRuns_28 (by decide) (fun c_25 => ?_) (fun c_25 => ?_)
    · replace hf := x_ip c_25 hf
      refine lv_aload_n hx hb dX3_mergeRuns_37 rfl (lv_at hl 1 rfl) ?_
      refine va_get (D := (dC, dI)) (ci := 3) (v := .int v3_4) (C := RX3) (T := TX3) (N := 17) hx hb hts i_X3_mergeRuns_X3 hown hK hP 4 rfl rfl 4 (by decide) k_3 (fun _ h9 => h9) rfl dX3_mergeRuns_38 ?_
      refine lv_istore (lv' := [(4, .int v3_4), (3, .int v3_4), (0, .ref o3), (1, .int p1), (2, .int p2)]) hx hb dX3_mergeRuns_41 hl (by decide) rfl (fun ls hl => ?_)
      refine lv_iload_n hx hb dX3_mergeRuns_43 rfl (lv_at hl 3 rfl) ?_
      refine lv_istore (lv' := [(5, .int p1), (4, .int v3_4), (3, .int v3_4), (0, .ref o3), (1, .int p1), (2, .int p2)]) hx hb dX3_mergeRuns_44 hl (by decide) rfl (fun ls hl => ?_)
      refine lv_iload_n hx hb dX3_mergeRuns_46 rfl (lv_at hl 2 rfl) ?_
      refine lv_istore (lv' := [(6, .int v3_4), (5, .int p1), (4, .int v3_4), (3, .int v3_4), (0, .ref o3), (1, .int p1), (2, .int p2)]) hx hb dX3_mergeRuns_47 hl (by decide) rfl (fun ls hl => ?_)
      refine lv_iload_n hx hb dX3_mergeRuns_49 rfl (lv_at hl 5 rfl) ?_
      refine lv_istore (lv' := [(7, .int p1), (6, .int v3_4), (5, .int p1), (4, .int v3_4), (3, .int v3_4), (0, .ref o3), (1, .int p1), (2, .int p2)]) hx hb dX3_mergeRuns_50 hl (by decide) rfl (fun ls hl => ?_)
      exact (hWW _ _ _ _ _).mpr ((J v3_4 v3_4 (0, p1, v3_4, p1, g3_16) _ hf rfl _ _ _ _ _ rfl) rfl H locs ls hP hD hS (lv_sub hl [5, 4, 3, 2, 1, 0] rfl))
    · replace hf := x_in c_25 hf
      refine lv_iload_n hx hb dX3_mergeRuns_31 rfl (lv_at hl 0 rfl) ?_
      refine lv_iload_n hx hb dX3_mergeRuns_32 rfl (lv_at hl 3 rfl) ?_
      refine lv_iadd hx hb dX3_mergeRuns_33 ?_
      refine lv_goto (tgt := 41) hx hb dX3_mergeRuns_34 (by decide) ?_
      refine lv_istore (lv' := [(4, .int (v3_4 + p2)), (3, .int v3_4), (0, .ref o3), (1, .int p1), (2, .int p2)]) hx hb dX3_mergeRuns_41 hl (by decide) rfl (fun ls hl => ?_)
      refine lv_iload_n hx hb dX3_mergeRuns_43 rfl (lv_at hl 3 rfl) ?_
      refine lv_istore (lv' := [(5, .int p1), (4, .int (v3_4 + p2)), (3, .int v3_4), (0, .ref o3), (1, .int p1), (2, .int p2)]) hx hb dX3_mergeRuns_44 hl (by decide) rfl (fun ls hl => ?_)
      refine lv_iload_n hx hb dX3_mergeRuns_46 rfl (lv_at hl 2 rfl) ?_
      refine lv_istore (lv' := [(6, .int v3_4), (5, .int p1), (4, .int (v3_4 + p2)), (3, .int v3_4), (0, .ref o3), (1, .int p1), (2, .int p2)]) hx hb dX3_mergeRuns_47 hl (by decide) rfl (fun ls hl => ?_)
      refine lv_iload_n hx hb dX3_mergeRuns_49 rfl (lv_at hl 5 rfl) ?_
      refine lv_istore (lv' := [(7, .int p1), (6, .int v3_4), (5, .int p1), (4, .int (v3_4 + p2)), (3, .int v3_4), (0, .ref o3), (1, .int p1), (2, .int p2)]) hx hb dX3_mergeRuns_50 hl (by decide) rfl (fun ls hl => ?_)
      exact (hWW _ _ _ _ _).mpr ((J v3_4 (v3_4 + p2) (0, p1, v3_4, p1, g3_16) _ hf rfl _ _ _ _ _ rfl) rfl H locs ls hP hD hS (lv_sub hl [5, 4, 3, 2, 1, 0] rfl))
  · replace hf := x_in c_24 hf
    refine lv_iload_n hx hb dX3_mergeRuns_10 rfl (lv_at hl 1 rfl) ?_
    refine lv_iload_n hx hb dX3_mergeRuns_11 rfl (lv_at hl 2 rfl) ?_
    refine lv_iadd hx hb dX3_mergeRuns_12 ?_
    refine lv_goto (tgt := 20) hx hb dX3_mergeRuns_13 (by decide) ?_
    refine lv_istore_n (lv' := [(3, .int (p1 + p2)), (0, .ref o3), (1, .int p1), (2, .int p2)]) hx hb dX3_mergeRuns_20 rfl hl (by decide) rfl (fun ls hl => ?_)
    refine lv_iload_n hx hb dX3_mergeRuns_21 rfl (lv_at hl 0 rfl) ?_
    refine lv_iload_n hx hb dX3_mergeRuns_22 rfl (lv_at hl 3 rfl) ?_
    refine lv_iadd hx hb dX3_mergeRuns_23 ?_
    refine lv_aload_n hx hb dX3_mergeRuns_24 rfl (lv_at hl 1 rfl) ?_
    refine va_get (D := (dC, dI)) (ci := 3) (v := .int v3_4) (C := RX3) (T := TX3) (N := 17) hx hb hts i_X3_mergeRuns_X3 hown hK hP 4 rfl rfl 4 (by decide) k_3 (fun _ h9 => h9) rfl dX3_mergeRuns_25 ?_
    refine lv_icmp_ge (tgt := 37) hx hb dX3_mergeRuns_28 (by decide) (fun c_26 => ?_) (fun c_26 => ?_)
    · replace hf := x_ip c_26 hf
      refine lv_aload_n hx hb dX3_mergeRuns_37 rfl (lv_at hl 1 rfl) ?_
      refine va_get (D := (dC, dI)) (ci := 3) (v := .int v3_4) (C := RX3) (T := TX3) (N := 17) hx hb hts i_X3_mergeRuns_X3 hown hK hP 4 rfl rfl 4 (by decide) k_3 (fun _ h9 => h9) rfl dX3_mergeRuns_38 ?_
      refine lv_istore (lv' := [(4, .int v3_4), (3, .int (p1 + p2)), (0, .ref o3), (1, .int p1), (2, .int p2)]) hx hb dX3_mergeRuns_41 hl (by decide) rfl (fun ls hl => ?_)
      refine lv_iload_n hx hb dX3_mergeRuns_43 rfl (lv_at hl 3 rfl) ?_
      refine lv_istore (lv' := [(5, .int p1), (4, .int v3_4), (3, .int (p1 + p2)), (0, .ref o3), (1, .int p1), (2, .int p2)]) hx hb dX3_mergeRuns_44 hl (by decide) rfl (fun ls hl => ?_)
      refine lv_iload_n hx hb dX3_mergeRuns_46 rfl (lv_at hl 2 rfl) ?_
      refine lv_istore (lv' := [(6, .int (p1 + p2)), (5, .int p1), (4, .int v3_4), (3, .int (p1 + p2)), (0, .ref o3), (1, .int p1), (2, .int p2)]) hx hb dX3_mergeRuns_47 hl (by decide) rfl (fun ls hl => ?_)
      refine lv_iload_n hx hb dX3_mergeRuns_49 rfl (lv_at hl 5 rfl) ?_
      refine lv_istore (lv' := [(7, .int p1), (6, .int (p1 + p2)), (5, .int p1), (4, .int v3_4), (3, .int (p1 + p2)), (0, .ref o3), (1, .int p1), (2, .int p2)]) hx hb dX3_mergeRuns_50 hl (by decide) rfl (fun ls hl => ?_)
      exact (hWW _ _ _ _ _).mpr ((J (p1 + p2) v3_4 (0, p1, p1 + p2, p1, g3_16) _ hf rfl _ _ _ _ _ rfl) rfl H locs ls hP hD hS (lv_sub hl [5, 4, 3, 2, 1, 0] rfl))
    · replace hf := x_in c_26 hf
      refine lv_iload_n hx hb dX3_mergeRuns_31 rfl (lv_at hl 0 rfl) ?_
      refine lv_iload_n hx hb dX3_mergeRuns_32 rfl (lv_at hl 3 rfl) ?_
      refine lv_iadd hx hb dX3_mergeRuns_33 ?_
      refine lv_goto (tgt := 41) hx hb dX3_mergeRuns_34 (by decide) ?_
      refine lv_istore (lv' := [(4, .int ((p1 + p2) + p2)), (3, .int (p1 + p2)), (0, .ref o3), (1, .int p1), (2, .int p2)]) hx hb dX3_mergeRuns_41 hl (by decide) rfl (fun ls hl => ?_)
      refine lv_iload_n hx hb dX3_mergeRuns_43 rfl (lv_at hl 3 rfl) ?_
      refine lv_istore (lv' := [(5, .int p1), (4, .int ((p1 + p2) + p2)), (3, .int (p1 + p2)), (0, .ref o3), (1, .int p1), (2, .int p2)]) hx hb dX3_mergeRuns_44 hl (by decide) rfl (fun ls hl => ?_)
      refine lv_iload_n hx hb dX3_mergeRuns_46 rfl (lv_at hl 2 rfl) ?_
      refine lv_istore (lv' := [(6, .int (p1 + p2)), (5, .int p1), (4, .int ((p1 + p2) + p2)), (3, .int (p1 + p2)), (0, .ref o3), (1, .int p1), (2, .int p2)]) hx hb dX3_mergeRuns_47 hl (by decide) rfl (fun ls hl => ?_)
      refine lv_iload_n hx hb dX3_mergeRuns_49 rfl (lv_at hl 5 rfl) ?_
      refine lv_istore (lv' := [(7, .int p1), (6, .int (p1 + p2)), (5, .int p1), (4, .int ((p1 + p2) + p2)), (3, .int (p1 + p2)), (0, .ref o3), (1, .int p1), (2, .int p2)]) hx hb dX3_mergeRuns_50 hl (by decide) rfl (fun ls hl => ?_)
      exact (hWW _ _ _ _ _).mpr ((J (p1 + p2) ((p1 + p2) + p2) (0, p1, p1 + p2, p1, g3_16) _ hf rfl _ _ _ _ _ rfl) rfl H locs ls hP hD hS (lv_sub hl [5, 4, 3, 2, 1, 0] rfl))

def f_X3_factOf (g1_2 : Nat → Int32) (n1_2 : Nat) (v3_4 : Int32) (g3_6 : Nat → Int32) (n3_6 : Nat) (g3_7 : Nat → Int32) (n3_7 : Nat) (g3_8 : Nat → Int32) (n3_8 : Nat) (g3_9 : Nat → Int32) (n3_9 : Nat) (g3_15 : Nat → Int32) (n3_15 : Nat) (p1 : Int32) (p2 : Int32) : Option (Int32) := if p1 < (0 : Int32) then some (-1) else if p1 < v3_4 then if x_gd p1 n3_15 = true then if p2 = (0 : Int32) then if x_gd (g3_15 (Int32.toNatClampNeg p1)) n3_6 = true then some (g3_6 (Int32.toNatClampNeg (g3_15 (Int32.toNatClampNeg p1)))) else none else if p2 = (1 : Int32) then if x_gd (g3_15 (Int32.toNatClampNeg p1)) n3_7 = true then if x_gd (g3_7 (Int32.toNatClampNeg (g3_15 (Int32.toNatClampNeg p1)))) n1_2 = true then some (g1_2 (Int32.toNatClampNeg (g3_7 (Int32.toNatClampNeg (g3_15 (Int32.toNatClampNeg p1)))))) else none else none else if p2 = (2 : Int32) then if x_gd (g3_15 (Int32.toNatClampNeg p1)) n3_8 = true then some (g3_8 (Int32.toNatClampNeg (g3_15 (Int32.toNatClampNeg p1)))) else none else if x_gd (g3_15 (Int32.toNatClampNeg p1)) n3_9 = true then some (g3_9 (Int32.toNatClampNeg (g3_15 (Int32.toNatClampNeg p1)))) else none else none else some (-1)
theorem i_X3_factOf_X1 : ∀ w ∈ wsX10, w ∈ wsX3_factOf := by decide +kernel
theorem i_X3_factOf_X3 : ∀ w ∈ wsX30, w ∈ wsX3_factOf := by decide +kernel
set_option maxHeartbeats 4000000 in
set_option maxRecDepth 100000 in
theorem c_X3_factOf (l : Launch) (dC : Nat → ClassId) (dI : Nat → Nat → Nat) (cyI cyZ cyJ : ClassId) (sz : Nat) (o1 : Nat) (a1_0 : Nat) (a1_1 : Nat) (a1_2 : Nat) (a1_3 : Nat) (a1_4 : Nat) (v1_5 : Int32) (g1_2 : Nat → Int32) (n1_2 : Nat) (o3 : Nat) (o7 : Nat) (v3_2 : Int32) (v3_3 : Int32) (v3_4 : Int32) (a3_5 : Nat) (a3_6 : Nat) (a3_7 : Nat) (a3_8 : Nat) (a3_9 : Nat) (a3_10 : Nat) (a3_11 : Nat) (a3_12 : Nat) (v3_13 : Int32) (v3_14 : Int32) (a3_15 : Nat) (a3_16 : Nat) (g3_6 : Nat → Int32) (n3_6 : Nat) (g3_7 : Nat → Int32) (n3_7 : Nat) (g3_8 : Nat → Int32) (n3_8 : Nat) (g3_9 : Nat → Int32) (n3_9 : Nat) (g3_15 : Nat → Int32) (n3_15 : Nat) (p1 : Int32) (p2 : Int32) (R : Int32) (hf : f_X3_factOf g1_2 n1_2 v3_4 g3_6 n3_6 g3_7 n3_7 g3_8 n3_8 g3_9 n3_9 g3_15 n3_15 p1 p2 = some R) : Met l yX3_factOf wsX3_factOf ({ frames := 0, cells := 0, slots := 0, locals := 0 }) (va_Pc [.ref o3, .int p1, .int p2] (x_Pre (dC, dI) (x_T cyI cyZ cyJ) [(o1, .inr (1, [.ref a1_0, .ref a1_1, .ref a1_2, .ref a1_3, .ref a1_4, .int v1_5])), (a1_2, .inl (cyI, n1_2, .inl g1_2)), (o3, .inr (3, [.ref o7, .ref o1, .int v3_2, .int v3_3, .int v3_4, .ref a3_5, .ref a3_6, .ref a3_7, .ref a3_8, .ref a3_9, .ref a3_10, .ref a3_11, .ref a3_12, .int v3_13, .int v3_14, .ref a3_15, .ref a3_16])), (a3_6, .inl (cyI, n3_6, .inl g3_6)), (a3_7, .inl (cyI, n3_7, .inl g3_7)), (a3_8, .inl (cyI, n3_8, .inl g3_8)), (a3_9, .inl (cyI, n3_9, .inl g3_9)), (a3_15, .inl (cyI, n3_15, .inl g3_15))] sz)) (va_Qi (fun (r : Int32) (_ : Unit) => r = R) (fun _ _ => True) (x_new sz)) 0 0 (x_new sz) := by
  refine Met.ofW (cc := cX3_factOf) (maxL := 4) (ret := (some .int)) (by decide) rfl ?_
  intro p e s m args below meth c s₁ B hml hv
  obtain ⟨rfl, hsz, hP, hK, hN⟩ := hv
  have hx := B.exec
  have hb := B.bytes
  have hr := B.returns
  have hts := atoms_spec (ws := wsX3_factOf) B.pre
  have hown : s.vm.findClass RX3 = some m.cls := findClass_of_methodNamed B.named
  have k_1 := hts (.fieldLink RX3 69 "FlowJudge$Frames" "count" "I") (by decide +kernel)
  have k_2 := hts (.fieldLink RX3 43 "FlowJudge$Frames" "order" "[I") (by decide +kernel)
  have k_3 := hts (.fieldLink RX3 15 "FlowJudge$Frames" "targets" "[I") (by decide +kernel)
  have k_4 := hts (.fieldLink RX3 53 "FlowJudge$Frames" "contexts" "LFlowJudge$Contexts;") (by decide +kernel)
  have k_5 := hts (.fieldLink RX3 18 "FlowJudge$Frames" "ways" "[I") (by decide +kernel)
  have k_6 := hts (.fieldLink RX3 21 "FlowJudge$Frames" "heights" "[I") (by decide +kernel)
  have k_7 := hts (.fieldLink RX3 24 "FlowJudge$Frames" "made" "[I") (by decide +kernel)
  subst hsz
  have hA : ∀ q : Nat, s.heap.size ≤ q → x_new s.heap.size q := fun _ h => h
  have hS : va_S (x_new s.heap.size) s.heap s.heap [] := va_S.rf
  have hP : va_P (dC, dI) vwCl [(o1, .inr (1, [.ref a1_0, .ref a1_1, .ref a1_2, .ref a1_3, .ref a1_4, .int v1_5])), (a1_2, .inl (cyI, n1_2, .inl g1_2)), (o3, .inr (3, [.ref o7, .ref o1, .int v3_2, .int v3_3, .int v3_4, .ref a3_5, .ref a3_6, .ref a3_7, .ref a3_8, .ref a3_9, .ref a3_10, .ref a3_11, .ref a3_12, .int v3_13, .int v3_14, .ref a3_15, .ref a3_16])), (a3_6, .inl (cyI, n3_6, .inl g3_6)), (a3_7, .inl (cyI, n3_7, .inl g3_7)), (a3_8, .inl (cyI, n3_8, .inl g3_8)), (a3_9, .inl (cyI, n3_9, .inl g3_9)), (a3_15, .inl (cyI, n3_15, .inl g3_15))] s.heap := hP
  have hl := lv_entry ([.ref o3, .int p1, .int p2]) (n := 4) (Nat.le_of_ble_eq_true rfl)
  rw [lg_entry_eq]
  generalize (lg_sl ([.ref o3, .int p1, .int p2]) ++ List.replicate (4 - (lg_sl ([.ref o3, .int p1, .int p2])).length) Slot.unset).toArray = ls at hl ⊢
  have hl : lv_has ls 4 [(0, .ref o3), (1, .int p1), (2, .int p2)] := hl
  obtain ⟨H, hH⟩ : ∃ z, z = s.heap := ⟨_, rfl⟩
  refine x_here hH ?_
  have hP : va_P (dC, dI) vwCl [(o1, .inr (1, [.ref a1_0, .ref a1_1, .ref a1_2, .ref a1_3, .ref a1_4, .int v1_5])), (a1_2, .inl (cyI, n1_2, .inl g1_2)), (o3, .inr (3, [.ref o7, .ref o1, .int v3_2, .int v3_3, .int v3_4, .ref a3_5, .ref a3_6, .ref a3_7, .ref a3_8, .ref a3_9, .ref a3_10, .ref a3_11, .ref a3_12, .int v3_13, .int v3_14, .ref a3_15, .ref a3_16])), (a3_6, .inl (cyI, n3_6, .inl g3_6)), (a3_7, .inl (cyI, n3_7, .inl g3_7)), (a3_8, .inl (cyI, n3_8, .inl g3_8)), (a3_9, .inl (cyI, n3_9, .inl g3_9)), (a3_15, .inl (cyI, n3_15, .inl g3_15))] H := by rw [hH]; exact hP
  have hS : va_S (x_new s.heap.size) s.heap H [] := by rw [hH]; exact va_S.rf
  clear hH
  obtain ⟨locs, hlo⟩ : ∃ z : List Loc, z = [] := ⟨_, rfl⟩
  refine x_herl hlo ?_
  have hS : va_S (x_new s.heap.size) s.heap H locs := by rw [hlo]; exact hS
  clear hlo
  unfold f_X3_factOf at hf
  refine lv_iload_n hx hb dX3_factOf_0 rfl (lv_at hl 1 rfl) ?_
  refine lv_if_lt (tgt := 12) hx hb dX3_factOf_1 (by decide) (fun c_1 => ?_) (fun c_1 => ?_)
  · replace hf := x_ip c_1 hf
    refine lv_iconst (v := (-1)) hx hb dX3_factOf_12 (by decide) ?_
    obtain rfl := Option.some.inj hf
    exact W.iret hx hb hr (fun t ht hW => ⟨⟨_, (), rfl, rfl, trivial⟩, hS.F ht⟩) hS.2.2 dX3_factOf_13
  · replace hf := x_in c_1 hf
    refine lv_iload_n hx hb dX3_factOf_4 rfl (lv_at hl 1 rfl) ?_
    refine lv_aload_n hx hb dX3_factOf_5 rfl (lv_at hl 0 rfl) ?_
    refine va_get (D := (dC, dI)) (ci := 3) (v := .int v3_4) (C := RX3) (T := TX3) (N := 17) hx hb hts i_X3_factOf_X3 hown hK hP 2 rfl rfl 4 (by decide) k_1 (fun _ h9 => h9) rfl dX3_factOf_6 ?_
    refine lv_icmp_lt (tgt := 14) hx hb dX3_factOf_9 (by decide) (fun c_2 => ?_) (fun c_2 => ?_)
    · replace hf := x_ip c_2 hf
      refine lv_aload_n hx hb dX3_factOf_14 rfl (lv_at hl 0 rfl) ?_
      refine va_get (D := (dC, dI)) (ci := 3) (v := .ref a3_15) (C := RX3) (T := TX3) (N := 17) hx hb hts i_X3_factOf_X3 hown hK hP 2 rfl rfl 15 (by decide) k_2 (fun _ h9 => h9) rfl dX3_factOf_15 ?_
      refine lv_iload_n hx hb dX3_factOf_18 rfl (lv_at hl 1 rfl) ?_
      obtain ⟨g_3, hf⟩ := x_gu hf
      refine va_iald hx hb hK hP 7 0 rfl rfl (x_gdin g_3) dX3_factOf_19 ?_
      refine lv_istore_n (lv' := [(3, .int (g3_15 (Int32.toNatClampNeg p1))), (0, .ref o3), (1, .int p1), (2, .int p2)]) hx hb dX3_factOf_20 rfl hl (by decide) rfl (fun ls hl => ?_)
      refine lv_iload_n hx hb dX3_factOf_21 rfl (lv_at hl 3 rfl) ?_
      rcases Classical.em (p2 = 0) with c_4 | c_4
      · refine lv_tableIn (off := 26) (tgt := 48) hx hb dX3_factOf_22 (by rw [c_4]; decide) (by rw [c_4]; decide) (by rw [c_4]; decide) (by decide) ?_
        replace hf := x_ip c_4 hf
        refine lv_aload_n hx hb dX3_factOf_48 rfl (lv_at hl 1 rfl) ?_
        refine va_get (D := (dC, dI)) (ci := 3) (v := .ref a3_6) (C := RX3) (T := TX3) (N := 17) hx hb hts i_X3_factOf_X3 hown hK hP 2 rfl rfl 6 (by decide) k_3 (fun _ h9 => h9) rfl dX3_factOf_49 ?_
        refine lv_iload_n hx hb dX3_factOf_52 rfl (lv_at hl 0 rfl) ?_
        obtain ⟨g_5, hf⟩ := x_gu hf
        refine va_iald hx hb hK hP 3 0 rfl rfl (x_gdin g_5) dX3_factOf_53 ?_
        obtain rfl := Option.some.inj hf
        exact W.iret hx hb hr (fun t ht hW => ⟨⟨_, (), rfl, rfl, trivial⟩, hS.F ht⟩) hS.2.2 dX3_factOf_54
      replace hf := x_in c_4 hf
      rcases Classical.em (p2 = 1) with c_6 | c_6
      · refine lv_tableIn (off := 33) (tgt := 55) hx hb dX3_factOf_22 (by rw [c_6]; decide) (by rw [c_6]; decide) (by rw [c_6]; decide) (by decide) ?_
        replace hf := x_ip c_6 hf
        refine lv_aload_n hx hb dX3_factOf_55 rfl (lv_at hl 1 rfl) ?_
        refine va_get (D := (dC, dI)) (ci := 3) (v := .ref o1) (C := RX3) (T := TX3) (N := 17) hx hb hts i_X3_factOf_X3 hown hK hP 2 rfl rfl 1 (by decide) k_4 (fun _ h9 => h9) rfl dX3_factOf_56 ?_
        refine va_getN (D := (dC, dI)) (ci := 1) (v := .ref a1_2) (C := RX1) (T := TX1) (N := 6) hx hb hts i_X3_factOf_X1 hown hK hP 0 rfl rfl 2 (by decide) ((hN.1 ("FlowJudge$Frames", 123, "FlowJudge$Contexts", "lengths", "[I") (List.mem_of_getElem? (i := 34) rfl)).use rfl) (fun _ h9 => h9) rfl dX3_factOf_59 ?_
        refine lv_aload_n hx hb dX3_factOf_62 rfl (lv_at hl 1 rfl) ?_
        refine va_get (D := (dC, dI)) (ci := 3) (v := .ref a3_7) (C := RX3) (T := TX3) (N := 17) hx hb hts i_X3_factOf_X3 hown hK hP 2 rfl rfl 7 (by decide) k_5 (fun _ h9 => h9) rfl dX3_factOf_63 ?_
        refine lv_iload_n hx hb dX3_factOf_66 rfl (lv_at hl 0 rfl) ?_
        obtain ⟨g_7, hf⟩ := x_gu hf
        refine va_iald hx hb hK hP 4 0 rfl rfl (x_gdin g_7) dX3_factOf_67 ?_
        obtain ⟨g_8, hf⟩ := x_gu hf
        refine va_iald hx hb hK hP 1 0 rfl rfl (x_gdin g_8) dX3_factOf_68 ?_
        obtain rfl := Option.some.inj hf
        exact W.iret hx hb hr (fun t ht hW => ⟨⟨_, (), rfl, rfl, trivial⟩, hS.F ht⟩) hS.2.2 dX3_factOf_69
      replace hf := x_in c_6 hf
      rcases Classical.em (p2 = 2) with c_9 | c_9
      · refine lv_tableIn (off := 48) (tgt := 70) hx hb dX3_factOf_22 (by rw [c_9]; decide) (by rw [c_9]; decide) (by rw [c_9]; decide) (by decide) ?_
        replace hf := x_ip c_9 hf
        refine lv_aload_n hx hb dX3_factOf_70 rfl (lv_at hl 1 rfl) ?_
        refine va_get (D := (dC, dI)) (ci := 3) (v := .ref a3_8) (C := RX3) (T := TX3) (N := 17) hx hb hts i_X3_factOf_X3 hown hK hP 2 rfl rfl 8 (by decide) k_6 (fun _ h9 => h9) rfl dX3_factOf_71 ?_
        refine lv_iload_n hx hb dX3_factOf_74 rfl (lv_at hl 0 rfl) ?_
        obtain ⟨g_10, hf⟩ := x_gu hf
        refine va_iald hx hb hK hP 5 0 rfl rfl (x_gdin g_10) dX3_factOf_75 ?_
        obtain rfl := Option.some.inj hf
        exact W.iret hx hb hr (fun t ht hW => ⟨⟨_, (), rfl, rfl, trivial⟩, hS.F ht⟩) hS.2.2 dX3_factOf_76
      replace hf := x_in c_9 hf
      have n_c_4 : ¬ Int32.toInt p2 = 0 := fun h9 => c_4 (Int32.toInt_inj.mp (Eq.trans h9 (by decide : (0 : Int) = Int32.toInt 0)))
      have n_c_6 : ¬ Int32.toInt p2 = 1 := fun h9 => c_6 (Int32.toInt_inj.mp (Eq.trans h9 (by decide : (1 : Int) = Int32.toInt 1)))
      have n_c_9 : ¬ Int32.toInt p2 = 2 := fun h9 => c_9 (Int32.toInt_inj.mp (Eq.trans h9 (by decide : (2 : Int) = Int32.toInt 2)))
      refine lv_tableOut (tgt := 77) hx hb dX3_factOf_22 (by omega) (by decide) ?_
      refine lv_aload_n hx hb dX3_factOf_77 rfl (lv_at hl 1 rfl) ?_
      refine va_get (D := (dC, dI)) (ci := 3) (v := .ref a3_9) (C := RX3) (T := TX3) (N := 17) hx hb hts i_X3_factOf_X3 hown hK hP 2 rfl rfl 9 (by decide) k_7 (fun _ h9 => h9) rfl dX3_factOf_78 ?_
      refine lv_iload_n hx hb dX3_factOf_81 rfl (lv_at hl 0 rfl) ?_
      obtain ⟨g_11, hf⟩ := x_gu hf
      refine va_iald hx hb hK hP 6 0 rfl rfl (x_gdin g_11) dX3_factOf_82 ?_
      obtain rfl := Option.some.inj hf
      exact W.iret hx hb hr (fun t ht hW => ⟨⟨_, (), rfl, rfl, trivial⟩, hS.F ht⟩) hS.2.2 dX3_factOf_83
    · replace hf := x_in c_2 hf
      refine lv_iconst (v := (-1)) hx hb dX3_factOf_12 (by decide) ?_
      obtain rfl := Option.some.inj hf
      exact W.iret hx hb hr (fun t ht hW => ⟨⟨_, (), rfl, rfl, trivial⟩, hS.F ht⟩) hS.2.2 dX3_factOf_13

def f_X3_addressOf (g1_0 : Nat → Int32) (n1_0 : Nat) (g1_1 : Nat → Int32) (n1_1 : Nat) (g1_2 : Nat → Int32) (n1_2 : Nat) (v3_4 : Int32) (g3_7 : Nat → Int32) (n3_7 : Nat) (g3_15 : Nat → Int32) (n3_15 : Nat) (p1 : Int32) (p2 : Int32) : Option (Int32) := if p1 < (0 : Int32) then some (-1) else if v3_4 ≤ p1 then some (-1) else if (0 : Int32) ≤ p2 then if x_gd p1 n3_15 = true then if x_gd (g3_15 (Int32.toNatClampNeg p1)) n3_7 = true then if x_gd (g3_7 (Int32.toNatClampNeg (g3_15 (Int32.toNatClampNeg p1)))) n1_2 = true then if (g1_2 (Int32.toNatClampNeg (g3_7 (Int32.toNatClampNeg (g3_15 (Int32.toNatClampNeg p1)))))) ≤ p2 then some (-1) else (f_X1_addressAt g1_0 n1_0 g1_1 n1_1 g1_2 n1_2 (g3_7 (Int32.toNatClampNeg (g3_15 (Int32.toNatClampNeg p1)))) p2) >>= (fun r_8 => some r_8) else none else none else none else some (-1)
theorem i_X3_addressOf_X1 : ∀ w ∈ wsX10, w ∈ wsX3_addressOf := by decide +kernel
theorem i_X3_addressOf_X3 : ∀ w ∈ wsX30, w ∈ wsX3_addressOf := by decide +kernel
set_option maxHeartbeats 4000000 in
set_option maxRecDepth 100000 in
theorem c_X3_addressOf (l : Launch) (dC : Nat → ClassId) (dI : Nat → Nat → Nat) (cyI cyZ cyJ : ClassId) (sz : Nat) (o1 : Nat) (a1_0 : Nat) (a1_1 : Nat) (a1_2 : Nat) (a1_3 : Nat) (a1_4 : Nat) (v1_5 : Int32) (g1_0 : Nat → Int32) (n1_0 : Nat) (g1_1 : Nat → Int32) (n1_1 : Nat) (g1_2 : Nat → Int32) (n1_2 : Nat) (o3 : Nat) (o7 : Nat) (v3_2 : Int32) (v3_3 : Int32) (v3_4 : Int32) (a3_5 : Nat) (a3_6 : Nat) (a3_7 : Nat) (a3_8 : Nat) (a3_9 : Nat) (a3_10 : Nat) (a3_11 : Nat) (a3_12 : Nat) (v3_13 : Int32) (v3_14 : Int32) (a3_15 : Nat) (a3_16 : Nat) (g3_7 : Nat → Int32) (n3_7 : Nat) (g3_15 : Nat → Int32) (n3_15 : Nat) (p1 : Int32) (p2 : Int32) (R : Int32) (hf : f_X3_addressOf g1_0 n1_0 g1_1 n1_1 g1_2 n1_2 v3_4 g3_7 n3_7 g3_15 n3_15 p1 p2 = some R) : Met l yX3_addressOf wsX3_addressOf ({ frames := 1, cells := 0, slots := 0, locals := 24 }) (va_Pc [.ref o3, .int p1, .int p2] (x_Pre (dC, dI) (x_T cyI cyZ cyJ) [(o1, .inr (1, [.ref a1_0, .ref a1_1, .ref a1_2, .ref a1_3, .ref a1_4, .int v1_5])), (a1_0, .inl (cyI, n1_0, .inl g1_0)), (a1_1, .inl (cyI, n1_1, .inl g1_1)), (a1_2, .inl (cyI, n1_2, .inl g1_2)), (o3, .inr (3, [.ref o7, .ref o1, .int v3_2, .int v3_3, .int v3_4, .ref a3_5, .ref a3_6, .ref a3_7, .ref a3_8, .ref a3_9, .ref a3_10, .ref a3_11, .ref a3_12, .int v3_13, .int v3_14, .ref a3_15, .ref a3_16])), (a3_7, .inl (cyI, n3_7, .inl g3_7)), (a3_15, .inl (cyI, n3_15, .inl g3_15))] sz)) (va_Qi (fun (r : Int32) (_ : Unit) => r = R) (fun _ _ => True) (x_new sz)) 0 0 (x_new sz) := by
  refine Met.ofW (cc := cX3_addressOf) (maxL := 4) (ret := (some .int)) (by decide) rfl ?_
  intro p e s m args below meth c s₁ B hml hv
  obtain ⟨rfl, hsz, hP, hK, hN⟩ := hv
  have hx := B.exec
  have hb := B.bytes
  have hr := B.returns
  have hts := atoms_spec (ws := wsX3_addressOf) B.pre
  have hown : s.vm.findClass RX3 = some m.cls := findClass_of_methodNamed B.named
  have k_1 := hts (.fieldLink RX3 69 "FlowJudge$Frames" "count" "I") (by decide +kernel)
  have k_2 := hts (.fieldLink RX3 18 "FlowJudge$Frames" "ways" "[I") (by decide +kernel)
  have k_3 := hts (.fieldLink RX3 43 "FlowJudge$Frames" "order" "[I") (by decide +kernel)
  have k_4 := hts (.fieldLink RX3 53 "FlowJudge$Frames" "contexts" "LFlowJudge$Contexts;") (by decide +kernel)
  subst hsz
  have hA : ∀ q : Nat, s.heap.size ≤ q → x_new s.heap.size q := fun _ h => h
  have hS : va_S (x_new s.heap.size) s.heap s.heap [] := va_S.rf
  have hP : va_P (dC, dI) vwCl [(o1, .inr (1, [.ref a1_0, .ref a1_1, .ref a1_2, .ref a1_3, .ref a1_4, .int v1_5])), (a1_0, .inl (cyI, n1_0, .inl g1_0)), (a1_1, .inl (cyI, n1_1, .inl g1_1)), (a1_2, .inl (cyI, n1_2, .inl g1_2)), (o3, .inr (3, [.ref o7, .ref o1, .int v3_2, .int v3_3, .int v3_4, .ref a3_5, .ref a3_6, .ref a3_7, .ref a3_8, .ref a3_9, .ref a3_10, .ref a3_11, .ref a3_12, .int v3_13, .int v3_14, .ref a3_15, .ref a3_16])), (a3_7, .inl (cyI, n3_7, .inl g3_7)), (a3_15, .inl (cyI, n3_15, .inl g3_15))] s.heap := hP
  have hl := lv_entry ([.ref o3, .int p1, .int p2]) (n := 4) (Nat.le_of_ble_eq_true rfl)
  rw [lg_entry_eq]
  generalize (lg_sl ([.ref o3, .int p1, .int p2]) ++ List.replicate (4 - (lg_sl ([.ref o3, .int p1, .int p2])).length) Slot.unset).toArray = ls at hl ⊢
  have hl : lv_has ls 4 [(0, .ref o3), (1, .int p1), (2, .int p2)] := hl
  obtain ⟨H, hH⟩ : ∃ z, z = s.heap := ⟨_, rfl⟩
  refine x_here hH ?_
  have hP : va_P (dC, dI) vwCl [(o1, .inr (1, [.ref a1_0, .ref a1_1, .ref a1_2, .ref a1_3, .ref a1_4, .int v1_5])), (a1_0, .inl (cyI, n1_0, .inl g1_0)), (a1_1, .inl (cyI, n1_1, .inl g1_1)), (a1_2, .inl (cyI, n1_2, .inl g1_2)), (o3, .inr (3, [.ref o7, .ref o1, .int v3_2, .int v3_3, .int v3_4, .ref a3_5, .ref a3_6, .ref a3_7, .ref a3_8, .ref a3_9, .ref a3_10, .ref a3_11, .ref a3_12, .int v3_13, .int v3_14, .ref a3_15, .ref a3_16])), (a3_7, .inl (cyI, n3_7, .inl g3_7)), (a3_15, .inl (cyI, n3_15, .inl g3_15))] H := by rw [hH]; exact hP
  have hS : va_S (x_new s.heap.size) s.heap H [] := by rw [hH]; exact va_S.rf
  clear hH
  obtain ⟨locs, hlo⟩ : ∃ z : List Loc, z = [] := ⟨_, rfl⟩
  refine x_herl hlo ?_
  have hS : va_S (x_new s.heap.size) s.heap H locs := by rw [hlo]; exact hS
  clear hlo
  unfold f_X3_addressOf at hf
  refine lv_iload_n hx hb dX3_addressOf_0 rfl (lv_at hl 1 rfl) ?_
  refine lv_if_lt (tgt := 16) hx hb dX3_addressOf_1 (by decide) (fun c_1 => ?_) (fun c_1 => ?_)
  · replace hf := x_ip c_1 hf
    refine lv_iconst (v := (-1)) hx hb dX3_addressOf_16 (by decide) ?_
    obtain rfl := Option.some.inj hf
    exact W.iret hx hb hr (fun t ht hW => ⟨⟨_, (), rfl, rfl, trivial⟩, hS.F ht⟩) hS.2.2 dX3_addressOf_17
  · replace hf := x_in c_1 hf
    refine lv_iload_n hx hb dX3_addressOf_4 rfl (lv_at hl 1 rfl) ?_
    refine lv_aload_n hx hb dX3_addressOf_5 rfl (lv_at hl 0 rfl) ?_
    refine va_get (D := (dC, dI)) (ci := 3) (v := .int v3_4) (C := RX3) (T := TX3) (N := 17) hx hb hts i_X3_addressOf_X3 hown hK hP 4 rfl rfl 4 (by decide) k_1 (fun _ h9 => h9) rfl dX3_addressOf_6 ?_
    refine lv_icmp_ge (tgt := 16) hx hb dX3_addressOf_9 (by decide) (fun c_2 => ?_) (fun c_2 => ?_)
    · replace hf := x_ip c_2 hf
      refine lv_iconst (v := (-1)) hx hb dX3_addressOf_16 (by decide) ?_
      obtain rfl := Option.some.inj hf
      exact W.iret hx hb hr (fun t ht hW => ⟨⟨_, (), rfl, rfl, trivial⟩, hS.F ht⟩) hS.2.2 dX3_addressOf_17
    · replace hf := x_in c_2 hf
      refine lv_iload_n hx hb dX3_addressOf_12 rfl (lv_at hl 2 rfl) ?_
      refine lv_if_ge (tgt := 18) hx hb dX3_addressOf_13 (by decide) (fun c_3 => ?_) (fun c_3 => ?_)
      · replace hf := x_ip c_3 hf
        refine lv_aload_n hx hb dX3_addressOf_18 rfl (lv_at hl 0 rfl) ?_
        refine va_get (D := (dC, dI)) (ci := 3) (v := .ref a3_7) (C := RX3) (T := TX3) (N := 17) hx hb hts i_X3_addressOf_X3 hown hK hP 4 rfl rfl 7 (by decide) k_2 (fun _ h9 => h9) rfl dX3_addressOf_19 ?_
        refine lv_aload_n hx hb dX3_addressOf_22 rfl (lv_at hl 0 rfl) ?_
        refine va_get (D := (dC, dI)) (ci := 3) (v := .ref a3_15) (C := RX3) (T := TX3) (N := 17) hx hb hts i_X3_addressOf_X3 hown hK hP 4 rfl rfl 15 (by decide) k_3 (fun _ h9 => h9) rfl dX3_addressOf_23 ?_
        refine lv_iload_n hx hb dX3_addressOf_26 rfl (lv_at hl 1 rfl) ?_
        obtain ⟨g_4, hf⟩ := x_gu hf
        refine va_iald hx hb hK hP 6 0 rfl rfl (x_gdin g_4) dX3_addressOf_27 ?_
        obtain ⟨g_5, hf⟩ := x_gu hf
        refine va_iald hx hb hK hP 5 0 rfl rfl (x_gdin g_5) dX3_addressOf_28 ?_
        refine lv_istore_n (lv' := [(3, .int (g3_7 (Int32.toNatClampNeg (g3_15 (Int32.toNatClampNeg p1))))), (0, .ref o3), (1, .int p1), (2, .int p2)]) hx hb dX3_addressOf_29 rfl hl (by decide) rfl (fun ls hl => ?_)
        refine lv_iload_n hx hb dX3_addressOf_30 rfl (lv_at hl 3 rfl) ?_
        refine lv_aload_n hx hb dX3_addressOf_31 rfl (lv_at hl 1 rfl) ?_
        refine va_get (D := (dC, dI)) (ci := 3) (v := .ref o1) (C := RX3) (T := TX3) (N := 17) hx hb hts i_X3_addressOf_X3 hown hK hP 4 rfl rfl 1 (by decide) k_4 (fun _ h9 => h9) rfl dX3_addressOf_32 ?_
        refine va_getN (D := (dC, dI)) (ci := 1) (v := .ref a1_2) (C := RX1) (T := TX1) (N := 6) hx hb hts i_X3_addressOf_X1 hown hK hP 0 rfl rfl 2 (by decide) ((hN.1 ("FlowJudge$Frames", 123, "FlowJudge$Contexts", "lengths", "[I") (List.mem_of_getElem? (i := 34) rfl)).use rfl) (fun _ h9 => h9) rfl dX3_addressOf_35 ?_
        refine lv_iload_n hx hb dX3_addressOf_38 rfl (lv_at hl 0 rfl) ?_
        obtain ⟨g_6, hf⟩ := x_gu hf
        refine va_iald hx hb hK hP 3 0 rfl rfl (x_gdin g_6) dX3_addressOf_39 ?_
        refine lv_icmp_ge (tgt := 55) hx hb dX3_addressOf_40 (by decide) (fun c_7 => ?_) (fun c_7 => ?_)
        · replace hf := x_ip c_7 hf
          refine lv_iconst (v := (-1)) hx hb dX3_addressOf_55 (by decide) ?_
          obtain rfl := Option.some.inj hf
          exact W.iret hx hb hr (fun t ht hW => ⟨⟨_, (), rfl, rfl, trivial⟩, hS.F ht⟩) hS.2.2 dX3_addressOf_56
        · replace hf := x_in c_7 hf
          refine lv_aload_n hx hb dX3_addressOf_43 rfl (lv_at hl 1 rfl) ?_
          refine va_get (D := (dC, dI)) (ci := 3) (v := .ref o1) (C := RX3) (T := TX3) (N := 17) hx hb hts i_X3_addressOf_X3 hown hK hP 4 rfl rfl 1 (by decide) k_4 (fun _ h9 => h9) rfl dX3_addressOf_44 ?_
          refine lv_iload_n hx hb dX3_addressOf_47 rfl (lv_at hl 0 rfl) ?_
          refine lv_iload_n hx hb dX3_addressOf_48 rfl (lv_at hl 3 rfl) ?_
          obtain ⟨r_8, h_8, hf⟩ := x_bi hf
          have hPc := hP.sub (ws' := [(o1, .inr (1, [.ref a1_0, .ref a1_1, .ref a1_2, .ref a1_3, .ref a1_4, .int v1_5])), (a1_0, .inl (cyI, n1_0, .inl g1_0)), (a1_1, .inl (cyI, n1_1, .inl g1_1)), (a1_2, .inl (cyI, n1_2, .inl g1_2))]) [0, 1, 2, 3] rfl
          refine va_calli (va_runV (As := [.int (g3_7 (Int32.toNatClampNeg (g3_15 (Int32.toNatClampNeg p1)))), .int p2]) (rest := []) ⟨hx, hb, hml, hown, hts⟩ (c_X1_addressAt l dC dI cyI cyZ cyJ H.size o1 a1_0 a1_1 a1_2 a1_3 a1_4 v1_5 g1_0 n1_0 g1_1 n1_1 g1_2 n1_2 (g3_7 (Int32.toNatClampNeg (g3_15 (Int32.toNatClampNeg p1)))) p2 r_8 h_8) (cwV 2 hts gX3_addressOf_X1_addressAt rfl rfl rfl (by decide +kernel) ⟨Nat.le_of_ble_eq_true rfl, Nat.le_of_ble_eq_true rfl⟩) (x_pV hN hK hPc (ci := 1) (q0 := 0) rfl rfl) rfl rfl hl.1 rfl (lv_room (Nat.le_of_ble_eq_true rfl)) dX3_addressOf_49 ⟨Nat.le_of_ble_eq_true rfl, Nat.le_of_ble_eq_true rfl⟩) hS x_nA (x_nf hA hS) (fun q_8 u t H1 locs ht hvm hw hB hz1 hk1 hS => ?_)
          have hP := x_kp hP hk1
          clear ht hvm hB hz1 hk1 t u hPc
          generalize H1 = H at hP hS ⊢
          obtain rfl := hw.symm
          refine lv_goto (tgt := 56) hx hb dX3_addressOf_52 (by decide) ?_
          obtain rfl := Option.some.inj hf
          exact W.iret hx hb hr (fun t ht hW => ⟨⟨_, (), rfl, rfl, trivial⟩, hS.F ht⟩) hS.2.2 dX3_addressOf_56
      · replace hf := x_in c_3 hf
        refine lv_iconst (v := (-1)) hx hb dX3_addressOf_16 (by decide) ?_
        obtain rfl := Option.some.inj hf
        exact W.iret hx hb hr (fun t ht hW => ⟨⟨_, (), rfl, rfl, trivial⟩, hS.F ht⟩) hS.2.2 dX3_addressOf_17

def f_X3_placeOf (v3_2 : Int32) (v3_3 : Int32) (v3_4 : Int32) (g3_5 : Nat → Int32) (n3_5 : Nat) (g3_8 : Nat → Int32) (n3_8 : Nat) (g3_15 : Nat → Int32) (n3_15 : Nat) (p1 : Int32) (p2 : Int32) : Option (Int32) := if p1 < (0 : Int32) then some (-1) else if v3_4 ≤ p1 then some (-1) else if (0 : Int32) ≤ p2 then if x_gd p1 n3_15 = true then if x_gd (g3_15 (Int32.toNatClampNeg p1)) n3_8 = true then if (v3_2 + (g3_8 (Int32.toNatClampNeg (g3_15 (Int32.toNatClampNeg p1))))) ≤ p2 then some (-1) else if x_gd (((g3_15 (Int32.toNatClampNeg p1)) * v3_3) + p2) n3_5 = true then some (g3_5 (Int32.toNatClampNeg (((g3_15 (Int32.toNatClampNeg p1)) * v3_3) + p2))) else none else none else none else some (-1)
theorem i_X3_placeOf_X3 : ∀ w ∈ wsX30, w ∈ wsX3_placeOf := by decide +kernel
set_option maxHeartbeats 4000000 in
set_option maxRecDepth 100000 in
theorem c_X3_placeOf (l : Launch) (dC : Nat → ClassId) (dI : Nat → Nat → Nat) (cyI cyZ cyJ : ClassId) (sz : Nat) (o3 : Nat) (o7 : Nat) (o1 : Nat) (v3_2 : Int32) (v3_3 : Int32) (v3_4 : Int32) (a3_5 : Nat) (a3_6 : Nat) (a3_7 : Nat) (a3_8 : Nat) (a3_9 : Nat) (a3_10 : Nat) (a3_11 : Nat) (a3_12 : Nat) (v3_13 : Int32) (v3_14 : Int32) (a3_15 : Nat) (a3_16 : Nat) (g3_5 : Nat → Int32) (n3_5 : Nat) (g3_8 : Nat → Int32) (n3_8 : Nat) (g3_15 : Nat → Int32) (n3_15 : Nat) (p1 : Int32) (p2 : Int32) (R : Int32) (hf : f_X3_placeOf v3_2 v3_3 v3_4 g3_5 n3_5 g3_8 n3_8 g3_15 n3_15 p1 p2 = some R) : Met l yX3_placeOf wsX3_placeOf ({ frames := 0, cells := 0, slots := 0, locals := 0 }) (va_Pc [.ref o3, .int p1, .int p2] (x_Pre (dC, dI) (x_T cyI cyZ cyJ) [(o3, .inr (3, [.ref o7, .ref o1, .int v3_2, .int v3_3, .int v3_4, .ref a3_5, .ref a3_6, .ref a3_7, .ref a3_8, .ref a3_9, .ref a3_10, .ref a3_11, .ref a3_12, .int v3_13, .int v3_14, .ref a3_15, .ref a3_16])), (a3_5, .inl (cyI, n3_5, .inl g3_5)), (a3_8, .inl (cyI, n3_8, .inl g3_8)), (a3_15, .inl (cyI, n3_15, .inl g3_15))] sz)) (va_Qi (fun (r : Int32) (_ : Unit) => r = R) (fun _ _ => True) (x_new sz)) 0 0 (x_new sz) := by
  refine Met.ofW (cc := cX3_placeOf) (maxL := 4) (ret := (some .int)) (by decide) rfl ?_
  intro p e s m args below meth c s₁ B hml hv
  obtain ⟨rfl, hsz, hP, hK, hN⟩ := hv
  have hx := B.exec
  have hb := B.bytes
  have hr := B.returns
  have hts := atoms_spec (ws := wsX3_placeOf) B.pre
  have hown : s.vm.findClass RX3 = some m.cls := findClass_of_methodNamed B.named
  have k_1 := hts (.fieldLink RX3 69 "FlowJudge$Frames" "count" "I") (by decide +kernel)
  have k_2 := hts (.fieldLink RX3 43 "FlowJudge$Frames" "order" "[I") (by decide +kernel)
  have k_3 := hts (.fieldLink RX3 63 "FlowJudge$Frames" "locals" "I") (by decide +kernel)
  have k_4 := hts (.fieldLink RX3 21 "FlowJudge$Frames" "heights" "[I") (by decide +kernel)
  have k_5 := hts (.fieldLink RX3 9 "FlowJudge$Frames" "words" "[I") (by decide +kernel)
  have k_6 := hts (.fieldLink RX3 66 "FlowJudge$Frames" "size" "I") (by decide +kernel)
  subst hsz
  have hA : ∀ q : Nat, s.heap.size ≤ q → x_new s.heap.size q := fun _ h => h
  have hS : va_S (x_new s.heap.size) s.heap s.heap [] := va_S.rf
  have hP : va_P (dC, dI) vwCl [(o3, .inr (3, [.ref o7, .ref o1, .int v3_2, .int v3_3, .int v3_4, .ref a3_5, .ref a3_6, .ref a3_7, .ref a3_8, .ref a3_9, .ref a3_10, .ref a3_11, .ref a3_12, .int v3_13, .int v3_14, .ref a3_15, .ref a3_16])), (a3_5, .inl (cyI, n3_5, .inl g3_5)), (a3_8, .inl (cyI, n3_8, .inl g3_8)), (a3_15, .inl (cyI, n3_15, .inl g3_15))] s.heap := hP
  have hl := lv_entry ([.ref o3, .int p1, .int p2]) (n := 4) (Nat.le_of_ble_eq_true rfl)
  rw [lg_entry_eq]
  generalize (lg_sl ([.ref o3, .int p1, .int p2]) ++ List.replicate (4 - (lg_sl ([.ref o3, .int p1, .int p2])).length) Slot.unset).toArray = ls at hl ⊢
  have hl : lv_has ls 4 [(0, .ref o3), (1, .int p1), (2, .int p2)] := hl
  obtain ⟨H, hH⟩ : ∃ z, z = s.heap := ⟨_, rfl⟩
  refine x_here hH ?_
  have hP : va_P (dC, dI) vwCl [(o3, .inr (3, [.ref o7, .ref o1, .int v3_2, .int v3_3, .int v3_4, .ref a3_5, .ref a3_6, .ref a3_7, .ref a3_8, .ref a3_9, .ref a3_10, .ref a3_11, .ref a3_12, .int v3_13, .int v3_14, .ref a3_15, .ref a3_16])), (a3_5, .inl (cyI, n3_5, .inl g3_5)), (a3_8, .inl (cyI, n3_8, .inl g3_8)), (a3_15, .inl (cyI, n3_15, .inl g3_15))] H := by rw [hH]; exact hP
  have hS : va_S (x_new s.heap.size) s.heap H [] := by rw [hH]; exact va_S.rf
  clear hH
  obtain ⟨locs, hlo⟩ : ∃ z : List Loc, z = [] := ⟨_, rfl⟩
  refine x_herl hlo ?_
  have hS : va_S (x_new s.heap.size) s.heap H locs := by rw [hlo]; exact hS
  clear hlo
  unfold f_X3_placeOf at hf
  refine lv_iload_n hx hb dX3_placeOf_0 rfl (lv_at hl 1 rfl) ?_
  refine lv_if_lt (tgt := 16) hx hb dX3_placeOf_1 (by decide) (fun c_1 => ?_) (fun c_1 => ?_)
  · replace hf := x_ip c_1 hf
    refine lv_iconst (v := (-1)) hx hb dX3_placeOf_16 (by decide) ?_
    obtain rfl := Option.some.inj hf
    exact W.iret hx hb hr (fun t ht hW => ⟨⟨_, (), rfl, rfl, trivial⟩, hS.F ht⟩) hS.2.2 dX3_placeOf_17
  · replace hf := x_in c_1 hf
    refine lv_iload_n hx hb dX3_placeOf_4 rfl (lv_at hl 1 rfl) ?_
    refine lv_aload_n hx hb dX3_placeOf_5 rfl (lv_at hl 0 rfl) ?_
    refine va_get (D := (dC, dI)) (ci := 3) (v := .int v3_4) (C := RX3) (T := TX3) (N := 17) hx hb hts i_X3_placeOf_X3 hown hK hP 0 rfl rfl 4 (by decide) k_1 (fun _ h9 => h9) rfl dX3_placeOf_6 ?_
    refine lv_icmp_ge (tgt := 16) hx hb dX3_placeOf_9 (by decide) (fun c_2 => ?_) (fun c_2 => ?_)
    · replace hf := x_ip c_2 hf
      refine lv_iconst (v := (-1)) hx hb dX3_placeOf_16 (by decide) ?_
      obtain rfl := Option.some.inj hf
      exact W.iret hx hb hr (fun t ht hW => ⟨⟨_, (), rfl, rfl, trivial⟩, hS.F ht⟩) hS.2.2 dX3_placeOf_17
    · replace hf := x_in c_2 hf
      refine lv_iload_n hx hb dX3_placeOf_12 rfl (lv_at hl 2 rfl) ?_
      refine lv_if_ge (tgt := 18) hx hb dX3_placeOf_13 (by decide) (fun c_3 => ?_) (fun c_3 => ?_)
      · replace hf := x_ip c_3 hf
        refine lv_aload_n hx hb dX3_placeOf_18 rfl (lv_at hl 0 rfl) ?_
        refine va_get (D := (dC, dI)) (ci := 3) (v := .ref a3_15) (C := RX3) (T := TX3) (N := 17) hx hb hts i_X3_placeOf_X3 hown hK hP 0 rfl rfl 15 (by decide) k_2 (fun _ h9 => h9) rfl dX3_placeOf_19 ?_
        refine lv_iload_n hx hb dX3_placeOf_22 rfl (lv_at hl 1 rfl) ?_
        obtain ⟨g_4, hf⟩ := x_gu hf
        refine va_iald hx hb hK hP 3 0 rfl rfl (x_gdin g_4) dX3_placeOf_23 ?_
        refine lv_istore_n (lv' := [(3, .int (g3_15 (Int32.toNatClampNeg p1))), (0, .ref o3), (1, .int p1), (2, .int p2)]) hx hb dX3_placeOf_24 rfl hl (by decide) rfl (fun ls hl => ?_)
        refine lv_iload_n hx hb dX3_placeOf_25 rfl (lv_at hl 3 rfl) ?_
        refine lv_aload_n hx hb dX3_placeOf_26 rfl (lv_at hl 1 rfl) ?_
        refine va_get (D := (dC, dI)) (ci := 3) (v := .int v3_2) (C := RX3) (T := TX3) (N := 17) hx hb hts i_X3_placeOf_X3 hown hK hP 0 rfl rfl 2 (by decide) k_3 (fun _ h9 => h9) rfl dX3_placeOf_27 ?_
        refine lv_aload_n hx hb dX3_placeOf_30 rfl (lv_at hl 1 rfl) ?_
        refine va_get (D := (dC, dI)) (ci := 3) (v := .ref a3_8) (C := RX3) (T := TX3) (N := 17) hx hb hts i_X3_placeOf_X3 hown hK hP 0 rfl rfl 8 (by decide) k_4 (fun _ h9 => h9) rfl dX3_placeOf_31 ?_
        refine lv_iload_n hx hb dX3_placeOf_34 rfl (lv_at hl 0 rfl) ?_
        obtain ⟨g_5, hf⟩ := x_gu hf
        refine va_iald hx hb hK hP 2 0 rfl rfl (x_gdin g_5) dX3_placeOf_35 ?_
        refine lv_iadd hx hb dX3_placeOf_36 ?_
        refine lv_icmp_ge (tgt := 56) hx hb dX3_placeOf_37 (by decide) (fun c_6 => ?_) (fun c_6 => ?_)
        · replace hf := x_ip c_6 hf
          refine lv_iconst (v := (-1)) hx hb dX3_placeOf_56 (by decide) ?_
          obtain rfl := Option.some.inj hf
          exact W.iret hx hb hr (fun t ht hW => ⟨⟨_, (), rfl, rfl, trivial⟩, hS.F ht⟩) hS.2.2 dX3_placeOf_57
        · replace hf := x_in c_6 hf
          refine lv_aload_n hx hb dX3_placeOf_40 rfl (lv_at hl 1 rfl) ?_
          refine va_get (D := (dC, dI)) (ci := 3) (v := .ref a3_5) (C := RX3) (T := TX3) (N := 17) hx hb hts i_X3_placeOf_X3 hown hK hP 0 rfl rfl 5 (by decide) k_5 (fun _ h9 => h9) rfl dX3_placeOf_41 ?_
          refine lv_iload_n hx hb dX3_placeOf_44 rfl (lv_at hl 0 rfl) ?_
          refine lv_aload_n hx hb dX3_placeOf_45 rfl (lv_at hl 1 rfl) ?_
          refine va_get (D := (dC, dI)) (ci := 3) (v := .int v3_3) (C := RX3) (T := TX3) (N := 17) hx hb hts i_X3_placeOf_X3 hown hK hP 0 rfl rfl 3 (by decide) k_6 (fun _ h9 => h9) rfl dX3_placeOf_46 ?_
          refine lv_imul hx hb dX3_placeOf_49 ?_
          refine lv_iload_n hx hb dX3_placeOf_50 rfl (lv_at hl 3 rfl) ?_
          refine lv_iadd hx hb dX3_placeOf_51 ?_
          obtain ⟨g_7, hf⟩ := x_gu hf
          refine va_iald hx hb hK hP 1 0 rfl rfl (x_gdin g_7) dX3_placeOf_52 ?_
          refine lv_goto (tgt := 57) hx hb dX3_placeOf_53 (by decide) ?_
          obtain rfl := Option.some.inj hf
          exact W.iret hx hb hr (fun t ht hW => ⟨⟨_, (), rfl, rfl, trivial⟩, hS.F ht⟩) hS.2.2 dX3_placeOf_57
      · replace hf := x_in c_3 hf
        refine lv_iconst (v := (-1)) hx hb dX3_placeOf_16 (by decide) ?_
        obtain rfl := Option.some.inj hf
        exact W.iret hx hb hr (fun t ht hW => ⟨⟨_, (), rfl, rfl, trivial⟩, hS.F ht⟩) hS.2.2 dX3_placeOf_17

def f_X5_isWide (p0 : Int32) : Option (Int32) := if p0 = (3 : Int32) then some 1 else if p0 = (4 : Int32) then some 1 else some 0
set_option maxHeartbeats 4000000 in
set_option maxRecDepth 100000 in
theorem c_X5_isWide (l : Launch) (dC : Nat → ClassId) (dI : Nat → Nat → Nat) (cyI cyZ cyJ : ClassId) (sz : Nat) (p0 : Int32) (R : Int32) (hf : f_X5_isWide p0 = some R) : Met l yX5_isWide wsX5_isWide ({ frames := 0, cells := 0, slots := 0, locals := 0 }) (va_Pc [.int p0] (x_Pre (dC, dI) (x_T cyI cyZ cyJ) [] sz)) (va_Qi (fun (r : Int32) (_ : Unit) => r = R ∧ x_nb r) (fun _ _ => True) (x_new sz)) 0 0 (x_new sz) := by
  refine Met.ofW (cc := cX5_isWide) (maxL := 1) (ret := (some .boolean)) (by decide) rfl ?_
  intro p e s m args below meth c s₁ B hml hv
  obtain ⟨rfl, hsz, hP, hK, hN⟩ := hv
  have hx := B.exec
  have hb := B.bytes
  have hr := B.returns
  have hts := atoms_spec (ws := wsX5_isWide) B.pre
  have hown : s.vm.findClass RX5 = some m.cls := findClass_of_methodNamed B.named
  subst hsz
  have hA : ∀ q : Nat, s.heap.size ≤ q → x_new s.heap.size q := fun _ h => h
  have hS : va_S (x_new s.heap.size) s.heap s.heap [] := va_S.rf
  have hP : va_P (dC, dI) vwCl [] s.heap := hP
  have hl := lv_entry ([.int p0]) (n := 1) (Nat.le_of_ble_eq_true rfl)
  rw [lg_entry_eq]
  generalize (lg_sl ([.int p0]) ++ List.replicate (1 - (lg_sl ([.int p0])).length) Slot.unset).toArray = ls at hl ⊢
  have hl : lv_has ls 1 [(0, .int p0)] := hl
  obtain ⟨H, hH⟩ : ∃ z, z = s.heap := ⟨_, rfl⟩
  refine x_here hH ?_
  have hP : va_P (dC, dI) vwCl [] H := by rw [hH]; exact hP
  have hS : va_S (x_new s.heap.size) s.heap H [] := by rw [hH]; exact va_S.rf
  clear hH
  obtain ⟨locs, hlo⟩ : ∃ z : List Loc, z = [] := ⟨_, rfl⟩
  refine x_herl hlo ?_
  have hS : va_S (x_new s.heap.size) s.heap H locs := by rw [hlo]; exact hS
  clear hlo
  unfold f_X5_isWide at hf
  refine lv_iload_n hx hb dX5_isWide_0 rfl (lv_at hl 0 rfl) ?_
  refine lv_iconst (v := 3) hx hb dX5_isWide_1 (by decide) ?_
  refine lv_icmp_eq (tgt := 10) hx hb dX5_isWide_2 (by decide) (fun c_1 => ?_) (fun c_1 => ?_)
  · replace hf := x_ip c_1 hf
    refine lv_iconst (v := 1) hx hb dX5_isWide_10 (by decide) ?_
    refine lv_goto (tgt := 15) hx hb dX5_isWide_11 (by decide) ?_
    obtain rfl := Option.some.inj hf
    exact W.zret (ty := .boolean) hx hb hr rfl (fun t ht hW => ⟨⟨_, (), rfl, ⟨rfl, rfl⟩, trivial⟩, hS.F ht⟩) hS.2.2 dX5_isWide_15
  · replace hf := x_in c_1 hf
    refine lv_iload_n hx hb dX5_isWide_5 rfl (lv_at hl 0 rfl) ?_
    refine lv_iconst (v := 4) hx hb dX5_isWide_6 (by decide) ?_
    refine lv_icmp_ne (tgt := 14) hx hb dX5_isWide_7 (by decide) (fun c_2 => ?_) (fun c_2 => ?_)
    · replace hf := x_in c_2 hf
      refine lv_iconst (v := 0) hx hb dX5_isWide_14 (by decide) ?_
      obtain rfl := Option.some.inj hf
      exact W.zret (ty := .boolean) hx hb hr rfl (fun t ht hW => ⟨⟨_, (), rfl, ⟨rfl, rfl⟩, trivial⟩, hS.F ht⟩) hS.2.2 dX5_isWide_15
    · replace hf := x_ip c_2 hf
      refine lv_iconst (v := 1) hx hb dX5_isWide_10 (by decide) ?_
      refine lv_goto (tgt := 15) hx hb dX5_isWide_11 (by decide) ?_
      obtain rfl := Option.some.inj hf
      exact W.zret (ty := .boolean) hx hb hr rfl (fun t ht hW => ⟨⟨_, (), rfl, ⟨rfl, rfl⟩, trivial⟩, hS.F ht⟩) hS.2.2 dX5_isWide_15

def f_X5_isAnyReference (p0 : Int32) : Option (Int32) := if (p0 &&& 15) = (5 : Int32) then some 1 else if (p0 &&& 15) = (6 : Int32) then some 1 else if (p0 &&& 15) = (8 : Int32) then some 1 else if (p0 &&& 15) = (9 : Int32) then some 1 else some 0
set_option maxHeartbeats 4000000 in
set_option maxRecDepth 100000 in
theorem c_X5_isAnyReference (l : Launch) (dC : Nat → ClassId) (dI : Nat → Nat → Nat) (cyI cyZ cyJ : ClassId) (sz : Nat) (p0 : Int32) (R : Int32) (hf : f_X5_isAnyReference p0 = some R) : Met l yX5_isAnyReference wsX5_isAnyReference ({ frames := 0, cells := 0, slots := 0, locals := 0 }) (va_Pc [.int p0] (x_Pre (dC, dI) (x_T cyI cyZ cyJ) [] sz)) (va_Qi (fun (r : Int32) (_ : Unit) => r = R ∧ x_nb r) (fun _ _ => True) (x_new sz)) 0 0 (x_new sz) := by
  refine Met.ofW (cc := cX5_isAnyReference) (maxL := 2) (ret := (some .boolean)) (by decide) rfl ?_
  intro p e s m args below meth c s₁ B hml hv
  obtain ⟨rfl, hsz, hP, hK, hN⟩ := hv
  have hx := B.exec
  have hb := B.bytes
  have hr := B.returns
  have hts := atoms_spec (ws := wsX5_isAnyReference) B.pre
  have hown : s.vm.findClass RX5 = some m.cls := findClass_of_methodNamed B.named
  subst hsz
  have hA : ∀ q : Nat, s.heap.size ≤ q → x_new s.heap.size q := fun _ h => h
  have hS : va_S (x_new s.heap.size) s.heap s.heap [] := va_S.rf
  have hP : va_P (dC, dI) vwCl [] s.heap := hP
  have hl := lv_entry ([.int p0]) (n := 2) (Nat.le_of_ble_eq_true rfl)
  rw [lg_entry_eq]
  generalize (lg_sl ([.int p0]) ++ List.replicate (2 - (lg_sl ([.int p0])).length) Slot.unset).toArray = ls at hl ⊢
  have hl : lv_has ls 2 [(0, .int p0)] := hl
  obtain ⟨H, hH⟩ : ∃ z, z = s.heap := ⟨_, rfl⟩
  refine x_here hH ?_
  have hP : va_P (dC, dI) vwCl [] H := by rw [hH]; exact hP
  have hS : va_S (x_new s.heap.size) s.heap H [] := by rw [hH]; exact va_S.rf
  clear hH
  obtain ⟨locs, hlo⟩ : ∃ z : List Loc, z = [] := ⟨_, rfl⟩
  refine x_herl hlo ?_
  have hS : va_S (x_new s.heap.size) s.heap H locs := by rw [hlo]; exact hS
  clear hlo
  unfold f_X5_isAnyReference at hf
  refine lv_iload_n hx hb dX5_isAnyReference_0 rfl (lv_at hl 0 rfl) ?_
  refine lv_bipush (v := 15) hx hb dX5_isAnyReference_1 (by decide) ?_
  refine lv_iand hx hb dX5_isAnyReference_3 ?_
  refine lv_istore_n (lv' := [(1, .int (p0 &&& 15)), (0, .int p0)]) hx hb dX5_isAnyReference_4 rfl hl (by decide) rfl (fun ls hl => ?_)
  refine lv_iload_n hx hb dX5_isAnyReference_5 rfl (lv_at hl 0 rfl) ?_
  refine lv_iconst (v := 5) hx hb dX5_isAnyReference_6 (by decide) ?_
  refine lv_icmp_eq (tgt := 28) hx hb dX5_isAnyReference_7 (by decide) (fun c_1 => ?_) (fun c_1 => ?_)
  · replace hf := x_ip c_1 hf
    refine lv_iconst (v := 1) hx hb dX5_isAnyReference_28 (by decide) ?_
    refine lv_goto (tgt := 33) hx hb dX5_isAnyReference_29 (by decide) ?_
    obtain rfl := Option.some.inj hf
    exact W.zret (ty := .boolean) hx hb hr rfl (fun t ht hW => ⟨⟨_, (), rfl, ⟨rfl, rfl⟩, trivial⟩, hS.F ht⟩) hS.2.2 dX5_isAnyReference_33
  · replace hf := x_in c_1 hf
    refine lv_iload_n hx hb dX5_isAnyReference_10 rfl (lv_at hl 0 rfl) ?_
    refine lv_bipush (v := 6) hx hb dX5_isAnyReference_11 (by decide) ?_
    refine lv_icmp_eq (tgt := 28) hx hb dX5_isAnyReference_13 (by decide) (fun c_2 => ?_) (fun c_2 => ?_)
    · replace hf := x_ip c_2 hf
      refine lv_iconst (v := 1) hx hb dX5_isAnyReference_28 (by decide) ?_
      refine lv_goto (tgt := 33) hx hb dX5_isAnyReference_29 (by decide) ?_
      obtain rfl := Option.some.inj hf
      exact W.zret (ty := .boolean) hx hb hr rfl (fun t ht hW => ⟨⟨_, (), rfl, ⟨rfl, rfl⟩, trivial⟩, hS.F ht⟩) hS.2.2 dX5_isAnyReference_33
    · replace hf := x_in c_2 hf
      refine lv_iload_n hx hb dX5_isAnyReference_16 rfl (lv_at hl 0 rfl) ?_
      refine lv_bipush (v := 8) hx hb dX5_isAnyReference_17 (by decide) ?_
      refine lv_icmp_eq (tgt := 28) hx hb dX5_isAnyReference_19 (by decide) (fun c_3 => ?_) (fun c_3 => ?_)
      · replace hf := x_ip c_3 hf
        refine lv_iconst (v := 1) hx hb dX5_isAnyReference_28 (by decide) ?_
        refine lv_goto (tgt := 33) hx hb dX5_isAnyReference_29 (by decide) ?_
        obtain rfl := Option.some.inj hf
        exact W.zret (ty := .boolean) hx hb hr rfl (fun t ht hW => ⟨⟨_, (), rfl, ⟨rfl, rfl⟩, trivial⟩, hS.F ht⟩) hS.2.2 dX5_isAnyReference_33
      · replace hf := x_in c_3 hf
        refine lv_iload_n hx hb dX5_isAnyReference_22 rfl (lv_at hl 0 rfl) ?_
        refine lv_bipush (v := 9) hx hb dX5_isAnyReference_23 (by decide) ?_
        refine lv_icmp_ne (tgt := 32) hx hb dX5_isAnyReference_25 (by decide) (fun c_4 => ?_) (fun c_4 => ?_)
        · replace hf := x_in c_4 hf
          refine lv_iconst (v := 0) hx hb dX5_isAnyReference_32 (by decide) ?_
          obtain rfl := Option.some.inj hf
          exact W.zret (ty := .boolean) hx hb hr rfl (fun t ht hW => ⟨⟨_, (), rfl, ⟨rfl, rfl⟩, trivial⟩, hS.F ht⟩) hS.2.2 dX5_isAnyReference_33
        · replace hf := x_ip c_4 hf
          refine lv_iconst (v := 1) hx hb dX5_isAnyReference_28 (by decide) ?_
          refine lv_goto (tgt := 33) hx hb dX5_isAnyReference_29 (by decide) ?_
          obtain rfl := Option.some.inj hf
          exact W.zret (ty := .boolean) hx hb hr rfl (fun t ht hW => ⟨⟨_, (), rfl, ⟨rfl, rfl⟩, trivial⟩, hS.F ht⟩) hS.2.2 dX5_isAnyReference_33

def f_X5_localAt (v5_2 : Int32) (g5_1 : Nat → Int32) (p1 : Int32) : Option (Int32) := if p1 < (0 : Int32) then some 0 else if v5_2 ≤ p1 then some 0 else if x_gd p1 400 = true then some (g5_1 (Int32.toNatClampNeg p1)) else none
theorem i_X5_localAt_X5 : ∀ w ∈ wsX50, w ∈ wsX5_localAt := by decide +kernel
set_option maxHeartbeats 4000000 in
set_option maxRecDepth 100000 in
theorem c_X5_localAt (l : Launch) (dC : Nat → ClassId) (dI : Nat → Nat → Nat) (cyI cyZ cyJ : ClassId) (sz : Nat) (o5 : Nat) (o7 : Nat) (a5_1 : Nat) (v5_2 : Int32) (v5_3 : Int32) (v5_4 : Int32) (v5_5 : Int32) (v5_6 : Int32) (v5_7 : Int32) (v5_8 : Int32) (v5_9 : Int32) (g5_1 : Nat → Int32) (p1 : Int32) (R : Int32) (hf : f_X5_localAt v5_2 g5_1 p1 = some R) : Met l yX5_localAt wsX5_localAt ({ frames := 0, cells := 0, slots := 0, locals := 0 }) (va_Pc [.ref o5, .int p1] (x_Pre (dC, dI) (x_T cyI cyZ cyJ) [(o5, .inr (5, [.ref o7, .ref a5_1, .int v5_2, .int v5_3, .int v5_4, .int v5_5, .int v5_6, .int v5_7, .int v5_8, .int v5_9])), (a5_1, .inl (cyI, 400, .inl g5_1))] sz)) (va_Qi (fun (r : Int32) (_ : Unit) => r = R) (fun _ _ => True) (x_new sz)) 0 0 (x_new sz) := by
  refine Met.ofW (cc := cX5_localAt) (maxL := 2) (ret := (some .int)) (by decide) rfl ?_
  intro p e s m args below meth c s₁ B hml hv
  obtain ⟨rfl, hsz, hP, hK, hN⟩ := hv
  have hx := B.exec
  have hb := B.bytes
  have hr := B.returns
  have hts := atoms_spec (ws := wsX5_localAt) B.pre
  have hown : s.vm.findClass RX5 = some m.cls := findClass_of_methodNamed B.named
  have k_1 := hts (.fieldLink RX5 25 "FlowJudge$Places" "locals" "I") (by decide +kernel)
  have k_2 := hts (.fieldLink RX5 9 "FlowJudge$Places" "cells" "[I") (by decide +kernel)
  subst hsz
  have hA : ∀ q : Nat, s.heap.size ≤ q → x_new s.heap.size q := fun _ h => h
  have hS : va_S (x_new s.heap.size) s.heap s.heap [] := va_S.rf
  have hP : va_P (dC, dI) vwCl [(o5, .inr (5, [.ref o7, .ref a5_1, .int v5_2, .int v5_3, .int v5_4, .int v5_5, .int v5_6, .int v5_7, .int v5_8, .int v5_9])), (a5_1, .inl (cyI, 400, .inl g5_1))] s.heap := hP
  have hl := lv_entry ([.ref o5, .int p1]) (n := 2) (Nat.le_of_ble_eq_true rfl)
  rw [lg_entry_eq]
  generalize (lg_sl ([.ref o5, .int p1]) ++ List.replicate (2 - (lg_sl ([.ref o5, .int p1])).length) Slot.unset).toArray = ls at hl ⊢
  have hl : lv_has ls 2 [(0, .ref o5), (1, .int p1)] := hl
  obtain ⟨H, hH⟩ : ∃ z, z = s.heap := ⟨_, rfl⟩
  refine x_here hH ?_
  have hP : va_P (dC, dI) vwCl [(o5, .inr (5, [.ref o7, .ref a5_1, .int v5_2, .int v5_3, .int v5_4, .int v5_5, .int v5_6, .int v5_7, .int v5_8, .int v5_9])), (a5_1, .inl (cyI, 400, .inl g5_1))] H := by rw [hH]; exact hP
  have hS : va_S (x_new s.heap.size) s.heap H [] := by rw [hH]; exact va_S.rf
  clear hH
  obtain ⟨locs, hlo⟩ : ∃ z : List Loc, z = [] := ⟨_, rfl⟩
  refine x_herl hlo ?_
  have hS : va_S (x_new s.heap.size) s.heap H locs := by rw [hlo]; exact hS
  clear hlo
  unfold f_X5_localAt at hf
  refine lv_iload_n hx hb dX5_localAt_0 rfl (lv_at hl 1 rfl) ?_
  refine lv_if_lt (tgt := 21) hx hb dX5_localAt_1 (by decide) (fun c_1 => ?_) (fun c_1 => ?_)
  · replace hf := x_ip c_1 hf
    refine lv_iconst (v := 0) hx hb dX5_localAt_21 (by decide) ?_
    obtain rfl := Option.some.inj hf
    exact W.iret hx hb hr (fun t ht hW => ⟨⟨_, (), rfl, rfl, trivial⟩, hS.F ht⟩) hS.2.2 dX5_localAt_22
  · replace hf := x_in c_1 hf
    refine lv_iload_n hx hb dX5_localAt_4 rfl (lv_at hl 1 rfl) ?_
    refine lv_aload_n hx hb dX5_localAt_5 rfl (lv_at hl 0 rfl) ?_
    refine va_get (D := (dC, dI)) (ci := 5) (v := .int v5_2) (C := RX5) (T := TX5) (N := 10) hx hb hts i_X5_localAt_X5 hown hK hP 0 rfl rfl 2 (by decide) k_1 (fun _ h9 => h9) rfl dX5_localAt_6 ?_
    refine lv_icmp_ge (tgt := 21) hx hb dX5_localAt_9 (by decide) (fun c_2 => ?_) (fun c_2 => ?_)
    · replace hf := x_ip c_2 hf
      refine lv_iconst (v := 0) hx hb dX5_localAt_21 (by decide) ?_
      obtain rfl := Option.some.inj hf
      exact W.iret hx hb hr (fun t ht hW => ⟨⟨_, (), rfl, rfl, trivial⟩, hS.F ht⟩) hS.2.2 dX5_localAt_22
    · replace hf := x_in c_2 hf
      refine lv_aload_n hx hb dX5_localAt_12 rfl (lv_at hl 0 rfl) ?_
      refine va_get (D := (dC, dI)) (ci := 5) (v := .ref a5_1) (C := RX5) (T := TX5) (N := 10) hx hb hts i_X5_localAt_X5 hown hK hP 0 rfl rfl 1 (by decide) k_2 (fun _ h9 => h9) rfl dX5_localAt_13 ?_
      refine lv_iload_n hx hb dX5_localAt_16 rfl (lv_at hl 1 rfl) ?_
      obtain ⟨g_3, hf⟩ := x_gu hf
      refine va_iald hx hb hK hP 1 0 rfl rfl (x_gdin g_3) dX5_localAt_17 ?_
      refine lv_goto (tgt := 22) hx hb dX5_localAt_18 (by decide) ?_
      obtain rfl := Option.some.inj hf
      exact W.iret hx hb hr (fun t ht hW => ⟨⟨_, (), rfl, rfl, trivial⟩, hS.F ht⟩) hS.2.2 dX5_localAt_22

