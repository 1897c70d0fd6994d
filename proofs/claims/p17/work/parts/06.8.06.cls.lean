def f_X5_push (v5_3 : Int32) (v5_4 : Int32) (v5_6 : Int32) (g5_1 : Nat → Int32) (p1 : Int32) : Option (Int32 × Int32 × (Nat → Int32)) := (f_X5_isWide p1) >>= (fun r_1 => if r_1 = (0 : Int32) then if (v5_3 + (1 : Int32)) ≤ v5_4 then if x_gd v5_3 400 = true then some (v5_3 + (1 : Int32), v5_6, upd g5_1 (Int32.toNatClampNeg v5_3) p1) else none else some (v5_3, 1, g5_1) else if (v5_3 + (2 : Int32)) ≤ v5_4 then if x_gd v5_3 400 = true then if x_gd (v5_3 + (1 : Int32)) 400 = true then some (v5_3 + (2 : Int32), v5_6, upd (upd g5_1 (Int32.toNatClampNeg v5_3) p1) (Int32.toNatClampNeg (v5_3 + (1 : Int32))) 7) else none else none else some (v5_3, 1, g5_1))
theorem i_X5_push_X5 : ∀ w ∈ wsX50, w ∈ wsX5_push := fun _ h => List.mem_cons_of_mem _ (List.mem_append_right _ h)
set_option maxHeartbeats 4000000 in
set_option maxRecDepth 100000 in
theorem c_X5_push (l : Launch) (dC : Nat → ClassId) (dI : Nat → Nat → Nat) (cyI cyZ cyJ : ClassId) (sz : Nat) (o5 : Nat) (o7 : Nat) (a5_1 : Nat) (v5_2 : Int32) (v5_3 : Int32) (v5_4 : Int32) (v5_5 : Int32) (v5_6 : Int32) (v5_7 : Int32) (v5_8 : Int32) (v5_9 : Int32) (g5_1 : Nat → Int32) (p1 : Int32) (R : Int32 × Int32 × (Nat → Int32)) (hf : f_X5_push v5_3 v5_4 v5_6 g5_1 p1 = some R) : Met l yX5_push wsX5_push ({ frames := 1, cells := 0, slots := 0, locals := 20 }) (va_Pc [.ref o5, .int p1] (x_PreD (dC, dI) (x_T cyI cyZ cyJ) [(o5, .inr (5, [.ref o7, .ref a5_1, .int v5_2, .int v5_3, .int v5_4, .int v5_5, .int v5_6, .int v5_7, .int v5_8, .int v5_9])), (a5_1, .inl (cyI, 400, .inl g5_1))] sz)) (va_Qv (fun _ : Unit => True) (fun (_ : Unit) (t : State) => va_P (dC, dI) vwCl [(o5, .inr (5, [.ref o7, .ref a5_1, .int v5_2, .int (R.1), .int v5_4, .int v5_5, .int (R.2.1), .int v5_7, .int v5_8, .int v5_9])), (a5_1, .inl (cyI, 400, .inl R.2.2))] t.heap ∧ va_K (dC, dI) vwCl (x_T cyI cyZ cyJ) t ∧ va_D (va_A [(o5, .inr (5, [.ref o7, .ref a5_1, .int v5_2, .int v5_3, .int v5_4, .int v5_5, .int v5_6, .int v5_7, .int v5_8, .int v5_9])), (a5_1, .inl (cyI, 400, .inl g5_1))] sz) [(o5, .inr (5, [.ref o7, .ref a5_1, .int v5_2, .int (R.1), .int v5_4, .int v5_5, .int (R.2.1), .int v5_7, .int v5_8, .int v5_9])), (a5_1, .inl (cyI, 400, .inl R.2.2))]) (va_A [(o5, .inr (5, [.ref o7, .ref a5_1, .int v5_2, .int v5_3, .int v5_4, .int v5_5, .int v5_6, .int v5_7, .int v5_8, .int v5_9])), (a5_1, .inl (cyI, 400, .inl g5_1))] sz)) 0 0 (va_A [(o5, .inr (5, [.ref o7, .ref a5_1, .int v5_2, .int v5_3, .int v5_4, .int v5_5, .int v5_6, .int v5_7, .int v5_8, .int v5_9])), (a5_1, .inl (cyI, 400, .inl g5_1))] sz) := by
  refine Met.ofW (cc := cX5_push) (maxL := 3) (ret := none) (by decide) rfl ?_
  intro p e s m args below meth c s₁ B hml hv
  obtain ⟨rfl, ⟨hsz, hP, hK, hN⟩, hD0⟩ := hv
  have hx := B.exec
  have hb := B.bytes
  have hr := B.returns
  have hts := atoms_spec (ws := wsX5_push) B.pre
  have hown : s.vm.findClass RX5 = some m.cls := findClass_of_methodNamed B.named
  have k_1 := hts (.fieldLink RX5 32 "FlowJudge$Places" "top" "I") (by decide +kernel)
  have k_2 := hts (.fieldLink RX5 29 "FlowJudge$Places" "end" "I") (by decide +kernel)
  have k_3 := hts (.fieldLink RX5 9 "FlowJudge$Places" "cells" "[I") (by decide +kernel)
  have k_4 := hts (.fieldLink RX5 38 "FlowJudge$Places" "refused" "Z") (by decide +kernel)
  subst hsz
  have hD := hD0.self (sz := s.heap.size)
  generalize hAe : va_A [(o5, .inr (5, [.ref o7, .ref a5_1, .int v5_2, .int v5_3, .int v5_4, .int v5_5, .int v5_6, .int v5_7, .int v5_8, .int v5_9])), (a5_1, .inl (cyI, 400, .inl g5_1))] s.heap.size = A at hD ⊢
  have hA : ∀ q : Nat, s.heap.size ≤ q → A q := fun q h => by rw [← hAe]; exact Or.inr h
  have hP : va_P (dC, dI) vwCl [(o5, .inr (5, [.ref o7, .ref a5_1, .int v5_2, .int v5_3, .int v5_4, .int v5_5, .int v5_6, .int v5_7, .int v5_8, .int v5_9])), (a5_1, .inl (cyI, 400, .inl g5_1))] s.heap := hP
  have hl := lv_entry ([.ref o5, .int p1]) (n := 3) (Nat.le_of_ble_eq_true rfl)
  rw [lg_entry_eq]
  generalize (lg_sl ([.ref o5, .int p1]) ++ List.replicate (3 - (lg_sl ([.ref o5, .int p1])).length) Slot.unset).toArray = ls at hl ⊢
  have hl : lv_has ls 3 [(0, .ref o5), (1, .int p1)] := hl
  obtain ⟨H, hH⟩ : ∃ z, z = s.heap := ⟨_, rfl⟩
  refine x_here hH ?_
  have hP : va_P (dC, dI) vwCl [(o5, .inr (5, [.ref o7, .ref a5_1, .int v5_2, .int v5_3, .int v5_4, .int v5_5, .int v5_6, .int v5_7, .int v5_8, .int v5_9])), (a5_1, .inl (cyI, 400, .inl g5_1))] H := by rw [hH]; exact hP
  have hS : va_S A s.heap H [] := by rw [hH]; exact va_S.rf
  clear hH
  obtain ⟨locs, hlo⟩ : ∃ z : List Loc, z = [] := ⟨_, rfl⟩
  refine x_herl hlo ?_
  have hS : va_S A s.heap H locs := by rw [hlo]; exact hS
  clear hlo
  unfold f_X5_push at hf
  refine lv_iload_n hx hb dX5_push_0 rfl (lv_at hl 1 rfl) ?_
  obtain ⟨r_1, h_1, hf⟩ := x_bi hf
  have hPc := hP.sub (ws' := []) [] rfl
  refine va_calli (va_runS (As := [.int p1]) (rest := []) ⟨hx, hb, hml, hown, hts⟩ (c_X5_isWide l dC dI cyI cyZ cyJ H.size p1 r_1 h_1) (va_cwS 1 hts gX5_push_X5_isWide rfl rfl rfl (by decide +kernel) ⟨Nat.le_of_ble_eq_true rfl, Nat.le_of_ble_eq_true rfl⟩) (x_pS hN hK hPc) rfl rfl hl.1 rfl (lv_room (Nat.le_of_ble_eq_true rfl)) dX5_push_1 ⟨Nat.le_of_ble_eq_true rfl, Nat.le_of_ble_eq_true rfl⟩) hS x_nA (x_nf hA hS) (fun q_1 u t H1 locs ht hvm hw hB hz1 hk1 hS => ?_)
  have hP := x_kp hP hk1
  clear ht hvm hB hz1 hk1 t u hPc
  generalize H1 = H at hP hS ⊢
  obtain ⟨hw, b_1⟩ := hw
  obtain rfl := hw.symm
  refine lv_if_eq (tgt := 11) hx hb dX5_push_4 (by decide) (fun c_2 => ?_) (fun c_2 => ?_)
  · replace hf := x_ip c_2 hf
    refine lv_iconst (v := 1) hx hb dX5_push_11 (by decide) ?_
    refine lv_istore_n (lv' := [(2, .int 1), (0, .ref o5), (1, .int p1)]) hx hb dX5_push_12 rfl hl (by decide) rfl (fun ls hl => ?_)
    refine lv_aload_n hx hb dX5_push_13 rfl (lv_at hl 1 rfl) ?_
    refine va_get (D := (dC, dI)) (ci := 5) (v := .int v5_3) (C := RX5) (T := TX5) (N := 10) hx hb hts i_X5_push_X5 hown hK hP 0 rfl rfl 3 (by decide) k_1 (fun _ h9 => h9) rfl dX5_push_14 ?_
    refine lv_iload_n hx hb dX5_push_17 rfl (lv_at hl 0 rfl) ?_
    refine lv_iadd hx hb dX5_push_18 ?_
    refine lv_aload_n hx hb dX5_push_19 rfl (lv_at hl 1 rfl) ?_
    refine va_get (D := (dC, dI)) (ci := 5) (v := .int v5_4) (C := RX5) (T := TX5) (N := 10) hx hb hts i_X5_push_X5 hown hK hP 0 rfl rfl 4 (by decide) k_2 (fun _ h9 => h9) rfl dX5_push_20 ?_
    refine lv_icmp_le (tgt := 32) hx hb dX5_push_23 (by decide) (fun c_3 => ?_) (fun c_3 => ?_)
    · replace hf := x_ip c_3 hf
      refine lv_aload_n hx hb dX5_push_32 rfl (lv_at hl 1 rfl) ?_
      refine va_get (D := (dC, dI)) (ci := 5) (v := .ref a5_1) (C := RX5) (T := TX5) (N := 10) hx hb hts i_X5_push_X5 hown hK hP 0 rfl rfl 1 (by decide) k_3 (fun _ h9 => h9) rfl dX5_push_33 ?_
      refine lv_aload_n hx hb dX5_push_36 rfl (lv_at hl 1 rfl) ?_
      refine va_get (D := (dC, dI)) (ci := 5) (v := .int v5_3) (C := RX5) (T := TX5) (N := 10) hx hb hts i_X5_push_X5 hown hK hP 0 rfl rfl 3 (by decide) k_1 (fun _ h9 => h9) rfl dX5_push_37 ?_
      refine lv_iload_n hx hb dX5_push_40 rfl (lv_at hl 2 rfl) ?_
      obtain ⟨g_4, hf⟩ := x_gu hf
      refine va_iast hx hb hK hP hD hS 1 0 rfl rfl (x_gdin g_4) dX5_push_41 (fun H locs hP hD hS => ?_)
      have hP : va_P (dC, dI) vwCl [(o5, .inr (5, [.ref o7, .ref a5_1, .int v5_2, .int v5_3, .int v5_4, .int v5_5, .int v5_6, .int v5_7, .int v5_8, .int v5_9])), (a5_1, .inl (cyI, 400, .inl (upd g5_1 (Int32.toNatClampNeg v5_3) p1)))] H := hP
      have hD : va_D A [(o5, .inr (5, [.ref o7, .ref a5_1, .int v5_2, .int v5_3, .int v5_4, .int v5_5, .int v5_6, .int v5_7, .int v5_8, .int v5_9])), (a5_1, .inl (cyI, 400, .inl (upd g5_1 (Int32.toNatClampNeg v5_3) p1)))] := hD
      refine lv_iload_n hx hb dX5_push_42 rfl (lv_at hl 0 rfl) ?_
      refine lv_iconst (v := 2) hx hb dX5_push_43 (by decide) ?_
      refine lv_icmp_ne (tgt := 60) hx hb dX5_push_44 (by decide) (fun _ => ?_) (fun c_5 => absurd c_5 (by decide))
      refine lv_aload_n hx hb dX5_push_60 rfl (lv_at hl 1 rfl) ?_
      refine lv_dup hx hb dX5_push_61 rfl ?_
      refine va_get (D := (dC, dI)) (ci := 5) (v := .int v5_3) (C := RX5) (T := TX5) (N := 10) hx hb hts i_X5_push_X5 hown hK hP 0 rfl rfl 3 (by decide) k_1 (fun _ h9 => h9) rfl dX5_push_62 ?_
      refine lv_iload_n hx hb dX5_push_65 rfl (lv_at hl 0 rfl) ?_
      refine lv_iadd hx hb dX5_push_66 ?_
      refine va_put (D := (dC, dI)) (ci := 5) (v := .int (v5_3 + (1 : Int32))) (ty := .int) (C := RX5) (T := TX5) (N := 10) hx hb hts i_X5_push_X5 tyX5 tyX5_ok nmX5 hown hK hP hD hS 0 rfl rfl 3 (by decide) k_1 (fun _ h9 => h9) rfl (by decide +kernel) rfl rfl (Nat.le_of_ble_eq_true rfl) dX5_push_67 (fun H locs hP hD hS => ?_)
      have hP : va_P (dC, dI) vwCl [(o5, .inr (5, [.ref o7, .ref a5_1, .int v5_2, .int (v5_3 + (1 : Int32)), .int v5_4, .int v5_5, .int v5_6, .int v5_7, .int v5_8, .int v5_9])), (a5_1, .inl (cyI, 400, .inl (upd g5_1 (Int32.toNatClampNeg v5_3) p1)))] H := hP
      have hD : va_D A [(o5, .inr (5, [.ref o7, .ref a5_1, .int v5_2, .int (v5_3 + (1 : Int32)), .int v5_4, .int v5_5, .int v5_6, .int v5_7, .int v5_8, .int v5_9])), (a5_1, .inl (cyI, 400, .inl (upd g5_1 (Int32.toNatClampNeg v5_3) p1)))] := hD
      obtain rfl := Option.some.inj hf
      have hP9 := hP.sub (ws' := [(o5, .inr (5, [.ref o7, .ref a5_1, .int v5_2, .int (v5_3 + (1 : Int32)), .int v5_4, .int v5_5, .int v5_6, .int v5_7, .int v5_8, .int v5_9])), (a5_1, .inl (cyI, 400, .inl (upd g5_1 (Int32.toNatClampNeg v5_3) p1)))]) [0, 1] rfl
      have hD9 := hD.sub (ws' := [(o5, .inr (5, [.ref o7, .ref a5_1, .int v5_2, .int (v5_3 + (1 : Int32)), .int v5_4, .int v5_5, .int v5_6, .int v5_7, .int v5_8, .int v5_9])), (a5_1, .inl (cyI, 400, .inl (upd g5_1 (Int32.toNatClampNeg v5_3) p1)))]) [0, 1] (by decide) rfl
      exact W.vret hx hb hr (fun t ht hW => ⟨⟨(), rfl, trivial, by rw [ht]; exact hP9, va_K.moved hW.alike hK, hD9⟩, hS.F ht⟩) hS.2.2 dX5_push_70
    · replace hf := x_in c_3 hf
      refine lv_aload_n hx hb dX5_push_26 rfl (lv_at hl 1 rfl) ?_
      refine lv_iconst (v := 1) hx hb dX5_push_27 (by decide) ?_
      refine va_put (D := (dC, dI)) (ci := 5) (v := .int 1) (ty := .boolean) (C := RX5) (T := TX5) (N := 10) hx hb hts i_X5_push_X5 tyX5 tyX5_ok nmX5 hown hK hP hD hS 0 rfl rfl 6 (by decide) k_4 (fun _ h9 => h9) rfl (by decide +kernel) rfl rfl (Nat.le_of_ble_eq_true rfl) dX5_push_28 (fun H locs hP hD hS => ?_)
      have hP : va_P (dC, dI) vwCl [(o5, .inr (5, [.ref o7, .ref a5_1, .int v5_2, .int v5_3, .int v5_4, .int v5_5, .int 1, .int v5_7, .int v5_8, .int v5_9])), (a5_1, .inl (cyI, 400, .inl g5_1))] H := hP
      have hD : va_D A [(o5, .inr (5, [.ref o7, .ref a5_1, .int v5_2, .int v5_3, .int v5_4, .int v5_5, .int 1, .int v5_7, .int v5_8, .int v5_9])), (a5_1, .inl (cyI, 400, .inl g5_1))] := hD
      obtain rfl := Option.some.inj hf
      have hP9 := hP.sub (ws' := [(o5, .inr (5, [.ref o7, .ref a5_1, .int v5_2, .int v5_3, .int v5_4, .int v5_5, .int 1, .int v5_7, .int v5_8, .int v5_9])), (a5_1, .inl (cyI, 400, .inl g5_1))]) [0, 1] rfl
      have hD9 := hD.sub (ws' := [(o5, .inr (5, [.ref o7, .ref a5_1, .int v5_2, .int v5_3, .int v5_4, .int v5_5, .int 1, .int v5_7, .int v5_8, .int v5_9])), (a5_1, .inl (cyI, 400, .inl g5_1))]) [0, 1] (by decide) rfl
      exact W.vret hx hb hr (fun t ht hW => ⟨⟨(), rfl, trivial, by rw [ht]; exact hP9, va_K.moved hW.alike hK, hD9⟩, hS.F ht⟩) hS.2.2 dX5_push_31
  · replace hf := x_in c_2 hf
    refine lv_iconst (v := 2) hx hb dX5_push_7 (by decide) ?_
    refine lv_goto (tgt := 12) hx hb dX5_push_8 (by decide) ?_
    refine lv_istore_n (lv' := [(2, .int 2), (0, .ref o5), (1, .int p1)]) hx hb dX5_push_12 rfl hl (by decide) rfl (fun ls hl => ?_)
    refine lv_aload_n hx hb dX5_push_13 rfl (lv_at hl 1 rfl) ?_
    refine va_get (D := (dC, dI)) (ci := 5) (v := .int v5_3) (C := RX5) (T := TX5) (N := 10) hx hb hts i_X5_push_X5 hown hK hP 0 rfl rfl 3 (by decide) k_1 (fun _ h9 => h9) rfl dX5_push_14 ?_
    refine lv_iload_n hx hb dX5_push_17 rfl (lv_at hl 0 rfl) ?_
    refine lv_iadd hx hb dX5_push_18 ?_
    refine lv_aload_n hx hb dX5_push_19 rfl (lv_at hl 1 rfl) ?_
    refine va_get (D := (dC, dI)) (ci := 5) (v := .int v5_4) (C := RX5) (T := TX5) (N := 10) hx hb hts i_X5_push_X5 hown hK hP 0 rfl rfl 4 (by decide) k_2 (fun _ h9 => h9) rfl dX5_push_20 ?_
    refine lv_icmp_le (tgt := 32) hx hb dX5_push_23 (by decide) (fun c_6 => ?_) (fun c_6 => ?_)
    · replace hf := x_ip c_6 hf
      refine lv_aload_n hx hb dX5_push_32 rfl (lv_at hl 1 rfl) ?_
      refine va_get (D := (dC, dI)) (ci := 5) (v := .ref a5_1) (C := RX5) (T := TX5) (N := 10) hx hb hts i_X5_push_X5 hown hK hP 0 rfl rfl 1 (by decide) k_3 (fun _ h9 => h9) rfl dX5_push_33 ?_
      refine lv_aload_n hx hb dX5_push_36 rfl (lv_at hl 1 rfl) ?_
      refine va_get (D := (dC, dI)) (ci := 5) (v := .int v5_3) (C := RX5) (T := TX5) (N := 10) hx hb hts i_X5_push_X5 hown hK hP 0 rfl rfl 3 (by decide) k_1 (fun _ h9 => h9) rfl dX5_push_37 ?_
      refine lv_iload_n hx hb dX5_push_40 rfl (lv_at hl 2 rfl) ?_
      obtain ⟨g_7, hf⟩ := x_gu hf
      refine va_iast hx hb hK hP hD hS 1 0 rfl rfl (x_gdin g_7) dX5_push_41 (fun H locs hP hD hS => ?_)
      have hP : va_P (dC, dI) vwCl [(o5, .inr (5, [.ref o7, .ref a5_1, .int v5_2, .int v5_3, .int v5_4, .int v5_5, .int v5_6, .int v5_7, .int v5_8, .int v5_9])), (a5_1, .inl (cyI, 400, .inl (upd g5_1 (Int32.toNatClampNeg v5_3) p1)))] H := hP
      have hD : va_D A [(o5, .inr (5, [.ref o7, .ref a5_1, .int v5_2, .int v5_3, .int v5_4, .int v5_5, .int v5_6, .int v5_7, .int v5_8, .int v5_9])), (a5_1, .inl (cyI, 400, .inl (upd g5_1 (Int32.toNatClampNeg v5_3) p1)))] := hD
      refine lv_iload_n hx hb dX5_push_42 rfl (lv_at hl 0 rfl) ?_
      refine lv_iconst (v := 2) hx hb dX5_push_43 (by decide) ?_
      refine lv_icmp_ne (tgt := 60) hx hb dX5_push_44 (by decide) (fun c_8 => absurd (by decide) c_8) (fun _ => ?_)
      refine lv_aload_n hx hb dX5_push_47 rfl (lv_at hl 1 rfl) ?_
      refine va_get (D := (dC, dI)) (ci := 5) (v := .ref a5_1) (C := RX5) (T := TX5) (N := 10) hx hb hts i_X5_push_X5 hown hK hP 0 rfl rfl 1 (by decide) k_3 (fun _ h9 => h9) rfl dX5_push_48 ?_
      refine lv_aload_n hx hb dX5_push_51 rfl (lv_at hl 1 rfl) ?_
      refine va_get (D := (dC, dI)) (ci := 5) (v := .int v5_3) (C := RX5) (T := TX5) (N := 10) hx hb hts i_X5_push_X5 hown hK hP 0 rfl rfl 3 (by decide) k_1 (fun _ h9 => h9) rfl dX5_push_52 ?_
      refine lv_iconst (v := 1) hx hb dX5_push_55 (by decide) ?_
      refine lv_iadd hx hb dX5_push_56 ?_
      refine lv_bipush (v := 7) hx hb dX5_push_57 (by decide) ?_
      obtain ⟨g_9, hf⟩ := x_gu hf
      refine va_iast hx hb hK hP hD hS 1 0 rfl rfl (x_gdin g_9) dX5_push_59 (fun H locs hP hD hS => ?_)
      have hP : va_P (dC, dI) vwCl [(o5, .inr (5, [.ref o7, .ref a5_1, .int v5_2, .int v5_3, .int v5_4, .int v5_5, .int v5_6, .int v5_7, .int v5_8, .int v5_9])), (a5_1, .inl (cyI, 400, .inl (upd (upd g5_1 (Int32.toNatClampNeg v5_3) p1) (Int32.toNatClampNeg (v5_3 + (1 : Int32))) 7)))] H := hP
      have hD : va_D A [(o5, .inr (5, [.ref o7, .ref a5_1, .int v5_2, .int v5_3, .int v5_4, .int v5_5, .int v5_6, .int v5_7, .int v5_8, .int v5_9])), (a5_1, .inl (cyI, 400, .inl (upd (upd g5_1 (Int32.toNatClampNeg v5_3) p1) (Int32.toNatClampNeg (v5_3 + (1 : Int32))) 7)))] := hD
      refine lv_aload_n hx hb dX5_push_60 rfl (lv_at hl 1 rfl) ?_
      refine lv_dup hx hb dX5_push_61 rfl ?_
      refine va_get (D := (dC, dI)) (ci := 5) (v := .int v5_3) (C := RX5) (T := TX5) (N := 10) hx hb hts i_X5_push_X5 hown hK hP 0 rfl rfl 3 (by decide) k_1 (fun _ h9 => h9) rfl dX5_push_62 ?_
      refine lv_iload_n hx hb dX5_push_65 rfl (lv_at hl 0 rfl) ?_
      refine lv_iadd hx hb dX5_push_66 ?_
      refine va_put (D := (dC, dI)) (ci := 5) (v := .int (v5_3 + (2 : Int32))) (ty := .int) (C := RX5) (T := TX5) (N := 10) hx hb hts i_X5_push_X5 tyX5 tyX5_ok nmX5 hown hK hP hD hS 0 rfl rfl 3 (by decide) k_1 (fun _ h9 => h9) rfl (by decide +kernel) rfl rfl (Nat.le_of_ble_eq_true rfl) dX5_push_67 (fun H locs hP hD hS => ?_)
      have hP : va_P (dC, dI) vwCl [(o5, .inr (5, [.ref o7, .ref a5_1, .int v5_2, .int (v5_3 + (2 : Int32)), .int v5_4, .int v5_5, .int v5_6, .int v5_7, .int v5_8, .int v5_9])), (a5_1, .inl (cyI, 400, .inl (upd (upd g5_1 (Int32.toNatClampNeg v5_3) p1) (Int32.toNatClampNeg (v5_3 + (1 : Int32))) 7)))] H := hP
      have hD : va_D A [(o5, .inr (5, [.ref o7, .ref a5_1, .int v5_2, .int (v5_3 + (2 : Int32)), .int v5_4, .int v5_5, .int v5_6, .int v5_7, .int v5_8, .int v5_9])), (a5_1, .inl (cyI, 400, .inl (upd (upd g5_1 (Int32.toNatClampNeg v5_3) p1) (Int32.toNatClampNeg (v5_3 + (1 : Int32))) 7)))] := hD
      obtain rfl := Option.some.inj hf
      have hP9 := hP.sub (ws' := [(o5, .inr (5, [.ref o7, .ref a5_1, .int v5_2, .int (v5_3 + (2 : Int32)), .int v5_4, .int v5_5, .int v5_6, .int v5_7, .int v5_8, .int v5_9])), (a5_1, .inl (cyI, 400, .inl (upd (upd g5_1 (Int32.toNatClampNeg v5_3) p1) (Int32.toNatClampNeg (v5_3 + (1 : Int32))) 7)))]) [0, 1] rfl
      have hD9 := hD.sub (ws' := [(o5, .inr (5, [.ref o7, .ref a5_1, .int v5_2, .int (v5_3 + (2 : Int32)), .int v5_4, .int v5_5, .int v5_6, .int v5_7, .int v5_8, .int v5_9])), (a5_1, .inl (cyI, 400, .inl (upd (upd g5_1 (Int32.toNatClampNeg v5_3) p1) (Int32.toNatClampNeg (v5_3 + (1 : Int32))) 7)))]) [0, 1] (by decide) rfl
      exact W.vret hx hb hr (fun t ht hW => ⟨⟨(), rfl, trivial, by rw [ht]; exact hP9, va_K.moved hW.alike hK, hD9⟩, hS.F ht⟩) hS.2.2 dX5_push_70
    · replace hf := x_in c_6 hf
      refine lv_aload_n hx hb dX5_push_26 rfl (lv_at hl 1 rfl) ?_
      refine lv_iconst (v := 1) hx hb dX5_push_27 (by decide) ?_
      refine va_put (D := (dC, dI)) (ci := 5) (v := .int 1) (ty := .boolean) (C := RX5) (T := TX5) (N := 10) hx hb hts i_X5_push_X5 tyX5 tyX5_ok nmX5 hown hK hP hD hS 0 rfl rfl 6 (by decide) k_4 (fun _ h9 => h9) rfl (by decide +kernel) rfl rfl (Nat.le_of_ble_eq_true rfl) dX5_push_28 (fun H locs hP hD hS => ?_)
      have hP : va_P (dC, dI) vwCl [(o5, .inr (5, [.ref o7, .ref a5_1, .int v5_2, .int v5_3, .int v5_4, .int v5_5, .int 1, .int v5_7, .int v5_8, .int v5_9])), (a5_1, .inl (cyI, 400, .inl g5_1))] H := hP
      have hD : va_D A [(o5, .inr (5, [.ref o7, .ref a5_1, .int v5_2, .int v5_3, .int v5_4, .int v5_5, .int 1, .int v5_7, .int v5_8, .int v5_9])), (a5_1, .inl (cyI, 400, .inl g5_1))] := hD
      obtain rfl := Option.some.inj hf
      have hP9 := hP.sub (ws' := [(o5, .inr (5, [.ref o7, .ref a5_1, .int v5_2, .int v5_3, .int v5_4, .int v5_5, .int 1, .int v5_7, .int v5_8, .int v5_9])), (a5_1, .inl (cyI, 400, .inl g5_1))]) [0, 1] rfl
      have hD9 := hD.sub (ws' := [(o5, .inr (5, [.ref o7, .ref a5_1, .int v5_2, .int v5_3, .int v5_4, .int v5_5, .int 1, .int v5_7, .int v5_8, .int v5_9])), (a5_1, .inl (cyI, 400, .inl g5_1))]) [0, 1] (by decide) rfl
      exact W.vret hx hb hr (fun t ht hW => ⟨⟨(), rfl, trivial, by rw [ht]; exact hP9, va_K.moved hW.alike hK, hD9⟩, hS.F ht⟩) hS.2.2 dX5_push_31

def f_X5_pushType (v5_3 : Int32) (v5_4 : Int32) (v5_6 : Int32) (g5_1 : Nat → Int32) (p1 : Int32) : Option (Int32 × Int32 × (Nat → Int32)) := (f_X7_placeOf p1) >>= (fun r_1 => (f_X5_push v5_3 v5_4 v5_6 g5_1 r_1) >>= (fun r_2 => some (r_2.1, r_2.2.1, r_2.2.2)))
set_option maxHeartbeats 4000000 in
set_option maxRecDepth 100000 in
theorem c_X5_pushType (l : Launch) (dC : Nat → ClassId) (dI : Nat → Nat → Nat) (cyI cyZ cyJ : ClassId) (sz : Nat) (o5 : Nat) (o7 : Nat) (a5_1 : Nat) (v5_2 : Int32) (v5_3 : Int32) (v5_4 : Int32) (v5_5 : Int32) (v5_6 : Int32) (v5_7 : Int32) (v5_8 : Int32) (v5_9 : Int32) (g5_1 : Nat → Int32) (p1 : Int32) (R : Int32 × Int32 × (Nat → Int32)) (hf : f_X5_pushType v5_3 v5_4 v5_6 g5_1 p1 = some R) : Met l yX5_pushType wsX5_pushType ({ frames := 2, cells := 0, slots := 0, locals := 42 }) (va_Pc [.ref o5, .int p1] (x_PreD (dC, dI) (x_T cyI cyZ cyJ) [(o5, .inr (5, [.ref o7, .ref a5_1, .int v5_2, .int v5_3, .int v5_4, .int v5_5, .int v5_6, .int v5_7, .int v5_8, .int v5_9])), (a5_1, .inl (cyI, 400, .inl g5_1))] sz)) (va_Qv (fun _ : Unit => True) (fun (_ : Unit) (t : State) => va_P (dC, dI) vwCl [(o5, .inr (5, [.ref o7, .ref a5_1, .int v5_2, .int (R.1), .int v5_4, .int v5_5, .int (R.2.1), .int v5_7, .int v5_8, .int v5_9])), (a5_1, .inl (cyI, 400, .inl R.2.2))] t.heap ∧ va_K (dC, dI) vwCl (x_T cyI cyZ cyJ) t ∧ va_D (va_A [(o5, .inr (5, [.ref o7, .ref a5_1, .int v5_2, .int v5_3, .int v5_4, .int v5_5, .int v5_6, .int v5_7, .int v5_8, .int v5_9])), (a5_1, .inl (cyI, 400, .inl g5_1))] sz) [(o5, .inr (5, [.ref o7, .ref a5_1, .int v5_2, .int (R.1), .int v5_4, .int v5_5, .int (R.2.1), .int v5_7, .int v5_8, .int v5_9])), (a5_1, .inl (cyI, 400, .inl R.2.2))]) (va_A [(o5, .inr (5, [.ref o7, .ref a5_1, .int v5_2, .int v5_3, .int v5_4, .int v5_5, .int v5_6, .int v5_7, .int v5_8, .int v5_9])), (a5_1, .inl (cyI, 400, .inl g5_1))] sz)) 0 0 (va_A [(o5, .inr (5, [.ref o7, .ref a5_1, .int v5_2, .int v5_3, .int v5_4, .int v5_5, .int v5_6, .int v5_7, .int v5_8, .int v5_9])), (a5_1, .inl (cyI, 400, .inl g5_1))] sz) := by
  refine Met.ofW (cc := cX5_pushType) (maxL := 2) (ret := none) (by decide) rfl ?_
  intro p e s m args below meth c s₁ B hml hv
  obtain ⟨rfl, ⟨hsz, hP, hK, hN⟩, hD0⟩ := hv
  have hx := B.exec
  have hb := B.bytes
  have hr := B.returns
  have hts := atoms_spec (ws := wsX5_pushType) B.pre
  have hown : s.vm.findClass RX5 = some m.cls := findClass_of_methodNamed B.named
  subst hsz
  have hD := hD0.self (sz := s.heap.size)
  generalize hAe : va_A [(o5, .inr (5, [.ref o7, .ref a5_1, .int v5_2, .int v5_3, .int v5_4, .int v5_5, .int v5_6, .int v5_7, .int v5_8, .int v5_9])), (a5_1, .inl (cyI, 400, .inl g5_1))] s.heap.size = A at hD ⊢
  have hA : ∀ q : Nat, s.heap.size ≤ q → A q := fun q h => by rw [← hAe]; exact Or.inr h
  have hP : va_P (dC, dI) vwCl [(o5, .inr (5, [.ref o7, .ref a5_1, .int v5_2, .int v5_3, .int v5_4, .int v5_5, .int v5_6, .int v5_7, .int v5_8, .int v5_9])), (a5_1, .inl (cyI, 400, .inl g5_1))] s.heap := hP
  have hl := lv_entry ([.ref o5, .int p1]) (n := 2) (Nat.le_of_ble_eq_true rfl)
  rw [lg_entry_eq]
  generalize (lg_sl ([.ref o5, .int p1]) ++ List.replicate (2 - (lg_sl ([.ref o5, .int p1])).length) Slot.unset).toArray = ls at hl ⊢
  have hl : lv_has ls 2 [(0, .ref o5), (1, .int p1)] := hl
  obtain ⟨H, hH⟩ : ∃ z, z = s.heap := ⟨_, rfl⟩
  refine x_here hH ?_
  have hP : va_P (dC, dI) vwCl [(o5, .inr (5, [.ref o7, .ref a5_1, .int v5_2, .int v5_3, .int v5_4, .int v5_5, .int v5_6, .int v5_7, .int v5_8, .int v5_9])), (a5_1, .inl (cyI, 400, .inl g5_1))] H := by rw [hH]; exact hP
  have hS : va_S A s.heap H [] := by rw [hH]; exact va_S.rf
  clear hH
  obtain ⟨locs, hlo⟩ : ∃ z : List Loc, z = [] := ⟨_, rfl⟩
  refine x_herl hlo ?_
  have hS : va_S A s.heap H locs := by rw [hlo]; exact hS
  clear hlo
  unfold f_X5_pushType at hf
  refine lv_aload_n hx hb dX5_pushType_0 rfl (lv_at hl 0 rfl) ?_
  refine lv_iload_n hx hb dX5_pushType_1 rfl (lv_at hl 1 rfl) ?_
  obtain ⟨r_1, h_1, hf⟩ := x_bi hf
  have hPc := hP.sub (ws' := []) [] rfl
  refine va_calli (va_runS (As := [.int p1]) (rest := [.ref o5]) ⟨hx, hb, hml, hown, hts⟩ (c_X7_placeOf l dC dI cyI cyZ cyJ H.size p1 r_1 h_1) (va_cwS 1 hts gX5_pushType_X7_placeOf rfl rfl rfl (by decide +kernel) ⟨Nat.le_of_ble_eq_true rfl, Nat.le_of_ble_eq_true rfl⟩) (x_pS hN hK hPc) rfl rfl hl.1 rfl (lv_room (Nat.le_of_ble_eq_true rfl)) dX5_pushType_2 ⟨Nat.le_of_ble_eq_true rfl, Nat.le_of_ble_eq_true rfl⟩) hS x_nA (x_nf hA hS) (fun q_1 u t H1 locs ht hvm hw hB hz1 hk1 hS => ?_)
  have hP := x_kp hP hk1
  clear ht hvm hB hz1 hk1 t u hPc
  generalize H1 = H at hP hS ⊢
  obtain rfl := hw.symm
  obtain ⟨r_2, h_2, hf⟩ := x_bi hf
  have hPc := hP.sub (ws' := [(o5, .inr (5, [.ref o7, .ref a5_1, .int v5_2, .int v5_3, .int v5_4, .int v5_5, .int v5_6, .int v5_7, .int v5_8, .int v5_9])), (a5_1, .inl (cyI, 400, .inl g5_1))]) [0, 1] rfl
  have hDc := hD.sub (ws' := [(o5, .inr (5, [.ref o7, .ref a5_1, .int v5_2, .int v5_3, .int v5_4, .int v5_5, .int v5_6, .int v5_7, .int v5_8, .int v5_9])), (a5_1, .inl (cyI, 400, .inl g5_1))]) [0, 1] (by decide) rfl
  have hFc := va_free (wc := [(o5, .inr (5, [.ref o7, .ref a5_1, .int v5_2, .int v5_3, .int v5_4, .int v5_5, .int v5_6, .int v5_7, .int v5_8, .int v5_9])), (a5_1, .inl (cyI, 400, .inl g5_1))]) hD hS hA [0, 1] rfl
  refine va_callv (va_runV (As := [.int r_1]) (rest := []) ⟨hx, hb, hml, hown, hts⟩ (c_X5_push l dC dI cyI cyZ cyJ H.size o5 o7 a5_1 v5_2 v5_3 v5_4 v5_5 v5_6 v5_7 v5_8 v5_9 g5_1 r_1 r_2 h_2) (cwV 1 hts gX5_pushType_X5_push rfl rfl rfl (by decide +kernel) ⟨Nat.le_of_ble_eq_true rfl, Nat.le_of_ble_eq_true rfl⟩) (x_pVD hN hK hPc hDc (ci := 5) (q0 := 0) rfl rfl) rfl rfl hl.1 rfl (lv_room (Nat.le_of_ble_eq_true rfl)) dX5_pushType_5 ⟨Nat.le_of_ble_eq_true rfl, Nat.le_of_ble_eq_true rfl⟩) hS (fun q _ h => hFc q h) hFc (fun u t H1 locs ht hvm hw hB hz1 hk1 hS => ?_)
  obtain ⟨hP1, hK1, hD1⟩ := hB
  rw [ht] at hP1
  obtain ⟨hP, hD⟩ := va_join (wr := []) (w1 := [(o5, .inr (5, [.ref o7, .ref a5_1, .int v5_2, .int (r_2.1), .int v5_4, .int v5_5, .int (r_2.2.1), .int v5_7, .int v5_8, .int v5_9])), (a5_1, .inl (cyI, 400, .inl r_2.2.2))]) hP hD [0, 1] [] rfl rfl (by decide) (by decide) hk1 hFc hP1 hD1
  clear hz1 hk1 hPc hDc hFc hP1 hK1 hD1 ht hvm t u
  generalize H1 = H at hP hS ⊢
  have hP : va_P (dC, dI) vwCl [(o5, .inr (5, [.ref o7, .ref a5_1, .int v5_2, .int (r_2.1), .int v5_4, .int v5_5, .int (r_2.2.1), .int v5_7, .int v5_8, .int v5_9])), (a5_1, .inl (cyI, 400, .inl r_2.2.2))] H := hP
  have hD : va_D A [(o5, .inr (5, [.ref o7, .ref a5_1, .int v5_2, .int (r_2.1), .int v5_4, .int v5_5, .int (r_2.2.1), .int v5_7, .int v5_8, .int v5_9])), (a5_1, .inl (cyI, 400, .inl r_2.2.2))] := hD
  obtain rfl := Option.some.inj hf
  have hP9 := hP.sub (ws' := [(o5, .inr (5, [.ref o7, .ref a5_1, .int v5_2, .int (r_2.1), .int v5_4, .int v5_5, .int (r_2.2.1), .int v5_7, .int v5_8, .int v5_9])), (a5_1, .inl (cyI, 400, .inl r_2.2.2))]) [0, 1] rfl
  have hD9 := hD.sub (ws' := [(o5, .inr (5, [.ref o7, .ref a5_1, .int v5_2, .int (r_2.1), .int v5_4, .int v5_5, .int (r_2.2.1), .int v5_7, .int v5_8, .int v5_9])), (a5_1, .inl (cyI, 400, .inl r_2.2.2))]) [0, 1] (by decide) rfl
  exact W.vret hx hb hr (fun t ht hW => ⟨⟨(), rfl, trivial, by rw [ht]; exact hP9, va_K.moved hW.alike hK, hD9⟩, hS.F ht⟩) hS.2.2 dX5_pushType_8

def f_X5_pull (v5_2 : Int32) (v5_3 : Int32) (v5_6 : Int32) (g5_1 : Nat → Int32) : Option (Int32 × Int32 × Int32) := if v5_3 ≤ v5_2 then some (0, v5_3, 1) else if x_gd (v5_3 - (1 : Int32)) 400 = true then if (g5_1 (Int32.toNatClampNeg (v5_3 - (1 : Int32)))) = (7 : Int32) then some (0, v5_3, 1) else if x_gd (v5_3 - (1 : Int32)) 400 = true then some (g5_1 (Int32.toNatClampNeg (v5_3 - (1 : Int32))), v5_3 - (1 : Int32), v5_6) else none else none
theorem i_X5_pull_X5 : ∀ w ∈ wsX50, w ∈ wsX5_pull := fun _ h => List.mem_cons_of_mem _ (List.mem_append_right _ h)
set_option maxHeartbeats 4000000 in
set_option maxRecDepth 100000 in
theorem c_X5_pull (l : Launch) (dC : Nat → ClassId) (dI : Nat → Nat → Nat) (cyI cyZ cyJ : ClassId) (sz : Nat) (o5 : Nat) (o7 : Nat) (a5_1 : Nat) (v5_2 : Int32) (v5_3 : Int32) (v5_4 : Int32) (v5_5 : Int32) (v5_6 : Int32) (v5_7 : Int32) (v5_8 : Int32) (v5_9 : Int32) (g5_1 : Nat → Int32) (R : Int32 × Int32 × Int32) (hf : f_X5_pull v5_2 v5_3 v5_6 g5_1 = some R) : Met l yX5_pull wsX5_pull ({ frames := 0, cells := 0, slots := 0, locals := 0 }) (va_Pc [.ref o5] (x_PreD (dC, dI) (x_T cyI cyZ cyJ) [(o5, .inr (5, [.ref o7, .ref a5_1, .int v5_2, .int v5_3, .int v5_4, .int v5_5, .int v5_6, .int v5_7, .int v5_8, .int v5_9])), (a5_1, .inl (cyI, 400, .inl g5_1))] sz)) (va_Qi (fun (r : Int32) (_ : Unit) => r = R.1) (fun (_ : Unit) (t : State) => va_P (dC, dI) vwCl [(o5, .inr (5, [.ref o7, .ref a5_1, .int v5_2, .int (R.2.1), .int v5_4, .int v5_5, .int (R.2.2), .int v5_7, .int v5_8, .int v5_9])), (a5_1, .inl (cyI, 400, .inl g5_1))] t.heap ∧ va_K (dC, dI) vwCl (x_T cyI cyZ cyJ) t ∧ va_D (va_A [(o5, .inr (5, [.ref o7, .ref a5_1, .int v5_2, .int v5_3, .int v5_4, .int v5_5, .int v5_6, .int v5_7, .int v5_8, .int v5_9])), (a5_1, .inl (cyI, 400, .inl g5_1))] sz) [(o5, .inr (5, [.ref o7, .ref a5_1, .int v5_2, .int (R.2.1), .int v5_4, .int v5_5, .int (R.2.2), .int v5_7, .int v5_8, .int v5_9])), (a5_1, .inl (cyI, 400, .inl g5_1))]) (va_A [(o5, .inr (5, [.ref o7, .ref a5_1, .int v5_2, .int v5_3, .int v5_4, .int v5_5, .int v5_6, .int v5_7, .int v5_8, .int v5_9])), (a5_1, .inl (cyI, 400, .inl g5_1))] sz)) 0 0 (va_A [(o5, .inr (5, [.ref o7, .ref a5_1, .int v5_2, .int v5_3, .int v5_4, .int v5_5, .int v5_6, .int v5_7, .int v5_8, .int v5_9])), (a5_1, .inl (cyI, 400, .inl g5_1))] sz) := by
  refine Met.ofW (cc := cX5_pull) (maxL := 1) (ret := (some .int)) (by decide) rfl ?_
  intro p e s m args below meth c s₁ B hml hv
  obtain ⟨rfl, ⟨hsz, hP, hK, hN⟩, hD0⟩ := hv
  have hx := B.exec
  have hb := B.bytes
  have hr := B.returns
  have hts := atoms_spec (ws := wsX5_pull) B.pre
  have hown : s.vm.findClass RX5 = some m.cls := findClass_of_methodNamed B.named
  have k_1 := hts (.fieldLink RX5 32 "FlowJudge$Places" "top" "I") (by decide +kernel)
  have k_2 := hts (.fieldLink RX5 25 "FlowJudge$Places" "locals" "I") (by decide +kernel)
  have k_3 := hts (.fieldLink RX5 38 "FlowJudge$Places" "refused" "Z") (by decide +kernel)
  have k_4 := hts (.fieldLink RX5 9 "FlowJudge$Places" "cells" "[I") (by decide +kernel)
  subst hsz
  have hD := hD0.self (sz := s.heap.size)
  generalize hAe : va_A [(o5, .inr (5, [.ref o7, .ref a5_1, .int v5_2, .int v5_3, .int v5_4, .int v5_5, .int v5_6, .int v5_7, .int v5_8, .int v5_9])), (a5_1, .inl (cyI, 400, .inl g5_1))] s.heap.size = A at hD ⊢
  have hA : ∀ q : Nat, s.heap.size ≤ q → A q := fun q h => by rw [← hAe]; exact Or.inr h
  have hP : va_P (dC, dI) vwCl [(o5, .inr (5, [.ref o7, .ref a5_1, .int v5_2, .int v5_3, .int v5_4, .int v5_5, .int v5_6, .int v5_7, .int v5_8, .int v5_9])), (a5_1, .inl (cyI, 400, .inl g5_1))] s.heap := hP
  have hl := lv_entry ([.ref o5]) (n := 1) (Nat.le_of_ble_eq_true rfl)
  rw [lg_entry_eq]
  generalize (lg_sl ([.ref o5]) ++ List.replicate (1 - (lg_sl ([.ref o5])).length) Slot.unset).toArray = ls at hl ⊢
  have hl : lv_has ls 1 [(0, .ref o5)] := hl
  obtain ⟨H, hH⟩ : ∃ z, z = s.heap := ⟨_, rfl⟩
  refine x_here hH ?_
  have hP : va_P (dC, dI) vwCl [(o5, .inr (5, [.ref o7, .ref a5_1, .int v5_2, .int v5_3, .int v5_4, .int v5_5, .int v5_6, .int v5_7, .int v5_8, .int v5_9])), (a5_1, .inl (cyI, 400, .inl g5_1))] H := by rw [hH]; exact hP
  have hS : va_S A s.heap H [] := by rw [hH]; exact va_S.rf
  clear hH
  obtain ⟨locs, hlo⟩ : ∃ z : List Loc, z = [] := ⟨_, rfl⟩
  refine x_herl hlo ?_
  have hS : va_S A s.heap H locs := by rw [hlo]; exact hS
  clear hlo
  unfold f_X5_pull at hf
  refine lv_aload_n hx hb dX5_pull_0 rfl (lv_at hl 0 rfl) ?_
  refine va_get (D := (dC, dI)) (ci := 5) (v := .int v5_3) (C := RX5) (T := TX5) (N := 10) hx hb hts i_X5_pull_X5 hown hK hP 0 rfl rfl 3 (by decide) k_1 (fun _ h9 => h9) rfl dX5_pull_1 ?_
  refine lv_aload_n hx hb dX5_pull_4 rfl (lv_at hl 0 rfl) ?_
  refine va_get (D := (dC, dI)) (ci := 5) (v := .int v5_2) (C := RX5) (T := TX5) (N := 10) hx hb hts i_X5_pull_X5 hown hK hP 0 rfl rfl 2 (by decide) k_2 (fun _ h9 => h9) rfl dX5_pull_5 ?_
  refine lv_icmp_le (tgt := 27) hx hb dX5_pull_8 (by decide) (fun c_1 => ?_) (fun c_1 => ?_)
  · replace hf := x_ip c_1 hf
    refine lv_aload_n hx hb dX5_pull_27 rfl (lv_at hl 0 rfl) ?_
    refine lv_iconst (v := 1) hx hb dX5_pull_28 (by decide) ?_
    refine va_put (D := (dC, dI)) (ci := 5) (v := .int 1) (ty := .boolean) (C := RX5) (T := TX5) (N := 10) hx hb hts i_X5_pull_X5 tyX5 tyX5_ok nmX5 hown hK hP hD hS 0 rfl rfl 6 (by decide) k_3 (fun _ h9 => h9) rfl (by decide +kernel) rfl rfl (Nat.le_of_ble_eq_true rfl) dX5_pull_29 (fun H locs hP hD hS => ?_)
    have hP : va_P (dC, dI) vwCl [(o5, .inr (5, [.ref o7, .ref a5_1, .int v5_2, .int v5_3, .int v5_4, .int v5_5, .int 1, .int v5_7, .int v5_8, .int v5_9])), (a5_1, .inl (cyI, 400, .inl g5_1))] H := hP
    have hD : va_D A [(o5, .inr (5, [.ref o7, .ref a5_1, .int v5_2, .int v5_3, .int v5_4, .int v5_5, .int 1, .int v5_7, .int v5_8, .int v5_9])), (a5_1, .inl (cyI, 400, .inl g5_1))] := hD
    refine lv_iconst (v := 0) hx hb dX5_pull_32 (by decide) ?_
    obtain rfl := Option.some.inj hf
    have hP9 := hP.sub (ws' := [(o5, .inr (5, [.ref o7, .ref a5_1, .int v5_2, .int v5_3, .int v5_4, .int v5_5, .int 1, .int v5_7, .int v5_8, .int v5_9])), (a5_1, .inl (cyI, 400, .inl g5_1))]) [0, 1] rfl
    have hD9 := hD.sub (ws' := [(o5, .inr (5, [.ref o7, .ref a5_1, .int v5_2, .int v5_3, .int v5_4, .int v5_5, .int 1, .int v5_7, .int v5_8, .int v5_9])), (a5_1, .inl (cyI, 400, .inl g5_1))]) [0, 1] (by decide) rfl
    exact W.iret hx hb hr (fun t ht hW => ⟨⟨_, (), rfl, rfl, by rw [ht]; exact hP9, va_K.moved hW.alike hK, hD9⟩, hS.F ht⟩) hS.2.2 dX5_pull_33
  · replace hf := x_in c_1 hf
    refine lv_aload_n hx hb dX5_pull_11 rfl (lv_at hl 0 rfl) ?_
    refine va_get (D := (dC, dI)) (ci := 5) (v := .ref a5_1) (C := RX5) (T := TX5) (N := 10) hx hb hts i_X5_pull_X5 hown hK hP 0 rfl rfl 1 (by decide) k_4 (fun _ h9 => h9) rfl dX5_pull_12 ?_
    refine lv_aload_n hx hb dX5_pull_15 rfl (lv_at hl 0 rfl) ?_
    refine va_get (D := (dC, dI)) (ci := 5) (v := .int v5_3) (C := RX5) (T := TX5) (N := 10) hx hb hts i_X5_pull_X5 hown hK hP 0 rfl rfl 3 (by decide) k_1 (fun _ h9 => h9) rfl dX5_pull_16 ?_
    refine lv_iconst (v := 1) hx hb dX5_pull_19 (by decide) ?_
    refine lv_isub hx hb dX5_pull_20 ?_
    obtain ⟨g_2, hf⟩ := x_gu hf
    refine va_iald hx hb hK hP 1 0 rfl rfl (x_gdin g_2) dX5_pull_21 ?_
    refine lv_bipush (v := 7) hx hb dX5_pull_22 (by decide) ?_
    refine lv_icmp_ne (tgt := 34) hx hb dX5_pull_24 (by decide) (fun c_3 => ?_) (fun c_3 => ?_)
    · replace hf := x_in c_3 hf
      refine lv_aload_n hx hb dX5_pull_34 rfl (lv_at hl 0 rfl) ?_
      refine lv_dup hx hb dX5_pull_35 rfl ?_
      refine va_get (D := (dC, dI)) (ci := 5) (v := .int v5_3) (C := RX5) (T := TX5) (N := 10) hx hb hts i_X5_pull_X5 hown hK hP 0 rfl rfl 3 (by decide) k_1 (fun _ h9 => h9) rfl dX5_pull_36 ?_
      refine lv_iconst (v := 1) hx hb dX5_pull_39 (by decide) ?_
      refine lv_isub hx hb dX5_pull_40 ?_
      refine va_put (D := (dC, dI)) (ci := 5) (v := .int (v5_3 - (1 : Int32))) (ty := .int) (C := RX5) (T := TX5) (N := 10) hx hb hts i_X5_pull_X5 tyX5 tyX5_ok nmX5 hown hK hP hD hS 0 rfl rfl 3 (by decide) k_1 (fun _ h9 => h9) rfl (by decide +kernel) rfl rfl (Nat.le_of_ble_eq_true rfl) dX5_pull_41 (fun H locs hP hD hS => ?_)
      have hP : va_P (dC, dI) vwCl [(o5, .inr (5, [.ref o7, .ref a5_1, .int v5_2, .int (v5_3 - (1 : Int32)), .int v5_4, .int v5_5, .int v5_6, .int v5_7, .int v5_8, .int v5_9])), (a5_1, .inl (cyI, 400, .inl g5_1))] H := hP
      have hD : va_D A [(o5, .inr (5, [.ref o7, .ref a5_1, .int v5_2, .int (v5_3 - (1 : Int32)), .int v5_4, .int v5_5, .int v5_6, .int v5_7, .int v5_8, .int v5_9])), (a5_1, .inl (cyI, 400, .inl g5_1))] := hD
      refine lv_aload_n hx hb dX5_pull_44 rfl (lv_at hl 0 rfl) ?_
      refine va_get (D := (dC, dI)) (ci := 5) (v := .ref a5_1) (C := RX5) (T := TX5) (N := 10) hx hb hts i_X5_pull_X5 hown hK hP 0 rfl rfl 1 (by decide) k_4 (fun _ h9 => h9) rfl dX5_pull_45 ?_
      refine lv_aload_n hx hb dX5_pull_48 rfl (lv_at hl 0 rfl) ?_
      refine va_get (D := (dC, dI)) (ci := 5) (v := .int (v5_3 - (1 : Int32))) (C := RX5) (T := TX5) (N := 10) hx hb hts i_X5_pull_X5 hown hK hP 0 rfl rfl 3 (by decide) k_1 (fun _ h9 => h9) rfl dX5_pull_49 ?_
      obtain ⟨g_4, hf⟩ := x_gu hf
      refine va_iald hx hb hK hP 1 0 rfl rfl (x_gdin g_4) dX5_pull_52 ?_
      obtain rfl := Option.some.inj hf
      have hP9 := hP.sub (ws' := [(o5, .inr (5, [.ref o7, .ref a5_1, .int v5_2, .int (v5_3 - (1 : Int32)), .int v5_4, .int v5_5, .int v5_6, .int v5_7, .int v5_8, .int v5_9])), (a5_1, .inl (cyI, 400, .inl g5_1))]) [0, 1] rfl
      have hD9 := hD.sub (ws' := [(o5, .inr (5, [.ref o7, .ref a5_1, .int v5_2, .int (v5_3 - (1 : Int32)), .int v5_4, .int v5_5, .int v5_6, .int v5_7, .int v5_8, .int v5_9])), (a5_1, .inl (cyI, 400, .inl g5_1))]) [0, 1] (by decide) rfl
      exact W.iret hx hb hr (fun t ht hW => ⟨⟨_, (), rfl, rfl, by rw [ht]; exact hP9, va_K.moved hW.alike hK, hD9⟩, hS.F ht⟩) hS.2.2 dX5_pull_53
    · replace hf := x_ip c_3 hf
      refine lv_aload_n hx hb dX5_pull_27 rfl (lv_at hl 0 rfl) ?_
      refine lv_iconst (v := 1) hx hb dX5_pull_28 (by decide) ?_
      refine va_put (D := (dC, dI)) (ci := 5) (v := .int 1) (ty := .boolean) (C := RX5) (T := TX5) (N := 10) hx hb hts i_X5_pull_X5 tyX5 tyX5_ok nmX5 hown hK hP hD hS 0 rfl rfl 6 (by decide) k_3 (fun _ h9 => h9) rfl (by decide +kernel) rfl rfl (Nat.le_of_ble_eq_true rfl) dX5_pull_29 (fun H locs hP hD hS => ?_)
      have hP : va_P (dC, dI) vwCl [(o5, .inr (5, [.ref o7, .ref a5_1, .int v5_2, .int v5_3, .int v5_4, .int v5_5, .int 1, .int v5_7, .int v5_8, .int v5_9])), (a5_1, .inl (cyI, 400, .inl g5_1))] H := hP
      have hD : va_D A [(o5, .inr (5, [.ref o7, .ref a5_1, .int v5_2, .int v5_3, .int v5_4, .int v5_5, .int 1, .int v5_7, .int v5_8, .int v5_9])), (a5_1, .inl (cyI, 400, .inl g5_1))] := hD
      refine lv_iconst (v := 0) hx hb dX5_pull_32 (by decide) ?_
      obtain rfl := Option.some.inj hf
      have hP9 := hP.sub (ws' := [(o5, .inr (5, [.ref o7, .ref a5_1, .int v5_2, .int v5_3, .int v5_4, .int v5_5, .int 1, .int v5_7, .int v5_8, .int v5_9])), (a5_1, .inl (cyI, 400, .inl g5_1))]) [0, 1] rfl
      have hD9 := hD.sub (ws' := [(o5, .inr (5, [.ref o7, .ref a5_1, .int v5_2, .int v5_3, .int v5_4, .int v5_5, .int 1, .int v5_7, .int v5_8, .int v5_9])), (a5_1, .inl (cyI, 400, .inl g5_1))]) [0, 1] (by decide) rfl
      exact W.iret hx hb hr (fun t ht hW => ⟨⟨_, (), rfl, rfl, by rw [ht]; exact hP9, va_K.moved hW.alike hK, hD9⟩, hS.F ht⟩) hS.2.2 dX5_pull_33

def f_X5_pullKind (v5_2 : Int32) (v5_3 : Int32) (v5_6 : Int32) (g5_1 : Nat → Int32) (p1 : Int32) : Option (Int32 × Int32) := (f_X5_isWide p1) >>= (fun r_1 => if r_1 = (0 : Int32) then if (v5_3 - (1 : Int32)) < v5_2 then some (v5_3, 1) else if x_gd (v5_3 - (1 : Int32)) 400 = true then if (g5_1 (Int32.toNatClampNeg (v5_3 - (1 : Int32)))) = p1 then some (v5_3 - (1 : Int32), v5_6) else some (v5_3, 1) else none else if (v5_3 - (2 : Int32)) < v5_2 then some (v5_3, 1) else if x_gd (v5_3 - (2 : Int32)) 400 = true then if (g5_1 (Int32.toNatClampNeg (v5_3 - (2 : Int32)))) = p1 then some (v5_3 - (2 : Int32), v5_6) else some (v5_3, 1) else none)
theorem i_X5_pullKind_X5 : ∀ w ∈ wsX50, w ∈ wsX5_pullKind := fun _ h => List.mem_cons_of_mem _ (List.mem_append_right _ h)
set_option maxHeartbeats 4000000 in
set_option maxRecDepth 100000 in
theorem c_X5_pullKind (l : Launch) (dC : Nat → ClassId) (dI : Nat → Nat → Nat) (cyI cyZ cyJ : ClassId) (sz : Nat) (o5 : Nat) (o7 : Nat) (a5_1 : Nat) (v5_2 : Int32) (v5_3 : Int32) (v5_4 : Int32) (v5_5 : Int32) (v5_6 : Int32) (v5_7 : Int32) (v5_8 : Int32) (v5_9 : Int32) (g5_1 : Nat → Int32) (p1 : Int32) (R : Int32 × Int32) (hf : f_X5_pullKind v5_2 v5_3 v5_6 g5_1 p1 = some R) : Met l yX5_pullKind wsX5_pullKind ({ frames := 1, cells := 0, slots := 0, locals := 20 }) (va_Pc [.ref o5, .int p1] (x_PreD (dC, dI) (x_T cyI cyZ cyJ) [(o5, .inr (5, [.ref o7, .ref a5_1, .int v5_2, .int v5_3, .int v5_4, .int v5_5, .int v5_6, .int v5_7, .int v5_8, .int v5_9])), (a5_1, .inl (cyI, 400, .inl g5_1))] sz)) (va_Qv (fun _ : Unit => True) (fun (_ : Unit) (t : State) => va_P (dC, dI) vwCl [(o5, .inr (5, [.ref o7, .ref a5_1, .int v5_2, .int (R.1), .int v5_4, .int v5_5, .int (R.2), .int v5_7, .int v5_8, .int v5_9])), (a5_1, .inl (cyI, 400, .inl g5_1))] t.heap ∧ va_K (dC, dI) vwCl (x_T cyI cyZ cyJ) t ∧ va_D (va_A [(o5, .inr (5, [.ref o7, .ref a5_1, .int v5_2, .int v5_3, .int v5_4, .int v5_5, .int v5_6, .int v5_7, .int v5_8, .int v5_9])), (a5_1, .inl (cyI, 400, .inl g5_1))] sz) [(o5, .inr (5, [.ref o7, .ref a5_1, .int v5_2, .int (R.1), .int v5_4, .int v5_5, .int (R.2), .int v5_7, .int v5_8, .int v5_9])), (a5_1, .inl (cyI, 400, .inl g5_1))]) (va_A [(o5, .inr (5, [.ref o7, .ref a5_1, .int v5_2, .int v5_3, .int v5_4, .int v5_5, .int v5_6, .int v5_7, .int v5_8, .int v5_9])), (a5_1, .inl (cyI, 400, .inl g5_1))] sz)) 0 0 (va_A [(o5, .inr (5, [.ref o7, .ref a5_1, .int v5_2, .int v5_3, .int v5_4, .int v5_5, .int v5_6, .int v5_7, .int v5_8, .int v5_9])), (a5_1, .inl (cyI, 400, .inl g5_1))] sz) := by
  refine Met.ofW (cc := cX5_pullKind) (maxL := 3) (ret := none) (by decide) rfl ?_
  intro p e s m args below meth c s₁ B hml hv
  obtain ⟨rfl, ⟨hsz, hP, hK, hN⟩, hD0⟩ := hv
  have hx := B.exec
  have hb := B.bytes
  have hr := B.returns
  have hts := atoms_spec (ws := wsX5_pullKind) B.pre
  have hown : s.vm.findClass RX5 = some m.cls := findClass_of_methodNamed B.named
  have k_1 := hts (.fieldLink RX5 32 "FlowJudge$Places" "top" "I") (by decide +kernel)
  have k_2 := hts (.fieldLink RX5 25 "FlowJudge$Places" "locals" "I") (by decide +kernel)
  have k_3 := hts (.fieldLink RX5 38 "FlowJudge$Places" "refused" "Z") (by decide +kernel)
  have k_4 := hts (.fieldLink RX5 9 "FlowJudge$Places" "cells" "[I") (by decide +kernel)
  subst hsz
  have hD := hD0.self (sz := s.heap.size)
  generalize hAe : va_A [(o5, .inr (5, [.ref o7, .ref a5_1, .int v5_2, .int v5_3, .int v5_4, .int v5_5, .int v5_6, .int v5_7, .int v5_8, .int v5_9])), (a5_1, .inl (cyI, 400, .inl g5_1))] s.heap.size = A at hD ⊢
  have hA : ∀ q : Nat, s.heap.size ≤ q → A q := fun q h => by rw [← hAe]; exact Or.inr h
  have hP : va_P (dC, dI) vwCl [(o5, .inr (5, [.ref o7, .ref a5_1, .int v5_2, .int v5_3, .int v5_4, .int v5_5, .int v5_6, .int v5_7, .int v5_8, .int v5_9])), (a5_1, .inl (cyI, 400, .inl g5_1))] s.heap := hP
  have hl := lv_entry ([.ref o5, .int p1]) (n := 3) (Nat.le_of_ble_eq_true rfl)
  rw [lg_entry_eq]
  generalize (lg_sl ([.ref o5, .int p1]) ++ List.replicate (3 - (lg_sl ([.ref o5, .int p1])).length) Slot.unset).toArray = ls at hl ⊢
  have hl : lv_has ls 3 [(0, .ref o5), (1, .int p1)] := hl
  obtain ⟨H, hH⟩ : ∃ z, z = s.heap := ⟨_, rfl⟩
  refine x_here hH ?_
  have hP : va_P (dC, dI) vwCl [(o5, .inr (5, [.ref o7, .ref a5_1, .int v5_2, .int v5_3, .int v5_4, .int v5_5, .int v5_6, .int v5_7, .int v5_8, .int v5_9])), (a5_1, .inl (cyI, 400, .inl g5_1))] H := by rw [hH]; exact hP
  have hS : va_S A s.heap H [] := by rw [hH]; exact va_S.rf
  clear hH
  obtain ⟨locs, hlo⟩ : ∃ z : List Loc, z = [] := ⟨_, rfl⟩
  refine x_herl hlo ?_
  have hS : va_S A s.heap H locs := by rw [hlo]; exact hS
  clear hlo
  unfold f_X5_pullKind at hf
  refine lv_iload_n hx hb dX5_pullKind_0 rfl (lv_at hl 1 rfl) ?_
  obtain ⟨r_1, h_1, hf⟩ := x_bi hf
  have hPc := hP.sub (ws' := []) [] rfl
  refine va_calli (va_runS (As := [.int p1]) (rest := []) ⟨hx, hb, hml, hown, hts⟩ (c_X5_isWide l dC dI cyI cyZ cyJ H.size p1 r_1 h_1) (va_cwS 1 hts gX5_pullKind_X5_isWide rfl rfl rfl (by decide +kernel) ⟨Nat.le_of_ble_eq_true rfl, Nat.le_of_ble_eq_true rfl⟩) (x_pS hN hK hPc) rfl rfl hl.1 rfl (lv_room (Nat.le_of_ble_eq_true rfl)) dX5_pullKind_1 ⟨Nat.le_of_ble_eq_true rfl, Nat.le_of_ble_eq_true rfl⟩) hS x_nA (x_nf hA hS) (fun q_1 u t H1 locs ht hvm hw hB hz1 hk1 hS => ?_)
  have hP := x_kp hP hk1
  clear ht hvm hB hz1 hk1 t u hPc
  generalize H1 = H at hP hS ⊢
  obtain ⟨hw, b_1⟩ := hw
  obtain rfl := hw.symm
  refine lv_if_eq (tgt := 11) hx hb dX5_pullKind_4 (by decide) (fun c_2 => ?_) (fun c_2 => ?_)
  · replace hf := x_ip c_2 hf
    refine lv_iconst (v := 1) hx hb dX5_pullKind_11 (by decide) ?_
    refine lv_istore_n (lv' := [(2, .int 1), (0, .ref o5), (1, .int p1)]) hx hb dX5_pullKind_12 rfl hl (by decide) rfl (fun ls hl => ?_)
    refine lv_aload_n hx hb dX5_pullKind_13 rfl (lv_at hl 1 rfl) ?_
    refine va_get (D := (dC, dI)) (ci := 5) (v := .int v5_3) (C := RX5) (T := TX5) (N := 10) hx hb hts i_X5_pullKind_X5 hown hK hP 0 rfl rfl 3 (by decide) k_1 (fun _ h9 => h9) rfl dX5_pullKind_14 ?_
    refine lv_iload_n hx hb dX5_pullKind_17 rfl (lv_at hl 0 rfl) ?_
    refine lv_isub hx hb dX5_pullKind_18 ?_
    refine lv_aload_n hx hb dX5_pullKind_19 rfl (lv_at hl 1 rfl) ?_
    refine va_get (D := (dC, dI)) (ci := 5) (v := .int v5_2) (C := RX5) (T := TX5) (N := 10) hx hb hts i_X5_pullKind_X5 hown hK hP 0 rfl rfl 2 (by decide) k_2 (fun _ h9 => h9) rfl dX5_pullKind_20 ?_
    refine lv_icmp_lt (tgt := 41) hx hb dX5_pullKind_23 (by decide) (fun c_3 => ?_) (fun c_3 => ?_)
    · replace hf := x_ip c_3 hf
      refine lv_aload_n hx hb dX5_pullKind_41 rfl (lv_at hl 1 rfl) ?_
      refine lv_iconst (v := 1) hx hb dX5_pullKind_42 (by decide) ?_
      refine va_put (D := (dC, dI)) (ci := 5) (v := .int 1) (ty := .boolean) (C := RX5) (T := TX5) (N := 10) hx hb hts i_X5_pullKind_X5 tyX5 tyX5_ok nmX5 hown hK hP hD hS 0 rfl rfl 6 (by decide) k_3 (fun _ h9 => h9) rfl (by decide +kernel) rfl rfl (Nat.le_of_ble_eq_true rfl) dX5_pullKind_43 (fun H locs hP hD hS => ?_)
      have hP : va_P (dC, dI) vwCl [(o5, .inr (5, [.ref o7, .ref a5_1, .int v5_2, .int v5_3, .int v5_4, .int v5_5, .int 1, .int v5_7, .int v5_8, .int v5_9])), (a5_1, .inl (cyI, 400, .inl g5_1))] H := hP
      have hD : va_D A [(o5, .inr (5, [.ref o7, .ref a5_1, .int v5_2, .int v5_3, .int v5_4, .int v5_5, .int 1, .int v5_7, .int v5_8, .int v5_9])), (a5_1, .inl (cyI, 400, .inl g5_1))] := hD
      obtain rfl := Option.some.inj hf
      have hP9 := hP.sub (ws' := [(o5, .inr (5, [.ref o7, .ref a5_1, .int v5_2, .int v5_3, .int v5_4, .int v5_5, .int 1, .int v5_7, .int v5_8, .int v5_9])), (a5_1, .inl (cyI, 400, .inl g5_1))]) [0, 1] rfl
      have hD9 := hD.sub (ws' := [(o5, .inr (5, [.ref o7, .ref a5_1, .int v5_2, .int v5_3, .int v5_4, .int v5_5, .int 1, .int v5_7, .int v5_8, .int v5_9])), (a5_1, .inl (cyI, 400, .inl g5_1))]) [0, 1] (by decide) rfl
      exact W.vret hx hb hr (fun t ht hW => ⟨⟨(), rfl, trivial, by rw [ht]; exact hP9, va_K.moved hW.alike hK, hD9⟩, hS.F ht⟩) hS.2.2 dX5_pullKind_46
    · replace hf := x_in c_3 hf
      refine lv_aload_n hx hb dX5_pullKind_26 rfl (lv_at hl 1 rfl) ?_
      refine va_get (D := (dC, dI)) (ci := 5) (v := .ref a5_1) (C := RX5) (T := TX5) (N := 10) hx hb hts i_X5_pullKind_X5 hown hK hP 0 rfl rfl 1 (by decide) k_4 (fun _ h9 => h9) rfl dX5_pullKind_27 ?_
      refine lv_aload_n hx hb dX5_pullKind_30 rfl (lv_at hl 1 rfl) ?_
      refine va_get (D := (dC, dI)) (ci := 5) (v := .int v5_3) (C := RX5) (T := TX5) (N := 10) hx hb hts i_X5_pullKind_X5 hown hK hP 0 rfl rfl 3 (by decide) k_1 (fun _ h9 => h9) rfl dX5_pullKind_31 ?_
      refine lv_iload_n hx hb dX5_pullKind_34 rfl (lv_at hl 0 rfl) ?_
      refine lv_isub hx hb dX5_pullKind_35 ?_
      obtain ⟨g_4, hf⟩ := x_gu hf
      refine va_iald hx hb hK hP 1 0 rfl rfl (x_gdin g_4) dX5_pullKind_36 ?_
      refine lv_iload_n hx hb dX5_pullKind_37 rfl (lv_at hl 2 rfl) ?_
      refine lv_icmp_eq (tgt := 47) hx hb dX5_pullKind_38 (by decide) (fun c_5 => ?_) (fun c_5 => ?_)
      · replace hf := x_ip c_5 hf
        refine lv_aload_n hx hb dX5_pullKind_47 rfl (lv_at hl 1 rfl) ?_
        refine lv_dup hx hb dX5_pullKind_48 rfl ?_
        refine va_get (D := (dC, dI)) (ci := 5) (v := .int v5_3) (C := RX5) (T := TX5) (N := 10) hx hb hts i_X5_pullKind_X5 hown hK hP 0 rfl rfl 3 (by decide) k_1 (fun _ h9 => h9) rfl dX5_pullKind_49 ?_
        refine lv_iload_n hx hb dX5_pullKind_52 rfl (lv_at hl 0 rfl) ?_
        refine lv_isub hx hb dX5_pullKind_53 ?_
        refine va_put (D := (dC, dI)) (ci := 5) (v := .int (v5_3 - (1 : Int32))) (ty := .int) (C := RX5) (T := TX5) (N := 10) hx hb hts i_X5_pullKind_X5 tyX5 tyX5_ok nmX5 hown hK hP hD hS 0 rfl rfl 3 (by decide) k_1 (fun _ h9 => h9) rfl (by decide +kernel) rfl rfl (Nat.le_of_ble_eq_true rfl) dX5_pullKind_54 (fun H locs hP hD hS => ?_)
        have hP : va_P (dC, dI) vwCl [(o5, .inr (5, [.ref o7, .ref a5_1, .int v5_2, .int (v5_3 - (1 : Int32)), .int v5_4, .int v5_5, .int v5_6, .int v5_7, .int v5_8, .int v5_9])), (a5_1, .inl (cyI, 400, .inl g5_1))] H := hP
        have hD : va_D A [(o5, .inr (5, [.ref o7, .ref a5_1, .int v5_2, .int (v5_3 - (1 : Int32)), .int v5_4, .int v5_5, .int v5_6, .int v5_7, .int v5_8, .int v5_9])), (a5_1, .inl (cyI, 400, .inl g5_1))] := hD
        obtain rfl := Option.some.inj hf
        have hP9 := hP.sub (ws' := [(o5, .inr (5, [.ref o7, .ref a5_1, .int v5_2, .int (v5_3 - (1 : Int32)), .int v5_4, .int v5_5, .int v5_6, .int v5_7, .int v5_8, .int v5_9])), (a5_1, .inl (cyI, 400, .inl g5_1))]) [0, 1] rfl
        have hD9 := hD.sub (ws' := [(o5, .inr (5, [.ref o7, .ref a5_1, .int v5_2, .int (v5_3 - (1 : Int32)), .int v5_4, .int v5_5, .int v5_6, .int v5_7, .int v5_8, .int v5_9])), (a5_1, .inl (cyI, 400, .inl g5_1))]) [0, 1] (by decide) rfl
        exact W.vret hx hb hr (fun t ht hW => ⟨⟨(), rfl, trivial, by rw [ht]; exact hP9, va_K.moved hW.alike hK, hD9⟩, hS.F ht⟩) hS.2.2 dX5_pullKind_57
      · replace hf := x_in c_5 hf
        refine lv_aload_n hx hb dX5_pullKind_41 rfl (lv_at hl 1 rfl) ?_
        refine lv_iconst (v := 1) hx hb dX5_pullKind_42 (by decide) ?_
        refine va_put (D := (dC, dI)) (ci := 5) (v := .int 1) (ty := .boolean) (C := RX5) (T := TX5) (N := 10) hx hb hts i_X5_pullKind_X5 tyX5 tyX5_ok nmX5 hown hK hP hD hS 0 rfl rfl 6 (by decide) k_3 (fun _ h9 => h9) rfl (by decide +kernel) rfl rfl (Nat.le_of_ble_eq_true rfl) dX5_pullKind_43 (fun H locs hP hD hS => ?_)
        have hP : va_P (dC, dI) vwCl [(o5, .inr (5, [.ref o7, .ref a5_1, .int v5_2, .int v5_3, .int v5_4, .int v5_5, .int 1, .int v5_7, .int v5_8, .int v5_9])), (a5_1, .inl (cyI, 400, .inl g5_1))] H := hP
        have hD : va_D A [(o5, .inr (5, [.ref o7, .ref a5_1, .int v5_2, .int v5_3, .int v5_4, .int v5_5, .int 1, .int v5_7, .int v5_8, .int v5_9])), (a5_1, .inl (cyI, 400, .inl g5_1))] := hD
        obtain rfl := Option.some.inj hf
        have hP9 := hP.sub (ws' := [(o5, .inr (5, [.ref o7, .ref a5_1, .int v5_2, .int v5_3, .int v5_4, .int v5_5, .int 1, .int v5_7, .int v5_8, .int v5_9])), (a5_1, .inl (cyI, 400, .inl g5_1))]) [0, 1] rfl
        have hD9 := hD.sub (ws' := [(o5, .inr (5, [.ref o7, .ref a5_1, .int v5_2, .int v5_3, .int v5_4, .int v5_5, .int 1, .int v5_7, .int v5_8, .int v5_9])), (a5_1, .inl (cyI, 400, .inl g5_1))]) [0, 1] (by decide) rfl
        exact W.vret hx hb hr (fun t ht hW => ⟨⟨(), rfl, trivial, by rw [ht]; exact hP9, va_K.moved hW.alike hK, hD9⟩, hS.F ht⟩) hS.2.2 dX5_pullKind_46
  · replace hf := x_in c_2 hf
    refine lv_iconst (v := 2) hx hb dX5_pullKind_7 (by decide) ?_
    refine lv_goto (tgt := 12) hx hb dX5_pullKind_8 (by decide) ?_
    refine lv_istore_n (lv' := [(2, .int 2), (0, .ref o5), (1, .int p1)]) hx hb dX5_pullKind_12 rfl hl (by decide) rfl (fun ls hl => ?_)
    refine lv_aload_n hx hb dX5_pullKind_13 rfl (lv_at hl 1 rfl) ?_
    refine va_get (D := (dC, dI)) (ci := 5) (v := .int v5_3) (C := RX5) (T := TX5) (N := 10) hx hb hts i_X5_pullKind_X5 hown hK hP 0 rfl rfl 3 (by decide) k_1 (fun _ h9 => h9) rfl dX5_pullKind_14 ?_
    refine lv_iload_n hx hb dX5_pullKind_17 rfl (lv_at hl 0 rfl) ?_
    refine lv_isub hx hb dX5_pullKind_18 ?_
    refine lv_aload_n hx hb dX5_pullKind_19 rfl (lv_at hl 1 rfl) ?_
    refine va_get (D := (dC, dI)) (ci := 5) (v := .int v5_2) (C := RX5) (T := TX5) (N := 10) hx hb hts i_X5_pullKind_X5 hown hK hP 0 rfl rfl 2 (by decide) k_2 (fun _ h9 => h9) rfl dX5_pullKind_20 ?_
    refine lv_icmp_lt (tgt := 41) hx hb dX5_pullKind_23 (by decide) (fun c_6 => ?_) (fun c_6 => ?_)
    · replace hf := x_ip c_6 hf
      refine lv_aload_n hx hb dX5_pullKind_41 rfl (lv_at hl 1 rfl) ?_
      refine lv_iconst (v := 1) hx hb dX5_pullKind_42 (by decide) ?_
      refine va_put (D := (dC, dI)) (ci := 5) (v := .int 1) (ty := .boolean) (C := RX5) (T := TX5) (N := 10) hx hb hts i_X5_pullKind_X5 tyX5 tyX5_ok nmX5 hown hK hP hD hS 0 rfl rfl 6 (by decide) k_3 (fun _ h9 => h9) rfl (by decide +kernel) rfl rfl (Nat.le_of_ble_eq_true rfl) dX5_pullKind_43 (fun H locs hP hD hS => ?_)
      have hP : va_P (dC, dI) vwCl [(o5, .inr (5, [.ref o7, .ref a5_1, .int v5_2, .int v5_3, .int v5_4, .int v5_5, .int 1, .int v5_7, .int v5_8, .int v5_9])), (a5_1, .inl (cyI, 400, .inl g5_1))] H := hP
      have hD : va_D A [(o5, .inr (5, [.ref o7, .ref a5_1, .int v5_2, .int v5_3, .int v5_4, .int v5_5, .int 1, .int v5_7, .int v5_8, .int v5_9])), (a5_1, .inl (cyI, 400, .inl g5_1))] := hD
      obtain rfl := Option.some.inj hf
      have hP9 := hP.sub (ws' := [(o5, .inr (5, [.ref o7, .ref a5_1, .int v5_2, .int v5_3, .int v5_4, .int v5_5, .int 1, .int v5_7, .int v5_8, .int v5_9])), (a5_1, .inl (cyI, 400, .inl g5_1))]) [0, 1] rfl
      have hD9 := hD.sub (ws' := [(o5, .inr (5, [.ref o7, .ref a5_1, .int v5_2, .int v5_3, .int v5_4, .int v5_5, .int 1, .int v5_7, .int v5_8, .int v5_9])), (a5_1, .inl (cyI, 400, .inl g5_1))]) [0, 1] (by decide) rfl
      exact W.vret hx hb hr (fun t ht hW => ⟨⟨(), rfl, trivial, by rw [ht]; exact hP9, va_K.moved hW.alike hK, hD9⟩, hS.F ht⟩) hS.2.2 dX5_pullKind_46
    · replace hf := x_in c_6 hf
      refine lv_aload_n hx hb dX5_pullKind_26 rfl (lv_at hl 1 rfl) ?_
      refine va_get (D := (dC, dI)) (ci := 5) (v := .ref a5_1) (C := RX5) (T := TX5) (N := 10) hx hb hts i_X5_pullKind_X5 hown hK hP 0 rfl rfl 1 (by decide) k_4 (fun _ h9 => h9) rfl dX5_pullKind_27 ?_
      refine lv_aload_n hx hb dX5_pullKind_30 rfl (lv_at hl 1 rfl) ?_
      refine va_get (D := (dC, dI)) (ci := 5) (v := .int v5_3) (C := RX5) (T := TX5) (N := 10) hx hb hts i_X5_pullKind_X5 hown hK hP 0 rfl rfl 3 (by decide) k_1 (fun _ h9 => h9) rfl dX5_pullKind_31 ?_
      refine lv_iload_n hx hb dX5_pullKind_34 rfl (lv_at hl 0 rfl) ?_
      refine lv_isub hx hb dX5_pullKind_35 ?_
      obtain ⟨g_7, hf⟩ := x_gu hf
      refine va_iald hx hb hK hP 1 0 rfl rfl (x_gdin g_7) dX5_pullKind_36 ?_
      refine lv_iload_n hx hb dX5_pullKind_37 rfl (lv_at hl 2 rfl) ?_
      refine lv_icmp_eq (tgt := 47) hx hb dX5_pullKind_38 (by decide) (fun c_8 => ?_) (fun c_8 => ?_)
      · replace hf := x_ip c_8 hf
        refine lv_aload_n hx hb dX5_pullKind_47 rfl (lv_at hl 1 rfl) ?_
        refine lv_dup hx hb dX5_pullKind_48 rfl ?_
        refine va_get (D := (dC, dI)) (ci := 5) (v := .int v5_3) (C := RX5) (T := TX5) (N := 10) hx hb hts i_X5_pullKind_X5 hown hK hP 0 rfl rfl 3 (by decide) k_1 (fun _ h9 => h9) rfl dX5_pullKind_49 ?_
        refine lv_iload_n hx hb dX5_pullKind_52 rfl (lv_at hl 0 rfl) ?_
        refine lv_isub hx hb dX5_pullKind_53 ?_
        refine va_put (D := (dC, dI)) (ci := 5) (v := .int (v5_3 - (2 : Int32))) (ty := .int) (C := RX5) (T := TX5) (N := 10) hx hb hts i_X5_pullKind_X5 tyX5 tyX5_ok nmX5 hown hK hP hD hS 0 rfl rfl 3 (by decide) k_1 (fun _ h9 => h9) rfl (by decide +kernel) rfl rfl (Nat.le_of_ble_eq_true rfl) dX5_pullKind_54 (fun H locs hP hD hS => ?_)
        have hP : va_P (dC, dI) vwCl [(o5, .inr (5, [.ref o7, .ref a5_1, .int v5_2, .int (v5_3 - (2 : Int32)), .int v5_4, .int v5_5, .int v5_6, .int v5_7, .int v5_8, .int v5_9])), (a5_1, .inl (cyI, 400, .inl g5_1))] H := hP
        have hD : va_D A [(o5, .inr (5, [.ref o7, .ref a5_1, .int v5_2, .int (v5_3 - (2 : Int32)), .int v5_4, .int v5_5, .int v5_6, .int v5_7, .int v5_8, .int v5_9])), (a5_1, .inl (cyI, 400, .inl g5_1))] := hD
        obtain rfl := Option.some.inj hf
        have hP9 := hP.sub (ws' := [(o5, .inr (5, [.ref o7, .ref a5_1, .int v5_2, .int (v5_3 - (2 : Int32)), .int v5_4, .int v5_5, .int v5_6, .int v5_7, .int v5_8, .int v5_9])), (a5_1, .inl (cyI, 400, .inl g5_1))]) [0, 1] rfl
        have hD9 := hD.sub (ws' := [(o5, .inr (5, [.ref o7, .ref a5_1, .int v5_2, .int (v5_3 - (2 : Int32)), .int v5_4, .int v5_5, .int v5_6, .int v5_7, .int v5_8, .int v5_9])), (a5_1, .inl (cyI, 400, .inl g5_1))]) [0, 1] (by decide) rfl
        exact W.vret hx hb hr (fun t ht hW => ⟨⟨(), rfl, trivial, by rw [ht]; exact hP9, va_K.moved hW.alike hK, hD9⟩, hS.F ht⟩) hS.2.2 dX5_pullKind_57
      · replace hf := x_in c_8 hf
        refine lv_aload_n hx hb dX5_pullKind_41 rfl (lv_at hl 1 rfl) ?_
        refine lv_iconst (v := 1) hx hb dX5_pullKind_42 (by decide) ?_
        refine va_put (D := (dC, dI)) (ci := 5) (v := .int 1) (ty := .boolean) (C := RX5) (T := TX5) (N := 10) hx hb hts i_X5_pullKind_X5 tyX5 tyX5_ok nmX5 hown hK hP hD hS 0 rfl rfl 6 (by decide) k_3 (fun _ h9 => h9) rfl (by decide +kernel) rfl rfl (Nat.le_of_ble_eq_true rfl) dX5_pullKind_43 (fun H locs hP hD hS => ?_)
        have hP : va_P (dC, dI) vwCl [(o5, .inr (5, [.ref o7, .ref a5_1, .int v5_2, .int v5_3, .int v5_4, .int v5_5, .int 1, .int v5_7, .int v5_8, .int v5_9])), (a5_1, .inl (cyI, 400, .inl g5_1))] H := hP
        have hD : va_D A [(o5, .inr (5, [.ref o7, .ref a5_1, .int v5_2, .int v5_3, .int v5_4, .int v5_5, .int 1, .int v5_7, .int v5_8, .int v5_9])), (a5_1, .inl (cyI, 400, .inl g5_1))] := hD
        obtain rfl := Option.some.inj hf
        have hP9 := hP.sub (ws' := [(o5, .inr (5, [.ref o7, .ref a5_1, .int v5_2, .int v5_3, .int v5_4, .int v5_5, .int 1, .int v5_7, .int v5_8, .int v5_9])), (a5_1, .inl (cyI, 400, .inl g5_1))]) [0, 1] rfl
        have hD9 := hD.sub (ws' := [(o5, .inr (5, [.ref o7, .ref a5_1, .int v5_2, .int v5_3, .int v5_4, .int v5_5, .int 1, .int v5_7, .int v5_8, .int v5_9])), (a5_1, .inl (cyI, 400, .inl g5_1))]) [0, 1] (by decide) rfl
        exact W.vret hx hb hr (fun t ht hW => ⟨⟨(), rfl, trivial, by rw [ht]; exact hP9, va_K.moved hW.alike hK, hD9⟩, hS.F ht⟩) hS.2.2 dX5_pullKind_46

def f_X5_pullType (v7_2 : Int32) (g7_0 : Nat → Int32) (g7_1 : Nat → Int32) (v5_2 : Int32) (v5_3 : Int32) (v5_6 : Int32) (v5_8 : Int32) (v5_9 : Int32) (g5_1 : Nat → Int32) (p1 : Int32) : Option (Int32 × Int32 × Int32) := (f_X7_isPrimitive p1) >>= (fun r_1 => if r_1 = (0 : Int32) then (f_X5_pull v5_2 v5_3 v5_6 g5_1) >>= (fun r_3 => if r_3.1 = (5 : Int32) then some (r_3.2.1, r_3.2.2, v5_8) else if (r_3.1 &&& 15) = (8 : Int32) then (f_X7_mayStand v7_2 g7_0 g7_1 (r_3.1 >>> (4 &&& 31)) p1) >>= (fun r_6 => if r_6 = (0 : Int32) then if v5_9 = (0 : Int32) then (f_X7_isOfInterface v7_2 g7_1 p1) >>= (fun r_15 => if r_15 = (0 : Int32) then if v5_8 = (0 : Int32) then if r_3.2.2 = (0 : Int32) then some (r_3.2.1, 1, 0) else some (r_3.2.1, 1, 0) else if r_3.2.2 = (0 : Int32) then some (r_3.2.1, 1, 1) else some (r_3.2.1, 1, 1) else (f_X7_mayStand v7_2 g7_0 g7_1 (r_3.1 >>> (4 &&& 31)) (p1 - (p1 &&& 65535))) >>= (fun r_23 => if r_23 = (0 : Int32) then if v5_8 = (0 : Int32) then if r_3.2.2 = (0 : Int32) then some (r_3.2.1, 1, 0) else some (r_3.2.1, 1, 0) else if r_3.2.2 = (0 : Int32) then some (r_3.2.1, 1, 1) else some (r_3.2.1, 1, 1) else if v5_8 = (0 : Int32) then if r_3.2.2 = (0 : Int32) then some (r_3.2.1, 0, 1) else some (r_3.2.1, 1, 1) else if r_3.2.2 = (0 : Int32) then some (r_3.2.1, 0, 1) else some (r_3.2.1, 1, 1))) else if v5_8 = (0 : Int32) then if r_3.2.2 = (0 : Int32) then some (r_3.2.1, 1, 0) else some (r_3.2.1, 1, 0) else if r_3.2.2 = (0 : Int32) then some (r_3.2.1, 1, 1) else some (r_3.2.1, 1, 1) else some (r_3.2.1, r_3.2.2, v5_8)) else some (r_3.2.1, 1, v5_8)) else (f_X7_placeOf p1) >>= (fun r_37 => (f_X5_pullKind v5_2 v5_3 v5_6 g5_1 r_37) >>= (fun r_38 => some (r_38.1, r_38.2, v5_8))))
theorem i_X5_pullType_X5 : ∀ w ∈ wsX50, w ∈ wsX5_pullType := fun _ h => List.mem_cons_of_mem _ (List.mem_append_left _ (List.mem_append_right _ h))
set_option maxHeartbeats 4000000 in
set_option maxRecDepth 100000 in
theorem c_X5_pullType (l : Launch) (dC : Nat → ClassId) (dI : Nat → Nat → Nat) (cyI cyZ cyJ : ClassId) (sz : Nat) (o7 : Nat) (a7_0 : Nat) (a7_1 : Nat) (v7_2 : Int32) (g7_0 : Nat → Int32) (g7_1 : Nat → Int32) (o5 : Nat) (a5_1 : Nat) (v5_2 : Int32) (v5_3 : Int32) (v5_4 : Int32) (v5_5 : Int32) (v5_6 : Int32) (v5_7 : Int32) (v5_8 : Int32) (v5_9 : Int32) (g5_1 : Nat → Int32) (p1 : Int32) (R : Int32 × Int32 × Int32) (hf : f_X5_pullType v7_2 g7_0 g7_1 v5_2 v5_3 v5_6 v5_8 v5_9 g5_1 p1 = some R) : Met l yX5_pullType wsX5_pullType ({ frames := 2, cells := 0, slots := 0, locals := 48 }) (va_Pc [.ref o5, .int p1] (x_PreD (dC, dI) (x_T cyI cyZ cyJ) [(o7, .inr (7, [.ref a7_0, .ref a7_1, .int v7_2])), (a7_0, .inl (cyI, 200, .inl g7_0)), (a7_1, .inl (cyZ, 200, .inl g7_1)), (o5, .inr (5, [.ref o7, .ref a5_1, .int v5_2, .int v5_3, .int v5_4, .int v5_5, .int v5_6, .int v5_7, .int v5_8, .int v5_9])), (a5_1, .inl (cyI, 400, .inl g5_1))] sz)) (va_Qv (fun _ : Unit => True) (fun (_ : Unit) (t : State) => va_P (dC, dI) vwCl [(o7, .inr (7, [.ref a7_0, .ref a7_1, .int v7_2])), (a7_0, .inl (cyI, 200, .inl g7_0)), (a7_1, .inl (cyZ, 200, .inl g7_1)), (o5, .inr (5, [.ref o7, .ref a5_1, .int v5_2, .int (R.1), .int v5_4, .int v5_5, .int (R.2.1), .int v5_7, .int (R.2.2), .int v5_9])), (a5_1, .inl (cyI, 400, .inl g5_1))] t.heap ∧ va_K (dC, dI) vwCl (x_T cyI cyZ cyJ) t ∧ va_D (va_A [(o7, .inr (7, [.ref a7_0, .ref a7_1, .int v7_2])), (a7_0, .inl (cyI, 200, .inl g7_0)), (a7_1, .inl (cyZ, 200, .inl g7_1)), (o5, .inr (5, [.ref o7, .ref a5_1, .int v5_2, .int v5_3, .int v5_4, .int v5_5, .int v5_6, .int v5_7, .int v5_8, .int v5_9])), (a5_1, .inl (cyI, 400, .inl g5_1))] sz) [(o7, .inr (7, [.ref a7_0, .ref a7_1, .int v7_2])), (a7_0, .inl (cyI, 200, .inl g7_0)), (a7_1, .inl (cyZ, 200, .inl g7_1)), (o5, .inr (5, [.ref o7, .ref a5_1, .int v5_2, .int (R.1), .int v5_4, .int v5_5, .int (R.2.1), .int v5_7, .int (R.2.2), .int v5_9])), (a5_1, .inl (cyI, 400, .inl g5_1))]) (va_A [(o7, .inr (7, [.ref a7_0, .ref a7_1, .int v7_2])), (a7_0, .inl (cyI, 200, .inl g7_0)), (a7_1, .inl (cyZ, 200, .inl g7_1)), (o5, .inr (5, [.ref o7, .ref a5_1, .int v5_2, .int v5_3, .int v5_4, .int v5_5, .int v5_6, .int v5_7, .int v5_8, .int v5_9])), (a5_1, .inl (cyI, 400, .inl g5_1))] sz)) 0 0 (va_A [(o7, .inr (7, [.ref a7_0, .ref a7_1, .int v7_2])), (a7_0, .inl (cyI, 200, .inl g7_0)), (a7_1, .inl (cyZ, 200, .inl g7_1)), (o5, .inr (5, [.ref o7, .ref a5_1, .int v5_2, .int v5_3, .int v5_4, .int v5_5, .int v5_6, .int v5_7, .int v5_8, .int v5_9])), (a5_1, .inl (cyI, 400, .inl g5_1))] sz) := by
  refine Met.ofW (cc := cX5_pullType) (maxL := 5) (ret := none) (by decide) rfl ?_
  intro p e s m args below meth c s₁ B hml hv
  obtain ⟨rfl, ⟨hsz, hP, hK, hN⟩, hD0⟩ := hv
  have hx := B.exec
  have hb := B.bytes
  have hr := B.returns
  have hts := atoms_spec (ws := wsX5_pullType) B.pre
  have hown : s.vm.findClass RX5 = some m.cls := findClass_of_methodNamed B.named
  have k_1 := hts (.fieldLink RX5 15 "FlowJudge$Places" "types" "LFlowJudge$Types;") (by decide +kernel)
  have k_2 := hts (.fieldLink RX5 45 "FlowJudge$Places" "isFinal" "Z") (by decide +kernel)
  have k_3 := hts (.fieldLink RX5 42 "FlowJudge$Places" "doubtful" "Z") (by decide +kernel)
  have k_4 := hts (.fieldLink RX5 38 "FlowJudge$Places" "refused" "Z") (by decide +kernel)
  have k_5 := hts (.constant RX5 120 (65535)) (by decide +kernel)
  subst hsz
  have hD := hD0.self (sz := s.heap.size)
  generalize hAe : va_A [(o7, .inr (7, [.ref a7_0, .ref a7_1, .int v7_2])), (a7_0, .inl (cyI, 200, .inl g7_0)), (a7_1, .inl (cyZ, 200, .inl g7_1)), (o5, .inr (5, [.ref o7, .ref a5_1, .int v5_2, .int v5_3, .int v5_4, .int v5_5, .int v5_6, .int v5_7, .int v5_8, .int v5_9])), (a5_1, .inl (cyI, 400, .inl g5_1))] s.heap.size = A at hD ⊢
  have hA : ∀ q : Nat, s.heap.size ≤ q → A q := fun q h => by rw [← hAe]; exact Or.inr h
  have hP : va_P (dC, dI) vwCl [(o7, .inr (7, [.ref a7_0, .ref a7_1, .int v7_2])), (a7_0, .inl (cyI, 200, .inl g7_0)), (a7_1, .inl (cyZ, 200, .inl g7_1)), (o5, .inr (5, [.ref o7, .ref a5_1, .int v5_2, .int v5_3, .int v5_4, .int v5_5, .int v5_6, .int v5_7, .int v5_8, .int v5_9])), (a5_1, .inl (cyI, 400, .inl g5_1))] s.heap := hP
  have hl := lv_entry ([.ref o5, .int p1]) (n := 5) (Nat.le_of_ble_eq_true rfl)
  rw [lg_entry_eq]
  generalize (lg_sl ([.ref o5, .int p1]) ++ List.replicate (5 - (lg_sl ([.ref o5, .int p1])).length) Slot.unset).toArray = ls at hl ⊢
  have hl : lv_has ls 5 [(0, .ref o5), (1, .int p1)] := hl
  obtain ⟨H, hH⟩ : ∃ z, z = s.heap := ⟨_, rfl⟩
  refine x_here hH ?_
  have hP : va_P (dC, dI) vwCl [(o7, .inr (7, [.ref a7_0, .ref a7_1, .int v7_2])), (a7_0, .inl (cyI, 200, .inl g7_0)), (a7_1, .inl (cyZ, 200, .inl g7_1)), (o5, .inr (5, [.ref o7, .ref a5_1, .int v5_2, .int v5_3, .int v5_4, .int v5_5, .int v5_6, .int v5_7, .int v5_8, .int v5_9])), (a5_1, .inl (cyI, 400, .inl g5_1))] H := by rw [hH]; exact hP
  have hS : va_S A s.heap H [] := by rw [hH]; exact va_S.rf
  clear hH
  obtain ⟨locs, hlo⟩ : ∃ z : List Loc, z = [] := ⟨_, rfl⟩
  refine x_herl hlo ?_
  have hS : va_S A s.heap H locs := by rw [hlo]; exact hS
  clear hlo
  unfold f_X5_pullType at hf
  refine lv_iload_n hx hb dX5_pullType_0 rfl (lv_at hl 1 rfl) ?_
  obtain ⟨r_1, h_1, hf⟩ := x_bi hf
  have hPc := hP.sub (ws' := []) [] rfl
  refine va_calli (va_runS (As := [.int p1]) (rest := []) ⟨hx, hb, hml, hown, hts⟩ (c_X7_isPrimitive l dC dI cyI cyZ cyJ H.size p1 r_1 h_1) (va_cwS 1 hts gX5_pullType_X7_isPrimitive rfl rfl rfl (by decide +kernel) ⟨Nat.le_of_ble_eq_true rfl, Nat.le_of_ble_eq_true rfl⟩) (x_pS hN hK hPc) rfl rfl hl.1 rfl (lv_room (Nat.le_of_ble_eq_true rfl)) dX5_pullType_1 ⟨Nat.le_of_ble_eq_true rfl, Nat.le_of_ble_eq_true rfl⟩) hS x_nA (x_nf hA hS) (fun q_1 u t H1 locs ht hvm hw hB hz1 hk1 hS => ?_)
  have hP := x_kp hP hk1
  clear ht hvm hB hz1 hk1 t u hPc
  generalize H1 = H at hP hS ⊢
  obtain ⟨hw, b_1⟩ := hw
  obtain rfl := hw.symm
  refine lv_if_eq (tgt := 16) hx hb dX5_pullType_4 (by decide) (fun c_2 => ?_) (fun c_2 => ?_)
  · replace hf := x_ip c_2 hf
    refine lv_aload_n hx hb dX5_pullType_16 rfl (lv_at hl 0 rfl) ?_
    obtain ⟨r_3, h_3, hf⟩ := x_bi hf
    have hPc := hP.sub (ws' := [(o5, .inr (5, [.ref o7, .ref a5_1, .int v5_2, .int v5_3, .int v5_4, .int v5_5, .int v5_6, .int v5_7, .int v5_8, .int v5_9])), (a5_1, .inl (cyI, 400, .inl g5_1))]) [3, 4] rfl
    have hDc := hD.sub (ws' := [(o5, .inr (5, [.ref o7, .ref a5_1, .int v5_2, .int v5_3, .int v5_4, .int v5_5, .int v5_6, .int v5_7, .int v5_8, .int v5_9])), (a5_1, .inl (cyI, 400, .inl g5_1))]) [3, 4] (by decide) rfl
    have hFc := va_free (wc := [(o5, .inr (5, [.ref o7, .ref a5_1, .int v5_2, .int v5_3, .int v5_4, .int v5_5, .int v5_6, .int v5_7, .int v5_8, .int v5_9])), (a5_1, .inl (cyI, 400, .inl g5_1))]) hD hS hA [3, 4] rfl
    refine va_calli (va_runV (As := []) (rest := []) ⟨hx, hb, hml, hown, hts⟩ (c_X5_pull l dC dI cyI cyZ cyJ H.size o5 o7 a5_1 v5_2 v5_3 v5_4 v5_5 v5_6 v5_7 v5_8 v5_9 g5_1 r_3 h_3) (cwV 0 hts gX5_pullType_X5_pull rfl rfl rfl (by decide +kernel) ⟨Nat.le_of_ble_eq_true rfl, Nat.le_of_ble_eq_true rfl⟩) (x_pVD hN hK hPc hDc (ci := 5) (q0 := 0) rfl rfl) rfl rfl hl.1 rfl (lv_room (Nat.le_of_ble_eq_true rfl)) dX5_pullType_17 ⟨Nat.le_of_ble_eq_true rfl, Nat.le_of_ble_eq_true rfl⟩) hS (fun q _ h => hFc q h) hFc (fun q_3 u t H1 locs ht hvm hw hB hz1 hk1 hS => ?_)
    obtain ⟨hP1, hK1, hD1⟩ := hB
    rw [ht] at hP1
    obtain ⟨hP, hD⟩ := va_join (wr := [(o7, .inr (7, [.ref a7_0, .ref a7_1, .int v7_2])), (a7_0, .inl (cyI, 200, .inl g7_0)), (a7_1, .inl (cyZ, 200, .inl g7_1))]) (w1 := [(o5, .inr (5, [.ref o7, .ref a5_1, .int v5_2, .int (r_3.2.1), .int v5_4, .int v5_5, .int (r_3.2.2), .int v5_7, .int v5_8, .int v5_9])), (a5_1, .inl (cyI, 400, .inl g5_1))]) hP hD [3, 4] [0, 1, 2] rfl rfl (by decide) (by decide) hk1 hFc hP1 hD1
    clear hz1 hk1 hPc hDc hFc hP1 hK1 hD1 ht hvm t u
    generalize H1 = H at hP hS ⊢
    have hP : va_P (dC, dI) vwCl [(o7, .inr (7, [.ref a7_0, .ref a7_1, .int v7_2])), (a7_0, .inl (cyI, 200, .inl g7_0)), (a7_1, .inl (cyZ, 200, .inl g7_1)), (o5, .inr (5, [.ref o7, .ref a5_1, .int v5_2, .int (r_3.2.1), .int v5_4, .int v5_5, .int (r_3.2.2), .int v5_7, .int v5_8, .int v5_9])), (a5_1, .inl (cyI, 400, .inl g5_1))] H := hP
    have hD : va_D A [(o7, .inr (7, [.ref a7_0, .ref a7_1, .int v7_2])), (a7_0, .inl (cyI, 200, .inl g7_0)), (a7_1, .inl (cyZ, 200, .inl g7_1)), (o5, .inr (5, [.ref o7, .ref a5_1, .int v5_2, .int (r_3.2.1), .int v5_4, .int v5_5, .int (r_3.2.2), .int v5_7, .int v5_8, .int v5_9])), (a5_1, .inl (cyI, 400, .inl g5_1))] := hD
    obtain rfl := hw.symm
    refine lv_istore_n (lv' := [(2, .int (r_3.1)), (0, .ref o5), (1, .int p1)]) hx hb dX5_pullType_20 rfl hl (by decide) rfl (fun ls hl => ?_)
    refine lv_iload_n hx hb dX5_pullType_21 rfl (lv_at hl 0 rfl) ?_
    refine lv_iconst (v := 5) hx hb dX5_pullType_22 (by decide) ?_
    refine lv_icmp_ne (tgt := 27) hx hb dX5_pullType_23 (by decide) (fun c_4 => ?_) (fun c_4 => ?_)
    · replace hf := x_in c_4 hf
      refine lv_iload_n hx hb dX5_pullType_27 rfl (lv_at hl 0 rfl) ?_
      refine lv_iconst (v := 4) hx hb dX5_pullType_28 (by decide) ?_
      refine lv_ishr hx hb dX5_pullType_29 ?_
      refine lv_istore_n (lv' := [(3, .int (r_3.1 >>> (4 &&& 31))), (2, .int (r_3.1)), (0, .ref o5), (1, .int p1)]) hx hb dX5_pullType_30 rfl hl (by decide) rfl (fun ls hl => ?_)
      refine lv_iload_n hx hb dX5_pullType_31 rfl (lv_at hl 1 rfl) ?_
      refine lv_bipush (v := 15) hx hb dX5_pullType_32 (by decide) ?_
      refine lv_iand hx hb dX5_pullType_34 ?_
      refine lv_bipush (v := 8) hx hb dX5_pullType_35 (by decide) ?_
      refine lv_icmp_eq (tgt := 48) hx hb dX5_pullType_37 (by decide) (fun c_5 => ?_) (fun c_5 => ?_)
      · replace hf := x_ip c_5 hf
        refine lv_aload_n hx hb dX5_pullType_48 rfl (lv_at hl 2 rfl) ?_
        refine va_get (D := (dC, dI)) (ci := 5) (v := .ref o7) (C := RX5) (T := TX5) (N := 10) hx hb hts i_X5_pullType_X5 hown hK hP 3 rfl rfl 0 (by decide) k_1 (fun _ h9 => h9) rfl dX5_pullType_49 ?_
        refine lv_iload_n hx hb dX5_pullType_52 rfl (lv_at hl 0 rfl) ?_
        refine lv_iload_n hx hb dX5_pullType_53 rfl (lv_at hl 3 rfl) ?_
        obtain ⟨r_6, h_6, hf⟩ := x_bi hf
        have hPc := hP.sub (ws' := [(o7, .inr (7, [.ref a7_0, .ref a7_1, .int v7_2])), (a7_0, .inl (cyI, 200, .inl g7_0)), (a7_1, .inl (cyZ, 200, .inl g7_1))]) [0, 1, 2] rfl
        refine va_calli (va_runV (As := [.int (r_3.1 >>> (4 &&& 31)), .int p1]) (rest := []) ⟨hx, hb, hml, hown, hts⟩ (c_X7_mayStand l dC dI cyI cyZ cyJ H.size o7 a7_0 a7_1 v7_2 g7_0 g7_1 (r_3.1 >>> (4 &&& 31)) p1 r_6 h_6) (cwV 2 hts gX5_pullType_X7_mayStand rfl rfl rfl (by decide +kernel) ⟨Nat.le_of_ble_eq_true rfl, Nat.le_of_ble_eq_true rfl⟩) (x_pV hN hK hPc (ci := 7) (q0 := 0) rfl rfl) rfl rfl hl.1 rfl (lv_room (Nat.le_of_ble_eq_true rfl)) dX5_pullType_54 ⟨Nat.le_of_ble_eq_true rfl, Nat.le_of_ble_eq_true rfl⟩) hS x_nA (x_nf hA hS) (fun q_6 u t H1 locs ht hvm hw hB hz1 hk1 hS => ?_)
        have hP := x_kp hP hk1
        clear ht hvm hB hz1 hk1 t u hPc
        generalize H1 = H at hP hS ⊢
        obtain ⟨hw, b_6⟩ := hw
        obtain rfl := hw.symm
        refine lv_if_ne (tgt := 144) hx hb dX5_pullType_57 (by decide) (fun c_7 => ?_) (fun c_7 => ?_)
        · replace hf := x_in c_7 hf
          obtain rfl := Option.some.inj hf
          have hP9 := hP.sub (ws' := [(o7, .inr (7, [.ref a7_0, .ref a7_1, .int v7_2])), (a7_0, .inl (cyI, 200, .inl g7_0)), (a7_1, .inl (cyZ, 200, .inl g7_1)), (o5, .inr (5, [.ref o7, .ref a5_1, .int v5_2, .int (r_3.2.1), .int v5_4, .int v5_5, .int (r_3.2.2), .int v5_7, .int v5_8, .int v5_9])), (a5_1, .inl (cyI, 400, .inl g5_1))]) [0, 1, 2, 3, 4] rfl
          have hD9 := hD.sub (ws' := [(o7, .inr (7, [.ref a7_0, .ref a7_1, .int v7_2])), (a7_0, .inl (cyI, 200, .inl g7_0)), (a7_1, .inl (cyZ, 200, .inl g7_1)), (o5, .inr (5, [.ref o7, .ref a5_1, .int v5_2, .int (r_3.2.1), .int v5_4, .int v5_5, .int (r_3.2.2), .int v5_7, .int v5_8, .int v5_9])), (a5_1, .inl (cyI, 400, .inl g5_1))]) [0, 1, 2, 3, 4] (by decide) rfl
          exact W.vret hx hb hr (fun t ht hW => ⟨⟨(), rfl, trivial, by rw [ht]; exact hP9, va_K.moved hW.alike hK, hD9⟩, hS.F ht⟩) hS.2.2 dX5_pullType_144
        · replace hf := x_ip c_7 hf
          refine lv_aload_n hx hb dX5_pullType_60 rfl (lv_at hl 2 rfl) ?_
          refine va_get (D := (dC, dI)) (ci := 5) (v := .int v5_9) (C := RX5) (T := TX5) (N := 10) hx hb hts i_X5_pullType_X5 hown hK hP 3 rfl rfl 9 (by decide) k_2 (fun _ h9 => h9) rfl dX5_pullType_61 ?_
          refine lv_if_ne (tgt := 99) hx hb dX5_pullType_64 (by decide) (fun c_8 => ?_) (fun c_8 => ?_)
          · replace hf := x_in c_8 hf
            refine lv_iconst (v := 0) hx hb dX5_pullType_99 (by decide) ?_
            refine lv_istore (lv' := [(4, .int 0), (3, .int (r_3.1 >>> (4 &&& 31))), (2, .int (r_3.1)), (0, .ref o5), (1, .int p1)]) hx hb dX5_pullType_100 hl (by decide) rfl (fun ls hl => ?_)
            refine lv_aload_n hx hb dX5_pullType_102 rfl (lv_at hl 3 rfl) ?_
            refine lv_aload_n hx hb dX5_pullType_103 rfl (lv_at hl 3 rfl) ?_
            refine va_get (D := (dC, dI)) (ci := 5) (v := .int v5_8) (C := RX5) (T := TX5) (N := 10) hx hb hts i_X5_pullType_X5 hown hK hP 3 rfl rfl 8 (by decide) k_3 (fun _ h9 => h9) rfl dX5_pullType_104 ?_
            refine lv_if_ne (tgt := 115) hx hb dX5_pullType_107 (by decide) (fun c_9 => ?_) (fun c_9 => ?_)
            · replace hf := x_in c_9 hf
              refine lv_iconst (v := 1) hx hb dX5_pullType_115 (by decide) ?_
              refine lv_goto (tgt := 120) hx hb dX5_pullType_116 (by decide) ?_
              refine va_put (D := (dC, dI)) (ci := 5) (v := .int 1) (ty := .boolean) (C := RX5) (T := TX5) (N := 10) hx hb hts i_X5_pullType_X5 tyX5 tyX5_ok nmX5 hown hK hP hD hS 3 rfl rfl 8 (by decide) k_3 (fun _ h9 => h9) rfl (by decide +kernel) rfl rfl (Nat.le_of_ble_eq_true rfl) dX5_pullType_120 (fun H locs hP hD hS => ?_)
              have hP : va_P (dC, dI) vwCl [(o7, .inr (7, [.ref a7_0, .ref a7_1, .int v7_2])), (a7_0, .inl (cyI, 200, .inl g7_0)), (a7_1, .inl (cyZ, 200, .inl g7_1)), (o5, .inr (5, [.ref o7, .ref a5_1, .int v5_2, .int (r_3.2.1), .int v5_4, .int v5_5, .int (r_3.2.2), .int v5_7, .int 1, .int v5_9])), (a5_1, .inl (cyI, 400, .inl g5_1))] H := hP
              have hD : va_D A [(o7, .inr (7, [.ref a7_0, .ref a7_1, .int v7_2])), (a7_0, .inl (cyI, 200, .inl g7_0)), (a7_1, .inl (cyZ, 200, .inl g7_1)), (o5, .inr (5, [.ref o7, .ref a5_1, .int v5_2, .int (r_3.2.1), .int v5_4, .int v5_5, .int (r_3.2.2), .int v5_7, .int 1, .int v5_9])), (a5_1, .inl (cyI, 400, .inl g5_1))] := hD
              refine lv_aload_n hx hb dX5_pullType_123 rfl (lv_at hl 3 rfl) ?_
              refine lv_aload_n hx hb dX5_pullType_124 rfl (lv_at hl 3 rfl) ?_
              refine va_get (D := (dC, dI)) (ci := 5) (v := .int (r_3.2.2)) (C := RX5) (T := TX5) (N := 10) hx hb hts i_X5_pullType_X5 hown hK hP 3 rfl rfl 6 (by decide) k_4 (fun _ h9 => h9) rfl dX5_pullType_125 ?_
              refine lv_if_ne (tgt := 136) hx hb dX5_pullType_128 (by decide) (fun c_10 => ?_) (fun c_10 => ?_)
              · replace hf := x_in c_10 hf
                refine lv_iconst (v := 1) hx hb dX5_pullType_136 (by decide) ?_
                refine lv_goto (tgt := 141) hx hb dX5_pullType_137 (by decide) ?_
                refine va_put (D := (dC, dI)) (ci := 5) (v := .int 1) (ty := .boolean) (C := RX5) (T := TX5) (N := 10) hx hb hts i_X5_pullType_X5 tyX5 tyX5_ok nmX5 hown hK hP hD hS 3 rfl rfl 6 (by decide) k_4 (fun _ h9 => h9) rfl (by decide +kernel) rfl rfl (Nat.le_of_ble_eq_true rfl) dX5_pullType_141 (fun H locs hP hD hS => ?_)
                have hP : va_P (dC, dI) vwCl [(o7, .inr (7, [.ref a7_0, .ref a7_1, .int v7_2])), (a7_0, .inl (cyI, 200, .inl g7_0)), (a7_1, .inl (cyZ, 200, .inl g7_1)), (o5, .inr (5, [.ref o7, .ref a5_1, .int v5_2, .int (r_3.2.1), .int v5_4, .int v5_5, .int 1, .int v5_7, .int 1, .int v5_9])), (a5_1, .inl (cyI, 400, .inl g5_1))] H := hP
                have hD : va_D A [(o7, .inr (7, [.ref a7_0, .ref a7_1, .int v7_2])), (a7_0, .inl (cyI, 200, .inl g7_0)), (a7_1, .inl (cyZ, 200, .inl g7_1)), (o5, .inr (5, [.ref o7, .ref a5_1, .int v5_2, .int (r_3.2.1), .int v5_4, .int v5_5, .int 1, .int v5_7, .int 1, .int v5_9])), (a5_1, .inl (cyI, 400, .inl g5_1))] := hD
                obtain rfl := Option.some.inj hf
                have hP9 := hP.sub (ws' := [(o7, .inr (7, [.ref a7_0, .ref a7_1, .int v7_2])), (a7_0, .inl (cyI, 200, .inl g7_0)), (a7_1, .inl (cyZ, 200, .inl g7_1)), (o5, .inr (5, [.ref o7, .ref a5_1, .int v5_2, .int (r_3.2.1), .int v5_4, .int v5_5, .int 1, .int v5_7, .int 1, .int v5_9])), (a5_1, .inl (cyI, 400, .inl g5_1))]) [0, 1, 2, 3, 4] rfl
                have hD9 := hD.sub (ws' := [(o7, .inr (7, [.ref a7_0, .ref a7_1, .int v7_2])), (a7_0, .inl (cyI, 200, .inl g7_0)), (a7_1, .inl (cyZ, 200, .inl g7_1)), (o5, .inr (5, [.ref o7, .ref a5_1, .int v5_2, .int (r_3.2.1), .int v5_4, .int v5_5, .int 1, .int v5_7, .int 1, .int v5_9])), (a5_1, .inl (cyI, 400, .inl g5_1))]) [0, 1, 2, 3, 4] (by decide) rfl
                exact W.vret hx hb hr (fun t ht hW => ⟨⟨(), rfl, trivial, by rw [ht]; exact hP9, va_K.moved hW.alike hK, hD9⟩, hS.F ht⟩) hS.2.2 dX5_pullType_144
              · replace hf := x_ip c_10 hf
                refine lv_iload hx hb dX5_pullType_131 (lv_at hl 0 rfl) ?_
                refine lv_if_ne (tgt := 140) hx hb dX5_pullType_133 (by decide) (fun c_11 => absurd (by decide) c_11) (fun _ => ?_)
                refine lv_iconst (v := 1) hx hb dX5_pullType_136 (by decide) ?_
                refine lv_goto (tgt := 141) hx hb dX5_pullType_137 (by decide) ?_
                refine va_put (D := (dC, dI)) (ci := 5) (v := .int 1) (ty := .boolean) (C := RX5) (T := TX5) (N := 10) hx hb hts i_X5_pullType_X5 tyX5 tyX5_ok nmX5 hown hK hP hD hS 3 rfl rfl 6 (by decide) k_4 (fun _ h9 => h9) rfl (by decide +kernel) rfl rfl (Nat.le_of_ble_eq_true rfl) dX5_pullType_141 (fun H locs hP hD hS => ?_)
                have hP : va_P (dC, dI) vwCl [(o7, .inr (7, [.ref a7_0, .ref a7_1, .int v7_2])), (a7_0, .inl (cyI, 200, .inl g7_0)), (a7_1, .inl (cyZ, 200, .inl g7_1)), (o5, .inr (5, [.ref o7, .ref a5_1, .int v5_2, .int (r_3.2.1), .int v5_4, .int v5_5, .int 1, .int v5_7, .int 1, .int v5_9])), (a5_1, .inl (cyI, 400, .inl g5_1))] H := hP
                have hD : va_D A [(o7, .inr (7, [.ref a7_0, .ref a7_1, .int v7_2])), (a7_0, .inl (cyI, 200, .inl g7_0)), (a7_1, .inl (cyZ, 200, .inl g7_1)), (o5, .inr (5, [.ref o7, .ref a5_1, .int v5_2, .int (r_3.2.1), .int v5_4, .int v5_5, .int 1, .int v5_7, .int 1, .int v5_9])), (a5_1, .inl (cyI, 400, .inl g5_1))] := hD
                obtain rfl := Option.some.inj hf
                have hP9 := hP.sub (ws' := [(o7, .inr (7, [.ref a7_0, .ref a7_1, .int v7_2])), (a7_0, .inl (cyI, 200, .inl g7_0)), (a7_1, .inl (cyZ, 200, .inl g7_1)), (o5, .inr (5, [.ref o7, .ref a5_1, .int v5_2, .int (r_3.2.1), .int v5_4, .int v5_5, .int 1, .int v5_7, .int 1, .int v5_9])), (a5_1, .inl (cyI, 400, .inl g5_1))]) [0, 1, 2, 3, 4] rfl
                have hD9 := hD.sub (ws' := [(o7, .inr (7, [.ref a7_0, .ref a7_1, .int v7_2])), (a7_0, .inl (cyI, 200, .inl g7_0)), (a7_1, .inl (cyZ, 200, .inl g7_1)), (o5, .inr (5, [.ref o7, .ref a5_1, .int v5_2, .int (r_3.2.1), .int v5_4, .int v5_5, .int 1, .int v5_7, .int 1, .int v5_9])), (a5_1, .inl (cyI, 400, .inl g5_1))]) [0, 1, 2, 3, 4] (by decide) rfl
                exact W.vret hx hb hr (fun t ht hW => ⟨⟨(), rfl, trivial, by rw [ht]; exact hP9, va_K.moved hW.alike hK, hD9⟩, hS.F ht⟩) hS.2.2 dX5_pullType_144
            · replace hf := x_ip c_9 hf
              refine lv_iload hx hb dX5_pullType_110 (lv_at hl 0 rfl) ?_
              refine lv_if_eq (tgt := 119) hx hb dX5_pullType_112 (by decide) (fun _ => ?_) (fun c_12 => absurd (by decide) c_12)
              refine lv_iconst (v := 0) hx hb dX5_pullType_119 (by decide) ?_
              refine va_put (D := (dC, dI)) (ci := 5) (v := .int 0) (ty := .boolean) (C := RX5) (T := TX5) (N := 10) hx hb hts i_X5_pullType_X5 tyX5 tyX5_ok nmX5 hown hK hP hD hS 3 rfl rfl 8 (by decide) k_3 (fun _ h9 => h9) rfl (by decide +kernel) rfl rfl (Nat.le_of_ble_eq_true rfl) dX5_pullType_120 (fun H locs hP hD hS => ?_)
              have hP : va_P (dC, dI) vwCl [(o7, .inr (7, [.ref a7_0, .ref a7_1, .int v7_2])), (a7_0, .inl (cyI, 200, .inl g7_0)), (a7_1, .inl (cyZ, 200, .inl g7_1)), (o5, .inr (5, [.ref o7, .ref a5_1, .int v5_2, .int (r_3.2.1), .int v5_4, .int v5_5, .int (r_3.2.2), .int v5_7, .int 0, .int v5_9])), (a5_1, .inl (cyI, 400, .inl g5_1))] H := hP
              have hD : va_D A [(o7, .inr (7, [.ref a7_0, .ref a7_1, .int v7_2])), (a7_0, .inl (cyI, 200, .inl g7_0)), (a7_1, .inl (cyZ, 200, .inl g7_1)), (o5, .inr (5, [.ref o7, .ref a5_1, .int v5_2, .int (r_3.2.1), .int v5_4, .int v5_5, .int (r_3.2.2), .int v5_7, .int 0, .int v5_9])), (a5_1, .inl (cyI, 400, .inl g5_1))] := hD
              refine lv_aload_n hx hb dX5_pullType_123 rfl (lv_at hl 3 rfl) ?_
              refine lv_aload_n hx hb dX5_pullType_124 rfl (lv_at hl 3 rfl) ?_
              refine va_get (D := (dC, dI)) (ci := 5) (v := .int (r_3.2.2)) (C := RX5) (T := TX5) (N := 10) hx hb hts i_X5_pullType_X5 hown hK hP 3 rfl rfl 6 (by decide) k_4 (fun _ h9 => h9) rfl dX5_pullType_125 ?_
              refine lv_if_ne (tgt := 136) hx hb dX5_pullType_128 (by decide) (fun c_13 => ?_) (fun c_13 => ?_)
              · replace hf := x_in c_13 hf
                refine lv_iconst (v := 1) hx hb dX5_pullType_136 (by decide) ?_
                refine lv_goto (tgt := 141) hx hb dX5_pullType_137 (by decide) ?_
                refine va_put (D := (dC, dI)) (ci := 5) (v := .int 1) (ty := .boolean) (C := RX5) (T := TX5) (N := 10) hx hb hts i_X5_pullType_X5 tyX5 tyX5_ok nmX5 hown hK hP hD hS 3 rfl rfl 6 (by decide) k_4 (fun _ h9 => h9) rfl (by decide +kernel) rfl rfl (Nat.le_of_ble_eq_true rfl) dX5_pullType_141 (fun H locs hP hD hS => ?_)
                have hP : va_P (dC, dI) vwCl [(o7, .inr (7, [.ref a7_0, .ref a7_1, .int v7_2])), (a7_0, .inl (cyI, 200, .inl g7_0)), (a7_1, .inl (cyZ, 200, .inl g7_1)), (o5, .inr (5, [.ref o7, .ref a5_1, .int v5_2, .int (r_3.2.1), .int v5_4, .int v5_5, .int 1, .int v5_7, .int 0, .int v5_9])), (a5_1, .inl (cyI, 400, .inl g5_1))] H := hP
                have hD : va_D A [(o7, .inr (7, [.ref a7_0, .ref a7_1, .int v7_2])), (a7_0, .inl (cyI, 200, .inl g7_0)), (a7_1, .inl (cyZ, 200, .inl g7_1)), (o5, .inr (5, [.ref o7, .ref a5_1, .int v5_2, .int (r_3.2.1), .int v5_4, .int v5_5, .int 1, .int v5_7, .int 0, .int v5_9])), (a5_1, .inl (cyI, 400, .inl g5_1))] := hD
                obtain rfl := Option.some.inj hf
                have hP9 := hP.sub (ws' := [(o7, .inr (7, [.ref a7_0, .ref a7_1, .int v7_2])), (a7_0, .inl (cyI, 200, .inl g7_0)), (a7_1, .inl (cyZ, 200, .inl g7_1)), (o5, .inr (5, [.ref o7, .ref a5_1, .int v5_2, .int (r_3.2.1), .int v5_4, .int v5_5, .int 1, .int v5_7, .int 0, .int v5_9])), (a5_1, .inl (cyI, 400, .inl g5_1))]) [0, 1, 2, 3, 4] rfl
                have hD9 := hD.sub (ws' := [(o7, .inr (7, [.ref a7_0, .ref a7_1, .int v7_2])), (a7_0, .inl (cyI, 200, .inl g7_0)), (a7_1, .inl (cyZ, 200, .inl g7_1)), (o5, .inr (5, [.ref o7, .ref a5_1, .int v5_2, .int (r_3.2.1), .int v5_4, .int v5_5, .int 1, .int v5_7, .int 0, .int v5_9])), (a5_1, .inl (cyI, 400, .inl g5_1))]) [0, 1, 2, 3, 4] (by decide) rfl
                exact W.vret hx hb hr (fun t ht hW => ⟨⟨(), rfl, trivial, by rw [ht]; exact hP9, va_K.moved hW.alike hK, hD9⟩, hS.F ht⟩) hS.2.2 dX5_pullType_144
              · replace hf := x_ip c_13 hf
                refine lv_iload hx hb dX5_pullType_131 (lv_at hl 0 rfl) ?_
                refine lv_if_ne (tgt := 140) hx hb dX5_pullType_133 (by decide) (fun c_14 => absurd (by decide) c_14) (fun _ => ?_)
                refine lv_iconst (v := 1) hx hb dX5_pullType_136 (by decide) ?_
                refine lv_goto (tgt := 141) hx hb dX5_pullType_137 (by decide) ?_
                refine va_put (D := (dC, dI)) (ci := 5) (v := .int 1) (ty := .boolean) (C := RX5) (T := TX5) (N := 10) hx hb hts i_X5_pullType_X5 tyX5 tyX5_ok nmX5 hown hK hP hD hS 3 rfl rfl 6 (by decide) k_4 (fun _ h9 => h9) rfl (by decide +kernel) rfl rfl (Nat.le_of_ble_eq_true rfl) dX5_pullType_141 (fun H locs hP hD hS => ?_)
                have hP : va_P (dC, dI) vwCl [(o7, .inr (7, [.ref a7_0, .ref a7_1, .int v7_2])), (a7_0, .inl (cyI, 200, .inl g7_0)), (a7_1, .inl (cyZ, 200, .inl g7_1)), (o5, .inr (5, [.ref o7, .ref a5_1, .int v5_2, .int (r_3.2.1), .int v5_4, .int v5_5, .int 1, .int v5_7, .int 0, .int v5_9])), (a5_1, .inl (cyI, 400, .inl g5_1))] H := hP
                have hD : va_D A [(o7, .inr (7, [.ref a7_0, .ref a7_1, .int v7_2])), (a7_0, .inl (cyI, 200, .inl g7_0)), (a7_1, .inl (cyZ, 200, .inl g7_1)), (o5, .inr (5, [.ref o7, .ref a5_1, .int v5_2, .int (r_3.2.1), .int v5_4, .int v5_5, .int 1, .int v5_7, .int 0, .int v5_9])), (a5_1, .inl (cyI, 400, .inl g5_1))] := hD
                obtain rfl := Option.some.inj hf
                have hP9 := hP.sub (ws' := [(o7, .inr (7, [.ref a7_0, .ref a7_1, .int v7_2])), (a7_0, .inl (cyI, 200, .inl g7_0)), (a7_1, .inl (cyZ, 200, .inl g7_1)), (o5, .inr (5, [.ref o7, .ref a5_1, .int v5_2, .int (r_3.2.1), .int v5_4, .int v5_5, .int 1, .int v5_7, .int 0, .int v5_9])), (a5_1, .inl (cyI, 400, .inl g5_1))]) [0, 1, 2, 3, 4] rfl
                have hD9 := hD.sub (ws' := [(o7, .inr (7, [.ref a7_0, .ref a7_1, .int v7_2])), (a7_0, .inl (cyI, 200, .inl g7_0)), (a7_1, .inl (cyZ, 200, .inl g7_1)), (o5, .inr (5, [.ref o7, .ref a5_1, .int v5_2, .int (r_3.2.1), .int v5_4, .int v5_5, .int 1, .int v5_7, .int 0, .int v5_9])), (a5_1, .inl (cyI, 400, .inl g5_1))]) [0, 1, 2, 3, 4] (by decide) rfl
                exact W.vret hx hb hr (fun t ht hW => ⟨⟨(), rfl, trivial, by rw [ht]; exact hP9, va_K.moved hW.alike hK, hD9⟩, hS.F ht⟩) hS.2.2 dX5_pullType_144
          · replace hf := x_ip c_8 hf
            refine lv_aload_n hx hb dX5_pullType_67 rfl (lv_at hl 2 rfl) ?_
            refine va_get (D := (dC, dI)) (ci := 5) (v := .ref o7) (C := RX5) (T := TX5) (N := 10) hx hb hts i_X5_pullType_X5 hown hK hP 3 rfl rfl 0 (by decide) k_1 (fun _ h9 => h9) rfl dX5_pullType_68 ?_
            refine lv_iload_n hx hb dX5_pullType_71 rfl (lv_at hl 3 rfl) ?_
            obtain ⟨r_15, h_15, hf⟩ := x_bi hf
            have hPc := hP.sub (ws' := [(o7, .inr (7, [.ref a7_0, .ref a7_1, .int v7_2])), (a7_1, .inl (cyZ, 200, .inl g7_1))]) [0, 2] rfl
            refine va_calli (va_runV (As := [.int p1]) (rest := []) ⟨hx, hb, hml, hown, hts⟩ (c_X7_isOfInterface l dC dI cyI cyZ cyJ H.size o7 a7_0 a7_1 v7_2 g7_1 p1 r_15 h_15) (cwV 1 hts gX5_pullType_X7_isOfInterface rfl rfl rfl (by decide +kernel) ⟨Nat.le_of_ble_eq_true rfl, Nat.le_of_ble_eq_true rfl⟩) (x_pV hN hK hPc (ci := 7) (q0 := 0) rfl rfl) rfl rfl hl.1 rfl (lv_room (Nat.le_of_ble_eq_true rfl)) dX5_pullType_72 ⟨Nat.le_of_ble_eq_true rfl, Nat.le_of_ble_eq_true rfl⟩) hS x_nA (x_nf hA hS) (fun q_15 u t H1 locs ht hvm hw hB hz1 hk1 hS => ?_)
            have hP := x_kp hP hk1
            clear ht hvm hB hz1 hk1 t u hPc
            generalize H1 = H at hP hS ⊢
            obtain ⟨hw, b_15⟩ := hw
            obtain rfl := hw.symm
            refine lv_if_eq (tgt := 99) hx hb dX5_pullType_75 (by decide) (fun c_16 => ?_) (fun c_16 => ?_)
            · replace hf := x_ip c_16 hf
              refine lv_iconst (v := 0) hx hb dX5_pullType_99 (by decide) ?_
              refine lv_istore (lv' := [(4, .int 0), (3, .int (r_3.1 >>> (4 &&& 31))), (2, .int (r_3.1)), (0, .ref o5), (1, .int p1)]) hx hb dX5_pullType_100 hl (by decide) rfl (fun ls hl => ?_)
              refine lv_aload_n hx hb dX5_pullType_102 rfl (lv_at hl 3 rfl) ?_
              refine lv_aload_n hx hb dX5_pullType_103 rfl (lv_at hl 3 rfl) ?_
              refine va_get (D := (dC, dI)) (ci := 5) (v := .int v5_8) (C := RX5) (T := TX5) (N := 10) hx hb hts i_X5_pullType_X5 hown hK hP 3 rfl rfl 8 (by decide) k_3 (fun _ h9 => h9) rfl dX5_pullType_104 ?_
              refine lv_if_ne (tgt := 115) hx hb dX5_pullType_107 (by decide) (fun c_17 => ?_) (fun c_17 => ?_)
              · replace hf := x_in c_17 hf
                refine lv_iconst (v := 1) hx hb dX5_pullType_115 (by decide) ?_
                refine lv_goto (tgt := 120) hx hb dX5_pullType_116 (by decide) ?_
                refine va_put (D := (dC, dI)) (ci := 5) (v := .int 1) (ty := .boolean) (C := RX5) (T := TX5) (N := 10) hx hb hts i_X5_pullType_X5 tyX5 tyX5_ok nmX5 hown hK hP hD hS 3 rfl rfl 8 (by decide) k_3 (fun _ h9 => h9) rfl (by decide +kernel) rfl rfl (Nat.le_of_ble_eq_true rfl) dX5_pullType_120 (fun H locs hP hD hS => ?_)
                have hP : va_P (dC, dI) vwCl [(o7, .inr (7, [.ref a7_0, .ref a7_1, .int v7_2])), (a7_0, .inl (cyI, 200, .inl g7_0)), (a7_1, .inl (cyZ, 200, .inl g7_1)), (o5, .inr (5, [.ref o7, .ref a5_1, .int v5_2, .int (r_3.2.1), .int v5_4, .int v5_5, .int (r_3.2.2), .int v5_7, .int 1, .int v5_9])), (a5_1, .inl (cyI, 400, .inl g5_1))] H := hP
                have hD : va_D A [(o7, .inr (7, [.ref a7_0, .ref a7_1, .int v7_2])), (a7_0, .inl (cyI, 200, .inl g7_0)), (a7_1, .inl (cyZ, 200, .inl g7_1)), (o5, .inr (5, [.ref o7, .ref a5_1, .int v5_2, .int (r_3.2.1), .int v5_4, .int v5_5, .int (r_3.2.2), .int v5_7, .int 1, .int v5_9])), (a5_1, .inl (cyI, 400, .inl g5_1))] := hD
                refine lv_aload_n hx hb dX5_pullType_123 rfl (lv_at hl 3 rfl) ?_
                refine lv_aload_n hx hb dX5_pullType_124 rfl (lv_at hl 3 rfl) ?_
                refine va_get (D := (dC, dI)) (ci := 5) (v := .int (r_3.2.2)) (C := RX5) (T := TX5) (N := 10) hx hb hts i_X5_pullType_X5 hown hK hP 3 rfl rfl 6 (by decide) k_4 (fun _ h9 => h9) rfl dX5_pullType_125 ?_
                refine lv_if_ne (tgt := 136) hx hb dX5_pullType_128 (by decide) (fun c_18 => ?_) (fun c_18 => ?_)
                · replace hf := x_in c_18 hf
                  refine lv_iconst (v := 1) hx hb dX5_pullType_136 (by decide) ?_
                  refine lv_goto (tgt := 141) hx hb dX5_pullType_137 (by decide) ?_
                  refine va_put (D := (dC, dI)) (ci := 5) (v := .int 1) (ty := .boolean) (C := RX5) (T := TX5) (N := 10) hx hb hts i_X5_pullType_X5 tyX5 tyX5_ok nmX5 hown hK hP hD hS 3 rfl rfl 6 (by decide) k_4 (fun _ h9 => h9) rfl (by decide +kernel) rfl rfl (Nat.le_of_ble_eq_true rfl) dX5_pullType_141 (fun H locs hP hD hS => ?_)
                  have hP : va_P (dC, dI) vwCl [(o7, .inr (7, [.ref a7_0, .ref a7_1, .int v7_2])), (a7_0, .inl (cyI, 200, .inl g7_0)), (a7_1, .inl (cyZ, 200, .inl g7_1)), (o5, .inr (5, [.ref o7, .ref a5_1, .int v5_2, .int (r_3.2.1), .int v5_4, .int v5_5, .int 1, .int v5_7, .int 1, .int v5_9])), (a5_1, .inl (cyI, 400, .inl g5_1))] H := hP
                  have hD : va_D A [(o7, .inr (7, [.ref a7_0, .ref a7_1, .int v7_2])), (a7_0, .inl (cyI, 200, .inl g7_0)), (a7_1, .inl (cyZ, 200, .inl g7_1)), (o5, .inr (5, [.ref o7, .ref a5_1, .int v5_2, .int (r_3.2.1), .int v5_4, .int v5_5, .int 1, .int v5_7, .int 1, .int v5_9])), (a5_1, .inl (cyI, 400, .inl g5_1))] := hD
                  obtain rfl := Option.some.inj hf
                  have hP9 := hP.sub (ws' := [(o7, .inr (7, [.ref a7_0, .ref a7_1, .int v7_2])), (a7_0, .inl (cyI, 200, .inl g7_0)), (a7_1, .inl (cyZ, 200, .inl g7_1)), (o5, .inr (5, [.ref o7, .ref a5_1, .int v5_2, .int (r_3.2.1), .int v5_4, .int v5_5, .int 1, .int v5_7, .int 1, .int v5_9])), (a5_1, .inl (cyI, 400, .inl g5_1))]) [0, 1, 2, 3, 4] rfl
                  have hD9 := hD.sub (ws' := [(o7, .inr (7, [.ref a7_0, .ref a7_1, .int v7_2])), (a7_0, .inl (cyI, 200, .inl g7_0)), (a7_1, .inl (cyZ, 200, .inl g7_1)), (o5, .inr (5, [.ref o7, .ref a5_1, .int v5_2, .int (r_3.2.1), .int v5_4, .int v5_5, .int 1, .int v5_7, .int 1, .int v5_9])), (a5_1, .inl (cyI, 400, .inl g5_1))]) [0, 1, 2, 3, 4] (by decide) rfl
                  exact W.vret hx hb hr (fun t ht hW => ⟨⟨(), rfl, trivial, by rw [ht]; exact hP9, va_K.moved hW.alike hK, hD9⟩, hS.F ht⟩) hS.2.2 dX5_pullType_144
                · replace hf := x_ip c_18 hf
                  refine lv_iload hx hb dX5_pullType_131 (lv_at hl 0 rfl) ?_
                  refine lv_if_ne (tgt := 140) hx hb dX5_pullType_133 (by decide) (fun c_19 => absurd (by decide) c_19) (fun _ => ?_)
                  refine lv_iconst (v := 1) hx hb dX5_pullType_136 (by decide) ?_
                  refine lv_goto (tgt := 141) hx hb dX5_pullType_137 (by decide) ?_
                  refine va_put (D := (dC, dI)) (ci := 5) (v := .int 1) (ty := .boolean) (C := RX5) (T := TX5) (N := 10) hx hb hts i_X5_pullType_X5 tyX5 tyX5_ok nmX5 hown hK hP hD hS 3 rfl rfl 6 (by decide) k_4 (fun _ h9 => h9) rfl (by decide +kernel) rfl rfl (Nat.le_of_ble_eq_true rfl) dX5_pullType_141 (fun H locs hP hD hS => ?_)
                  have hP : va_P (dC, dI) vwCl [(o7, .inr (7, [.ref a7_0, .ref a7_1, .int v7_2])), (a7_0, .inl (cyI, 200, .inl g7_0)), (a7_1, .inl (cyZ, 200, .inl g7_1)), (o5, .inr (5, [.ref o7, .ref a5_1, .int v5_2, .int (r_3.2.1), .int v5_4, .int v5_5, .int 1, .int v5_7, .int 1, .int v5_9])), (a5_1, .inl (cyI, 400, .inl g5_1))] H := hP
                  have hD : va_D A [(o7, .inr (7, [.ref a7_0, .ref a7_1, .int v7_2])), (a7_0, .inl (cyI, 200, .inl g7_0)), (a7_1, .inl (cyZ, 200, .inl g7_1)), (o5, .inr (5, [.ref o7, .ref a5_1, .int v5_2, .int (r_3.2.1), .int v5_4, .int v5_5, .int 1, .int v5_7, .int 1, .int v5_9])), (a5_1, .inl (cyI, 400, .inl g5_1))] := hD
                  obtain rfl := Option.some.inj hf
                  have hP9 := hP.sub (ws' := [(o7, .inr (7, [.ref a7_0, .ref a7_1, .int v7_2])), (a7_0, .inl (cyI, 200, .inl g7_0)), (a7_1, .inl (cyZ, 200, .inl g7_1)), (o5, .inr (5, [.ref o7, .ref a5_1, .int v5_2, .int (r_3.2.1), .int v5_4, .int v5_5, .int 1, .int v5_7, .int 1, .int v5_9])), (a5_1, .inl (cyI, 400, .inl g5_1))]) [0, 1, 2, 3, 4] rfl
                  have hD9 := hD.sub (ws' := [(o7, .inr (7, [.ref a7_0, .ref a7_1, .int v7_2])), (a7_0, .inl (cyI, 200, .inl g7_0)), (a7_1, .inl (cyZ, 200, .inl g7_1)), (o5, .inr (5, [.ref o7, .ref a5_1, .int v5_2, .int (r_3.2.1), .int v5_4, .int v5_5, .int 1, .int v5_7, .int 1, .int v5_9])), (a5_1, .inl (cyI, 400, .inl g5_1))]) [0, 1, 2, 3, 4] (by decide) rfl
                  exact W.vret hx hb hr (fun t ht hW => ⟨⟨(), rfl, trivial, by rw [ht]; exact hP9, va_K.moved hW.alike hK, hD9⟩, hS.F ht⟩) hS.2.2 dX5_pullType_144
              · replace hf := x_ip c_17 hf
                refine lv_iload hx hb dX5_pullType_110 (lv_at hl 0 rfl) ?_
                refine lv_if_eq (tgt := 119) hx hb dX5_pullType_112 (by decide) (fun _ => ?_) (fun c_20 => absurd (by decide) c_20)
                refine lv_iconst (v := 0) hx hb dX5_pullType_119 (by decide) ?_
                refine va_put (D := (dC, dI)) (ci := 5) (v := .int 0) (ty := .boolean) (C := RX5) (T := TX5) (N := 10) hx hb hts i_X5_pullType_X5 tyX5 tyX5_ok nmX5 hown hK hP hD hS 3 rfl rfl 8 (by decide) k_3 (fun _ h9 => h9) rfl (by decide +kernel) rfl rfl (Nat.le_of_ble_eq_true rfl) dX5_pullType_120 (fun H locs hP hD hS => ?_)
                have hP : va_P (dC, dI) vwCl [(o7, .inr (7, [.ref a7_0, .ref a7_1, .int v7_2])), (a7_0, .inl (cyI, 200, .inl g7_0)), (a7_1, .inl (cyZ, 200, .inl g7_1)), (o5, .inr (5, [.ref o7, .ref a5_1, .int v5_2, .int (r_3.2.1), .int v5_4, .int v5_5, .int (r_3.2.2), .int v5_7, .int 0, .int v5_9])), (a5_1, .inl (cyI, 400, .inl g5_1))] H := hP
                have hD : va_D A [(o7, .inr (7, [.ref a7_0, .ref a7_1, .int v7_2])), (a7_0, .inl (cyI, 200, .inl g7_0)), (a7_1, .inl (cyZ, 200, .inl g7_1)), (o5, .inr (5, [.ref o7, .ref a5_1, .int v5_2, .int (r_3.2.1), .int v5_4, .int v5_5, .int (r_3.2.2), .int v5_7, .int 0, .int v5_9])), (a5_1, .inl (cyI, 400, .inl g5_1))] := hD
                refine lv_aload_n hx hb dX5_pullType_123 rfl (lv_at hl 3 rfl) ?_
                refine lv_aload_n hx hb dX5_pullType_124 rfl (lv_at hl 3 rfl) ?_
                refine va_get (D := (dC, dI)) (ci := 5) (v := .int (r_3.2.2)) (C := RX5) (T := TX5) (N := 10) hx hb hts i_X5_pullType_X5 hown hK hP 3 rfl rfl 6 (by decide) k_4 (fun _ h9 => h9) rfl dX5_pullType_125 ?_
                refine lv_if_ne (tgt := 136) hx hb dX5_pullType_128 (by decide) (fun c_21 => ?_) (fun c_21 => ?_)
                · replace hf := x_in c_21 hf
                  refine lv_iconst (v := 1) hx hb dX5_pullType_136 (by decide) ?_
                  refine lv_goto (tgt := 141) hx hb dX5_pullType_137 (by decide) ?_
                  refine va_put (D := (dC, dI)) (ci := 5) (v := .int 1) (ty := .boolean) (C := RX5) (T := TX5) (N := 10) hx hb hts i_X5_pullType_X5 tyX5 tyX5_ok nmX5 hown hK hP hD hS 3 rfl rfl 6 (by decide) k_4 (fun _ h9 => h9) rfl (by decide +kernel) rfl rfl (Nat.le_of_ble_eq_true rfl) dX5_pullType_141 (fun H locs hP hD hS => ?_)
                  have hP : va_P (dC, dI) vwCl [(o7, .inr (7, [.ref a7_0, .ref a7_1, .int v7_2])), (a7_0, .inl (cyI, 200, .inl g7_0)), (a7_1, .inl (cyZ, 200, .inl g7_1)), (o5, .inr (5, [.ref o7, .ref a5_1, .int v5_2, .int (r_3.2.1), .int v5_4, .int v5_5, .int 1, .int v5_7, .int 0, .int v5_9])), (a5_1, .inl (cyI, 400, .inl g5_1))] H := hP
                  have hD : va_D A [(o7, .inr (7, [.ref a7_0, .ref a7_1, .int v7_2])), (a7_0, .inl (cyI, 200, .inl g7_0)), (a7_1, .inl (cyZ, 200, .inl g7_1)), (o5, .inr (5, [.ref o7, .ref a5_1, .int v5_2, .int (r_3.2.1), .int v5_4, .int v5_5, .int 1, .int v5_7, .int 0, .int v5_9])), (a5_1, .inl (cyI, 400, .inl g5_1))] := hD
                  obtain rfl := Option.some.inj hf
                  have hP9 := hP.sub (ws' := [(o7, .inr (7, [.ref a7_0, .ref a7_1, .int v7_2])), (a7_0, .inl (cyI, 200, .inl g7_0)), (a7_1, .inl (cyZ, 200, .inl g7_1)), (o5, .inr (5, [.ref o7, .ref a5_1, .int v5_2, .int (r_3.2.1), .int v5_4, .int v5_5, .int 1, .int v5_7, .int 0, .int v5_9])), (a5_1, .inl (cyI, 400, .inl g5_1))]) [0, 1, 2, 3, 4] rfl
                  have hD9 := hD.sub (ws' := [(o7, .inr (7, [.ref a7_0, .ref a7_1, .int v7_2])), (a7_0, .inl (cyI, 200, .inl g7_0)), (a7_1, .inl (cyZ, 200, .inl g7_1)), (o5, .inr (5, [.ref o7, .ref a5_1, .int v5_2, .int (r_3.2.1), .int v5_4, .int v5_5, .int 1, .int v5_7, .int 0, .int v5_9])), (a5_1, .inl (cyI, 400, .inl g5_1))]) [0, 1, 2, 3, 4] (by decide) rfl
                  exact W.vret hx hb hr (fun t ht hW => ⟨⟨(), rfl, trivial, by rw [ht]; exact hP9, va_K.moved hW.alike hK, hD9⟩, hS.F ht⟩) hS.2.2 dX5_pullType_144
                · replace hf := x_ip c_21 hf
                  refine lv_iload hx hb dX5_pullType_131 (lv_at hl 0 rfl) ?_
                  refine lv_if_ne (tgt := 140) hx hb dX5_pullType_133 (by decide) (fun c_22 => absurd (by decide) c_22) (fun _ => ?_)
                  refine lv_iconst (v := 1) hx hb dX5_pullType_136 (by decide) ?_
                  refine lv_goto (tgt := 141) hx hb dX5_pullType_137 (by decide) ?_
                  refine va_put (D := (dC, dI)) (ci := 5) (v := .int 1) (ty := .boolean) (C := RX5) (T := TX5) (N := 10) hx hb hts i_X5_pullType_X5 tyX5 tyX5_ok nmX5 hown hK hP hD hS 3 rfl rfl 6 (by decide) k_4 (fun _ h9 => h9) rfl (by decide +kernel) rfl rfl (Nat.le_of_ble_eq_true rfl) dX5_pullType_141 (fun H locs hP hD hS => ?_)
                  have hP : va_P (dC, dI) vwCl [(o7, .inr (7, [.ref a7_0, .ref a7_1, .int v7_2])), (a7_0, .inl (cyI, 200, .inl g7_0)), (a7_1, .inl (cyZ, 200, .inl g7_1)), (o5, .inr (5, [.ref o7, .ref a5_1, .int v5_2, .int (r_3.2.1), .int v5_4, .int v5_5, .int 1, .int v5_7, .int 0, .int v5_9])), (a5_1, .inl (cyI, 400, .inl g5_1))] H := hP
                  have hD : va_D A [(o7, .inr (7, [.ref a7_0, .ref a7_1, .int v7_2])), (a7_0, .inl (cyI, 200, .inl g7_0)), (a7_1, .inl (cyZ, 200, .inl g7_1)), (o5, .inr (5, [.ref o7, .ref a5_1, .int v5_2, .int (r_3.2.1), .int v5_4, .int v5_5, .int 1, .int v5_7, .int 0, .int v5_9])), (a5_1, .inl (cyI, 400, .inl g5_1))] := hD
                  obtain rfl := Option.some.inj hf
                  have hP9 := hP.sub (ws' := [(o7, .inr (7, [.ref a7_0, .ref a7_1, .int v7_2])), (a7_0, .inl (cyI, 200, .inl g7_0)), (a7_1, .inl (cyZ, 200, .inl g7_1)), (o5, .inr (5, [.ref o7, .ref a5_1, .int v5_2, .int (r_3.2.1), .int v5_4, .int v5_5, .int 1, .int v5_7, .int 0, .int v5_9])), (a5_1, .inl (cyI, 400, .inl g5_1))]) [0, 1, 2, 3, 4] rfl
                  have hD9 := hD.sub (ws' := [(o7, .inr (7, [.ref a7_0, .ref a7_1, .int v7_2])), (a7_0, .inl (cyI, 200, .inl g7_0)), (a7_1, .inl (cyZ, 200, .inl g7_1)), (o5, .inr (5, [.ref o7, .ref a5_1, .int v5_2, .int (r_3.2.1), .int v5_4, .int v5_5, .int 1, .int v5_7, .int 0, .int v5_9])), (a5_1, .inl (cyI, 400, .inl g5_1))]) [0, 1, 2, 3, 4] (by decide) rfl
                  exact W.vret hx hb hr (fun t ht hW => ⟨⟨(), rfl, trivial, by rw [ht]; exact hP9, va_K.moved hW.alike hK, hD9⟩, hS.F ht⟩) hS.2.2 dX5_pullType_144
            · replace hf := x_in c_16 hf
              refine lv_aload_n hx hb dX5_pullType_78 rfl (lv_at hl 2 rfl) ?_
              refine va_get (D := (dC, dI)) (ci := 5) (v := .ref o7) (C := RX5) (T := TX5) (N := 10) hx hb hts i_X5_pullType_X5 hown hK hP 3 rfl rfl 0 (by decide) k_1 (fun _ h9 => h9) rfl dX5_pullType_79 ?_
              refine lv_iload_n hx hb dX5_pullType_82 rfl (lv_at hl 0 rfl) ?_
              refine lv_iload_n hx hb dX5_pullType_83 rfl (lv_at hl 3 rfl) ?_
              refine lv_iload_n hx hb dX5_pullType_84 rfl (lv_at hl 3 rfl) ?_
              refine lv_ldc (v := 65535) hx hb hown k_5 dX5_pullType_85 ?_
              refine lv_iand hx hb dX5_pullType_87 ?_
              refine lv_isub hx hb dX5_pullType_88 ?_
              obtain ⟨r_23, h_23, hf⟩ := x_bi hf
              have hPc := hP.sub (ws' := [(o7, .inr (7, [.ref a7_0, .ref a7_1, .int v7_2])), (a7_0, .inl (cyI, 200, .inl g7_0)), (a7_1, .inl (cyZ, 200, .inl g7_1))]) [0, 1, 2] rfl
              refine va_calli (va_runV (As := [.int (r_3.1 >>> (4 &&& 31)), .int (p1 - (p1 &&& 65535))]) (rest := []) ⟨hx, hb, hml, hown, hts⟩ (c_X7_mayStand l dC dI cyI cyZ cyJ H.size o7 a7_0 a7_1 v7_2 g7_0 g7_1 (r_3.1 >>> (4 &&& 31)) (p1 - (p1 &&& 65535)) r_23 h_23) (cwV 2 hts gX5_pullType_X7_mayStand rfl rfl rfl (by decide +kernel) ⟨Nat.le_of_ble_eq_true rfl, Nat.le_of_ble_eq_true rfl⟩) (x_pV hN hK hPc (ci := 7) (q0 := 0) rfl rfl) rfl rfl hl.1 rfl (lv_room (Nat.le_of_ble_eq_true rfl)) dX5_pullType_89 ⟨Nat.le_of_ble_eq_true rfl, Nat.le_of_ble_eq_true rfl⟩) hS x_nA (x_nf hA hS) (fun q_23 u t H1 locs ht hvm hw hB hz1 hk1 hS => ?_)
              have hP := x_kp hP hk1
              clear ht hvm hB hz1 hk1 t u hPc
              generalize H1 = H at hP hS ⊢
              obtain ⟨hw, b_23⟩ := hw
              obtain rfl := hw.symm
              refine lv_if_eq (tgt := 99) hx hb dX5_pullType_92 (by decide) (fun c_24 => ?_) (fun c_24 => ?_)
              · replace hf := x_ip c_24 hf
                refine lv_iconst (v := 0) hx hb dX5_pullType_99 (by decide) ?_
                refine lv_istore (lv' := [(4, .int 0), (3, .int (r_3.1 >>> (4 &&& 31))), (2, .int (r_3.1)), (0, .ref o5), (1, .int p1)]) hx hb dX5_pullType_100 hl (by decide) rfl (fun ls hl => ?_)
                refine lv_aload_n hx hb dX5_pullType_102 rfl (lv_at hl 3 rfl) ?_
                refine lv_aload_n hx hb dX5_pullType_103 rfl (lv_at hl 3 rfl) ?_
                refine va_get (D := (dC, dI)) (ci := 5) (v := .int v5_8) (C := RX5) (T := TX5) (N := 10) hx hb hts i_X5_pullType_X5 hown hK hP 3 rfl rfl 8 (by decide) k_3 (fun _ h9 => h9) rfl dX5_pullType_104 ?_
                refine lv_if_ne (tgt := 115) hx hb dX5_pullType_107 (by decide) (fun c_25 => ?_) (fun c_25 => ?_)
                · replace hf := x_in c_25 hf
                  refine lv_iconst (v := 1) hx hb dX5_pullType_115 (by decide) ?_
                  refine lv_goto (tgt := 120) hx hb dX5_pullType_116 (by decide) ?_
                  refine va_put (D := (dC, dI)) (ci := 5) (v := .int 1) (ty := .boolean) (C := RX5) (T := TX5) (N := 10) hx hb hts i_X5_pullType_X5 tyX5 tyX5_ok nmX5 hown hK hP hD hS 3 rfl rfl 8 (by decide) k_3 (fun _ h9 => h9) rfl (by decide +kernel) rfl rfl (Nat.le_of_ble_eq_true rfl) dX5_pullType_120 (fun H locs hP hD hS => ?_)
                  have hP : va_P (dC, dI) vwCl [(o7, .inr (7, [.ref a7_0, .ref a7_1, .int v7_2])), (a7_0, .inl (cyI, 200, .inl g7_0)), (a7_1, .inl (cyZ, 200, .inl g7_1)), (o5, .inr (5, [.ref o7, .ref a5_1, .int v5_2, .int (r_3.2.1), .int v5_4, .int v5_5, .int (r_3.2.2), .int v5_7, .int 1, .int v5_9])), (a5_1, .inl (cyI, 400, .inl g5_1))] H := hP
                  have hD : va_D A [(o7, .inr (7, [.ref a7_0, .ref a7_1, .int v7_2])), (a7_0, .inl (cyI, 200, .inl g7_0)), (a7_1, .inl (cyZ, 200, .inl g7_1)), (o5, .inr (5, [.ref o7, .ref a5_1, .int v5_2, .int (r_3.2.1), .int v5_4, .int v5_5, .int (r_3.2.2), .int v5_7, .int 1, .int v5_9])), (a5_1, .inl (cyI, 400, .inl g5_1))] := hD
                  refine lv_aload_n hx hb dX5_pullType_123 rfl (lv_at hl 3 rfl) ?_
                  refine lv_aload_n hx hb dX5_pullType_124 rfl (lv_at hl 3 rfl) ?_
                  refine va_get (D := (dC, dI)) (ci := 5) (v := .int (r_3.2.2)) (C := RX5) (T := TX5) (N := 10) hx hb hts i_X5_pullType_X5 hown hK hP 3 rfl rfl 6 (by decide) k_4 (fun _ h9 => h9) rfl dX5_pullType_125 ?_
                  refine lv_if_ne (tgt := 136) hx hb dX5_pullType_128 (by decide) (fun c_26 => ?_) (fun c_26 => ?_)
                  · replace hf := x_in c_26 hf
                    refine lv_iconst (v := 1) hx hb dX5_pullType_136 (by decide) ?_
                    refine lv_goto (tgt := 141) hx hb dX5_pullType_137 (by decide) ?_
                    refine va_put (D := (dC, dI)) (ci := 5) (v := .int 1) (ty := .boolean) (C := RX5) (T := TX5) (N := 10) hx hb hts i_X5_pullType_X5 tyX5 tyX5_ok nmX5 hown hK hP hD hS 3 rfl rfl 6 (by decide) k_4 (fun _ h9 => h9) rfl (by decide +kernel) rfl rfl (Nat.le_of_ble_eq_true rfl) dX5_pullType_141 (fun H locs hP hD hS => ?_)
                    have hP : va_P (dC, dI) vwCl [(o7, .inr (7, [.ref a7_0, .ref a7_1, .int v7_2])), (a7_0, .inl (cyI, 200, .inl g7_0)), (a7_1, .inl (cyZ, 200, .inl g7_1)), (o5, .inr (5, [.ref o7, .ref a5_1, .int v5_2, .int (r_3.2.1), .int v5_4, .int v5_5, .int 1, .int v5_7, .int 1, .int v5_9])), (a5_1, .inl (cyI, 400, .inl g5_1))] H := hP
                    have hD : va_D A [(o7, .inr (7, [.ref a7_0, .ref a7_1, .int v7_2])), (a7_0, .inl (cyI, 200, .inl g7_0)), (a7_1, .inl (cyZ, 200, .inl g7_1)), (o5, .inr (5, [.ref o7, .ref a5_1, .int v5_2, .int (r_3.2.1), .int v5_4, .int v5_5, .int 1, .int v5_7, .int 1, .int v5_9])), (a5_1, .inl (cyI, 400, .inl g5_1))] := hD
                    obtain rfl := Option.some.inj hf
                    have hP9 := hP.sub (ws' := [(o7, .inr (7, [.ref a7_0, .ref a7_1, .int v7_2])), (a7_0, .inl (cyI, 200, .inl g7_0)), (a7_1, .inl (cyZ, 200, .inl g7_1)), (o5, .inr (5, [.ref o7, .ref a5_1, .int v5_2, .int (r_3.2.1), .int v5_4, .int v5_5, .int 1, .int v5_7, .int 1, .int v5_9])), (a5_1, .inl (cyI, 400, .inl g5_1))]) [0, 1, 2, 3, 4] rfl
                    have hD9 := hD.sub (ws' := [(o7, .inr (7, [.ref a7_0, .ref a7_1, .int v7_2])), (a7_0, .inl (cyI, 200, .inl g7_0)), (a7_1, .inl (cyZ, 200, .inl g7_1)), (o5, .inr (5, [.ref o7, .ref a5_1, .int v5_2, .int (r_3.2.1), .int v5_4, .int v5_5, .int 1, .int v5_7, .int 1, .int v5_9])), (a5_1, .inl (cyI, 400, .inl g5_1))]) [0, 1, 2, 3, 4] (by decide) rfl
                    exact W.vret hx hb hr (fun t ht hW => ⟨⟨(), rfl, trivial, by rw [ht]; exact hP9, va_K.moved hW.alike hK, hD9⟩, hS.F ht⟩) hS.2.2 dX5_pullType_144
                  · replace hf := x_ip c_26 hf
                    refine lv_iload hx hb dX5_pullType_131 (lv_at hl 0 rfl) ?_
                    refine lv_if_ne (tgt := 140) hx hb dX5_pullType_133 (by decide) (fun c_27 => absurd (by decide) c_27) (fun _ => ?_)
                    refine lv_iconst (v := 1) hx hb dX5_pullType_136 (by decide) ?_
                    refine lv_goto (tgt := 141) hx hb dX5_pullType_137 (by decide) ?_
                    refine va_put (D := (dC, dI)) (ci := 5) (v := .int 1) (ty := .boolean) (C := RX5) (T := TX5) (N := 10) hx hb hts i_X5_pullType_X5 tyX5 tyX5_ok nmX5 hown hK hP hD hS 3 rfl rfl 6 (by decide) k_4 (fun _ h9 => h9) rfl (by decide +kernel) rfl rfl (Nat.le_of_ble_eq_true rfl) dX5_pullType_141 (fun H locs hP hD hS => ?_)
                    have hP : va_P (dC, dI) vwCl [(o7, .inr (7, [.ref a7_0, .ref a7_1, .int v7_2])), (a7_0, .inl (cyI, 200, .inl g7_0)), (a7_1, .inl (cyZ, 200, .inl g7_1)), (o5, .inr (5, [.ref o7, .ref a5_1, .int v5_2, .int (r_3.2.1), .int v5_4, .int v5_5, .int 1, .int v5_7, .int 1, .int v5_9])), (a5_1, .inl (cyI, 400, .inl g5_1))] H := hP
                    have hD : va_D A [(o7, .inr (7, [.ref a7_0, .ref a7_1, .int v7_2])), (a7_0, .inl (cyI, 200, .inl g7_0)), (a7_1, .inl (cyZ, 200, .inl g7_1)), (o5, .inr (5, [.ref o7, .ref a5_1, .int v5_2, .int (r_3.2.1), .int v5_4, .int v5_5, .int 1, .int v5_7, .int 1, .int v5_9])), (a5_1, .inl (cyI, 400, .inl g5_1))] := hD
                    obtain rfl := Option.some.inj hf
                    have hP9 := hP.sub (ws' := [(o7, .inr (7, [.ref a7_0, .ref a7_1, .int v7_2])), (a7_0, .inl (cyI, 200, .inl g7_0)), (a7_1, .inl (cyZ, 200, .inl g7_1)), (o5, .inr (5, [.ref o7, .ref a5_1, .int v5_2, .int (r_3.2.1), .int v5_4, .int v5_5, .int 1, .int v5_7, .int 1, .int v5_9])), (a5_1, .inl (cyI, 400, .inl g5_1))]) [0, 1, 2, 3, 4] rfl
                    have hD9 := hD.sub (ws' := [(o7, .inr (7, [.ref a7_0, .ref a7_1, .int v7_2])), (a7_0, .inl (cyI, 200, .inl g7_0)), (a7_1, .inl (cyZ, 200, .inl g7_1)), (o5, .inr (5, [.ref o7, .ref a5_1, .int v5_2, .int (r_3.2.1), .int v5_4, .int v5_5, .int 1, .int v5_7, .int 1, .int v5_9])), (a5_1, .inl (cyI, 400, .inl g5_1))]) [0, 1, 2, 3, 4] (by decide) rfl
                    exact W.vret hx hb hr (fun t ht hW => ⟨⟨(), rfl, trivial, by rw [ht]; exact hP9, va_K.moved hW.alike hK, hD9⟩, hS.F ht⟩) hS.2.2 dX5_pullType_144
                · replace hf := x_ip c_25 hf
                  refine lv_iload hx hb dX5_pullType_110 (lv_at hl 0 rfl) ?_
                  refine lv_if_eq (tgt := 119) hx hb dX5_pullType_112 (by decide) (fun _ => ?_) (fun c_28 => absurd (by decide) c_28)
                  refine lv_iconst (v := 0) hx hb dX5_pullType_119 (by decide) ?_
                  refine va_put (D := (dC, dI)) (ci := 5) (v := .int 0) (ty := .boolean) (C := RX5) (T := TX5) (N := 10) hx hb hts i_X5_pullType_X5 tyX5 tyX5_ok nmX5 hown hK hP hD hS 3 rfl rfl 8 (by decide) k_3 (fun _ h9 => h9) rfl (by decide +kernel) rfl rfl (Nat.le_of_ble_eq_true rfl) dX5_pullType_120 (fun H locs hP hD hS => ?_)
                  have hP : va_P (dC, dI) vwCl [(o7, .inr (7, [.ref a7_0, .ref a7_1, .int v7_2])), (a7_0, .inl (cyI, 200, .inl g7_0)), (a7_1, .inl (cyZ, 200, .inl g7_1)), (o5, .inr (5, [.ref o7, .ref a5_1, .int v5_2, .int (r_3.2.1), .int v5_4, .int v5_5, .int (r_3.2.2), .int v5_7, .int 0, .int v5_9])), (a5_1, .inl (cyI, 400, .inl g5_1))] H := hP
                  have hD : va_D A [(o7, .inr (7, [.ref a7_0, .ref a7_1, .int v7_2])), (a7_0, .inl (cyI, 200, .inl g7_0)), (a7_1, .inl (cyZ, 200, .inl g7_1)), (o5, .inr (5, [.ref o7, .ref a5_1, .int v5_2, .int (r_3.2.1), .int v5_4, .int v5_5, .int (r_3.2.2), .int v5_7, .int 0, .int v5_9])), (a5_1, .inl (cyI, 400, .inl g5_1))] := hD
                  refine lv_aload_n hx hb dX5_pullType_123 rfl (lv_at hl 3 rfl) ?_
                  refine lv_aload_n hx hb dX5_pullType_124 rfl (lv_at hl 3 rfl) ?_
                  refine va_get (D := (dC, dI)) (ci := 5) (v := .int (r_3.2.2)) (C := RX5) (T := TX5) (N := 10) hx hb hts i_X5_pullType_X5 hown hK hP 3 rfl rfl 6 (by decide) k_4 (fun _ h9 => h9) rfl dX5_pullType_125 ?_
                  refine lv_if_ne (tgt := 136) hx hb dX5_pullType_128 (by decide) (fun c_29 => ?_) (fun c_29 => ?_)
                  · replace hf := x_in c_29 hf
                    refine lv_iconst (v := 1) hx hb dX5_pullType_136 (by decide) ?_
                    refine lv_goto (tgt := 141) hx hb dX5_pullType_137 (by decide) ?_
                    refine va_put (D := (dC, dI)) (ci := 5) (v := .int 1) (ty := .boolean) (C := RX5) (T := TX5) (N := 10) hx hb hts i_X5_pullType_X5 tyX5 tyX5_ok nmX5 hown hK hP hD hS 3 rfl rfl 6 (by decide) k_4 (fun _ h9 => h9) rfl (by decide +kernel) rfl rfl (Nat.le_of_ble_eq_true rfl) dX5_pullType_141 (fun H locs hP hD hS => ?_)
                    have hP : va_P (dC, dI) vwCl [(o7, .inr (7, [.ref a7_0, .ref a7_1, .int v7_2])), (a7_0, .inl (cyI, 200, .inl g7_0)), (a7_1, .inl (cyZ, 200, .inl g7_1)), (o5, .inr (5, [.ref o7, .ref a5_1, .int v5_2, .int (r_3.2.1), .int v5_4, .int v5_5, .int 1, .int v5_7, .int 0, .int v5_9])), (a5_1, .inl (cyI, 400, .inl g5_1))] H := hP
                    have hD : va_D A [(o7, .inr (7, [.ref a7_0, .ref a7_1, .int v7_2])), (a7_0, .inl (cyI, 200, .inl g7_0)), (a7_1, .inl (cyZ, 200, .inl g7_1)), (o5, .inr (5, [.ref o7, .ref a5_1, .int v5_2, .int (r_3.2.1), .int v5_4, .int v5_5, .int 1, .int v5_7, .int 0, .int v5_9])), (a5_1, .inl (cyI, 400, .inl g5_1))] := hD
                    obtain rfl := Option.some.inj hf
                    have hP9 := hP.sub (ws' := [(o7, .inr (7, [.ref a7_0, .ref a7_1, .int v7_2])), (a7_0, .inl (cyI, 200, .inl g7_0)), (a7_1, .inl (cyZ, 200, .inl g7_1)), (o5, .inr (5, [.ref o7, .ref a5_1, .int v5_2, .int (r_3.2.1), .int v5_4, .int v5_5, .int 1, .int v5_7, .int 0, .int v5_9])), (a5_1, .inl (cyI, 400, .inl g5_1))]) [0, 1, 2, 3, 4] rfl
                    have hD9 := hD.sub (ws' := [(o7, .inr (7, [.ref a7_0, .ref a7_1, .int v7_2])), (a7_0, .inl (cyI, 200, .inl g7_0)), (a7_1, .inl (cyZ, 200, .inl g7_1)), (o5, .inr (5, [.ref o7, .ref a5_1, .int v5_2, .int (r_3.2.1), .int v5_4, .int v5_5, .int 1, .int v5_7, .int 0, .int v5_9])), (a5_1, .inl (cyI, 400, .inl g5_1))]) [0, 1, 2, 3, 4] (by decide) rfl
                    exact W.vret hx hb hr (fun t ht hW => ⟨⟨(), rfl, trivial, by rw [ht]; exact hP9, va_K.moved hW.alike hK, hD9⟩, hS.F ht⟩) hS.2.2 dX5_pullType_144
                  · replace hf := x_ip c_29 hf
                    refine lv_iload hx hb dX5_pullType_131 (lv_at hl 0 rfl) ?_
                    refine lv_if_ne (tgt := 140) hx hb dX5_pullType_133 (by decide) (fun c_30 => absurd (by decide) c_30) (fun _ => ?_)
                    refine lv_iconst (v := 1) hx hb dX5_pullType_136 (by decide) ?_
                    refine lv_goto (tgt := 141) hx hb dX5_pullType_137 (by decide) ?_
                    refine va_put (D := (dC, dI)) (ci := 5) (v := .int 1) (ty := .boolean) (C := RX5) (T := TX5) (N := 10) hx hb hts i_X5_pullType_X5 tyX5 tyX5_ok nmX5 hown hK hP hD hS 3 rfl rfl 6 (by decide) k_4 (fun _ h9 => h9) rfl (by decide +kernel) rfl rfl (Nat.le_of_ble_eq_true rfl) dX5_pullType_141 (fun H locs hP hD hS => ?_)
                    have hP : va_P (dC, dI) vwCl [(o7, .inr (7, [.ref a7_0, .ref a7_1, .int v7_2])), (a7_0, .inl (cyI, 200, .inl g7_0)), (a7_1, .inl (cyZ, 200, .inl g7_1)), (o5, .inr (5, [.ref o7, .ref a5_1, .int v5_2, .int (r_3.2.1), .int v5_4, .int v5_5, .int 1, .int v5_7, .int 0, .int v5_9])), (a5_1, .inl (cyI, 400, .inl g5_1))] H := hP
                    have hD : va_D A [(o7, .inr (7, [.ref a7_0, .ref a7_1, .int v7_2])), (a7_0, .inl (cyI, 200, .inl g7_0)), (a7_1, .inl (cyZ, 200, .inl g7_1)), (o5, .inr (5, [.ref o7, .ref a5_1, .int v5_2, .int (r_3.2.1), .int v5_4, .int v5_5, .int 1, .int v5_7, .int 0, .int v5_9])), (a5_1, .inl (cyI, 400, .inl g5_1))] := hD
                    obtain rfl := Option.some.inj hf
                    have hP9 := hP.sub (ws' := [(o7, .inr (7, [.ref a7_0, .ref a7_1, .int v7_2])), (a7_0, .inl (cyI, 200, .inl g7_0)), (a7_1, .inl (cyZ, 200, .inl g7_1)), (o5, .inr (5, [.ref o7, .ref a5_1, .int v5_2, .int (r_3.2.1), .int v5_4, .int v5_5, .int 1, .int v5_7, .int 0, .int v5_9])), (a5_1, .inl (cyI, 400, .inl g5_1))]) [0, 1, 2, 3, 4] rfl
                    have hD9 := hD.sub (ws' := [(o7, .inr (7, [.ref a7_0, .ref a7_1, .int v7_2])), (a7_0, .inl (cyI, 200, .inl g7_0)), (a7_1, .inl (cyZ, 200, .inl g7_1)), (o5, .inr (5, [.ref o7, .ref a5_1, .int v5_2, .int (r_3.2.1), .int v5_4, .int v5_5, .int 1, .int v5_7, .int 0, .int v5_9])), (a5_1, .inl (cyI, 400, .inl g5_1))]) [0, 1, 2, 3, 4] (by decide) rfl
                    exact W.vret hx hb hr (fun t ht hW => ⟨⟨(), rfl, trivial, by rw [ht]; exact hP9, va_K.moved hW.alike hK, hD9⟩, hS.F ht⟩) hS.2.2 dX5_pullType_144
              · replace hf := x_in c_24 hf
                refine lv_iconst (v := 1) hx hb dX5_pullType_95 (by decide) ?_
                refine lv_goto (tgt := 100) hx hb dX5_pullType_96 (by decide) ?_
                refine lv_istore (lv' := [(4, .int 1), (3, .int (r_3.1 >>> (4 &&& 31))), (2, .int (r_3.1)), (0, .ref o5), (1, .int p1)]) hx hb dX5_pullType_100 hl (by decide) rfl (fun ls hl => ?_)
                refine lv_aload_n hx hb dX5_pullType_102 rfl (lv_at hl 3 rfl) ?_
                refine lv_aload_n hx hb dX5_pullType_103 rfl (lv_at hl 3 rfl) ?_
                refine va_get (D := (dC, dI)) (ci := 5) (v := .int v5_8) (C := RX5) (T := TX5) (N := 10) hx hb hts i_X5_pullType_X5 hown hK hP 3 rfl rfl 8 (by decide) k_3 (fun _ h9 => h9) rfl dX5_pullType_104 ?_
                refine lv_if_ne (tgt := 115) hx hb dX5_pullType_107 (by decide) (fun c_31 => ?_) (fun c_31 => ?_)
                · replace hf := x_in c_31 hf
                  refine lv_iconst (v := 1) hx hb dX5_pullType_115 (by decide) ?_
                  refine lv_goto (tgt := 120) hx hb dX5_pullType_116 (by decide) ?_
                  refine va_put (D := (dC, dI)) (ci := 5) (v := .int 1) (ty := .boolean) (C := RX5) (T := TX5) (N := 10) hx hb hts i_X5_pullType_X5 tyX5 tyX5_ok nmX5 hown hK hP hD hS 3 rfl rfl 8 (by decide) k_3 (fun _ h9 => h9) rfl (by decide +kernel) rfl rfl (Nat.le_of_ble_eq_true rfl) dX5_pullType_120 (fun H locs hP hD hS => ?_)
                  have hP : va_P (dC, dI) vwCl [(o7, .inr (7, [.ref a7_0, .ref a7_1, .int v7_2])), (a7_0, .inl (cyI, 200, .inl g7_0)), (a7_1, .inl (cyZ, 200, .inl g7_1)), (o5, .inr (5, [.ref o7, .ref a5_1, .int v5_2, .int (r_3.2.1), .int v5_4, .int v5_5, .int (r_3.2.2), .int v5_7, .int 1, .int v5_9])), (a5_1, .inl (cyI, 400, .inl g5_1))] H := hP
                  have hD : va_D A [(o7, .inr (7, [.ref a7_0, .ref a7_1, .int v7_2])), (a7_0, .inl (cyI, 200, .inl g7_0)), (a7_1, .inl (cyZ, 200, .inl g7_1)), (o5, .inr (5, [.ref o7, .ref a5_1, .int v5_2, .int (r_3.2.1), .int v5_4, .int v5_5, .int (r_3.2.2), .int v5_7, .int 1, .int v5_9])), (a5_1, .inl (cyI, 400, .inl g5_1))] := hD
                  refine lv_aload_n hx hb dX5_pullType_123 rfl (lv_at hl 3 rfl) ?_
                  refine lv_aload_n hx hb dX5_pullType_124 rfl (lv_at hl 3 rfl) ?_
                  refine va_get (D := (dC, dI)) (ci := 5) (v := .int (r_3.2.2)) (C := RX5) (T := TX5) (N := 10) hx hb hts i_X5_pullType_X5 hown hK hP 3 rfl rfl 6 (by decide) k_4 (fun _ h9 => h9) rfl dX5_pullType_125 ?_
                  refine lv_if_ne (tgt := 136) hx hb dX5_pullType_128 (by decide) (fun c_32 => ?_) (fun c_32 => ?_)
                  · replace hf := x_in c_32 hf
                    refine lv_iconst (v := 1) hx hb dX5_pullType_136 (by decide) ?_
                    refine lv_goto (tgt := 141) hx hb dX5_pullType_137 (by decide) ?_
                    refine va_put (D := (dC, dI)) (ci := 5) (v := .int 1) (ty := .boolean) (C := RX5) (T := TX5) (N := 10) hx hb hts i_X5_pullType_X5 tyX5 tyX5_ok nmX5 hown hK hP hD hS 3 rfl rfl 6 (by decide) k_4 (fun _ h9 => h9) rfl (by decide +kernel) rfl rfl (Nat.le_of_ble_eq_true rfl) dX5_pullType_141 (fun H locs hP hD hS => ?_)
                    have hP : va_P (dC, dI) vwCl [(o7, .inr (7, [.ref a7_0, .ref a7_1, .int v7_2])), (a7_0, .inl (cyI, 200, .inl g7_0)), (a7_1, .inl (cyZ, 200, .inl g7_1)), (o5, .inr (5, [.ref o7, .ref a5_1, .int v5_2, .int (r_3.2.1), .int v5_4, .int v5_5, .int 1, .int v5_7, .int 1, .int v5_9])), (a5_1, .inl (cyI, 400, .inl g5_1))] H := hP
                    have hD : va_D A [(o7, .inr (7, [.ref a7_0, .ref a7_1, .int v7_2])), (a7_0, .inl (cyI, 200, .inl g7_0)), (a7_1, .inl (cyZ, 200, .inl g7_1)), (o5, .inr (5, [.ref o7, .ref a5_1, .int v5_2, .int (r_3.2.1), .int v5_4, .int v5_5, .int 1, .int v5_7, .int 1, .int v5_9])), (a5_1, .inl (cyI, 400, .inl g5_1))] := hD
                    obtain rfl := Option.some.inj hf
                    have hP9 := hP.sub (ws' := [(o7, .inr (7, [.ref a7_0, .ref a7_1, .int v7_2])), (a7_0, .inl (cyI, 200, .inl g7_0)), (a7_1, .inl (cyZ, 200, .inl g7_1)), (o5, .inr (5, [.ref o7, .ref a5_1, .int v5_2, .int (r_3.2.1), .int v5_4, .int v5_5, .int 1, .int v5_7, .int 1, .int v5_9])), (a5_1, .inl (cyI, 400, .inl g5_1))]) [0, 1, 2, 3, 4] rfl
                    have hD9 := hD.sub (ws' := [(o7, .inr (7, [.ref a7_0, .ref a7_1, .int v7_2])), (a7_0, .inl (cyI, 200, .inl g7_0)), (a7_1, .inl (cyZ, 200, .inl g7_1)), (o5, .inr (5, [.ref o7, .ref a5_1, .int v5_2, .int (r_3.2.1), .int v5_4, .int v5_5, .int 1, .int v5_7, .int 1, .int v5_9])), (a5_1, .inl (cyI, 400, .inl g5_1))]) [0, 1, 2, 3, 4] (by decide) rfl
                    exact W.vret hx hb hr (fun t ht hW => ⟨⟨(), rfl, trivial, by rw [ht]; exact hP9, va_K.moved hW.alike hK, hD9⟩, hS.F ht⟩) hS.2.2 dX5_pullType_144
                  · replace hf := x_ip c_32 hf
                    refine lv_iload hx hb dX5_pullType_131 (lv_at hl 0 rfl) ?_
                    refine lv_if_ne (tgt := 140) hx hb dX5_pullType_133 (by decide) (fun _ => ?_) (fun c_33 => absurd c_33 (by decide))
                    refine lv_iconst (v := 0) hx hb dX5_pullType_140 (by decide) ?_
                    refine va_put (D := (dC, dI)) (ci := 5) (v := .int 0) (ty := .boolean) (C := RX5) (T := TX5) (N := 10) hx hb hts i_X5_pullType_X5 tyX5 tyX5_ok nmX5 hown hK hP hD hS 3 rfl rfl 6 (by decide) k_4 (fun _ h9 => h9) rfl (by decide +kernel) rfl rfl (Nat.le_of_ble_eq_true rfl) dX5_pullType_141 (fun H locs hP hD hS => ?_)
                    have hP : va_P (dC, dI) vwCl [(o7, .inr (7, [.ref a7_0, .ref a7_1, .int v7_2])), (a7_0, .inl (cyI, 200, .inl g7_0)), (a7_1, .inl (cyZ, 200, .inl g7_1)), (o5, .inr (5, [.ref o7, .ref a5_1, .int v5_2, .int (r_3.2.1), .int v5_4, .int v5_5, .int 0, .int v5_7, .int 1, .int v5_9])), (a5_1, .inl (cyI, 400, .inl g5_1))] H := hP
                    have hD : va_D A [(o7, .inr (7, [.ref a7_0, .ref a7_1, .int v7_2])), (a7_0, .inl (cyI, 200, .inl g7_0)), (a7_1, .inl (cyZ, 200, .inl g7_1)), (o5, .inr (5, [.ref o7, .ref a5_1, .int v5_2, .int (r_3.2.1), .int v5_4, .int v5_5, .int 0, .int v5_7, .int 1, .int v5_9])), (a5_1, .inl (cyI, 400, .inl g5_1))] := hD
                    obtain rfl := Option.some.inj hf
                    have hP9 := hP.sub (ws' := [(o7, .inr (7, [.ref a7_0, .ref a7_1, .int v7_2])), (a7_0, .inl (cyI, 200, .inl g7_0)), (a7_1, .inl (cyZ, 200, .inl g7_1)), (o5, .inr (5, [.ref o7, .ref a5_1, .int v5_2, .int (r_3.2.1), .int v5_4, .int v5_5, .int 0, .int v5_7, .int 1, .int v5_9])), (a5_1, .inl (cyI, 400, .inl g5_1))]) [0, 1, 2, 3, 4] rfl
                    have hD9 := hD.sub (ws' := [(o7, .inr (7, [.ref a7_0, .ref a7_1, .int v7_2])), (a7_0, .inl (cyI, 200, .inl g7_0)), (a7_1, .inl (cyZ, 200, .inl g7_1)), (o5, .inr (5, [.ref o7, .ref a5_1, .int v5_2, .int (r_3.2.1), .int v5_4, .int v5_5, .int 0, .int v5_7, .int 1, .int v5_9])), (a5_1, .inl (cyI, 400, .inl g5_1))]) [0, 1, 2, 3, 4] (by decide) rfl
                    exact W.vret hx hb hr (fun t ht hW => ⟨⟨(), rfl, trivial, by rw [ht]; exact hP9, va_K.moved hW.alike hK, hD9⟩, hS.F ht⟩) hS.2.2 dX5_pullType_144
                · replace hf := x_ip c_31 hf
                  refine lv_iload hx hb dX5_pullType_110 (lv_at hl 0 rfl) ?_
                  refine lv_if_eq (tgt := 119) hx hb dX5_pullType_112 (by decide) (fun c_34 => absurd c_34 (by decide)) (fun _ => ?_)
                  refine lv_iconst (v := 1) hx hb dX5_pullType_115 (by decide) ?_
                  refine lv_goto (tgt := 120) hx hb dX5_pullType_116 (by decide) ?_
                  refine va_put (D := (dC, dI)) (ci := 5) (v := .int 1) (ty := .boolean) (C := RX5) (T := TX5) (N := 10) hx hb hts i_X5_pullType_X5 tyX5 tyX5_ok nmX5 hown hK hP hD hS 3 rfl rfl 8 (by decide) k_3 (fun _ h9 => h9) rfl (by decide +kernel) rfl rfl (Nat.le_of_ble_eq_true rfl) dX5_pullType_120 (fun H locs hP hD hS => ?_)
                  have hP : va_P (dC, dI) vwCl [(o7, .inr (7, [.ref a7_0, .ref a7_1, .int v7_2])), (a7_0, .inl (cyI, 200, .inl g7_0)), (a7_1, .inl (cyZ, 200, .inl g7_1)), (o5, .inr (5, [.ref o7, .ref a5_1, .int v5_2, .int (r_3.2.1), .int v5_4, .int v5_5, .int (r_3.2.2), .int v5_7, .int 1, .int v5_9])), (a5_1, .inl (cyI, 400, .inl g5_1))] H := hP
                  have hD : va_D A [(o7, .inr (7, [.ref a7_0, .ref a7_1, .int v7_2])), (a7_0, .inl (cyI, 200, .inl g7_0)), (a7_1, .inl (cyZ, 200, .inl g7_1)), (o5, .inr (5, [.ref o7, .ref a5_1, .int v5_2, .int (r_3.2.1), .int v5_4, .int v5_5, .int (r_3.2.2), .int v5_7, .int 1, .int v5_9])), (a5_1, .inl (cyI, 400, .inl g5_1))] := hD
                  refine lv_aload_n hx hb dX5_pullType_123 rfl (lv_at hl 3 rfl) ?_
                  refine lv_aload_n hx hb dX5_pullType_124 rfl (lv_at hl 3 rfl) ?_
                  refine va_get (D := (dC, dI)) (ci := 5) (v := .int (r_3.2.2)) (C := RX5) (T := TX5) (N := 10) hx hb hts i_X5_pullType_X5 hown hK hP 3 rfl rfl 6 (by decide) k_4 (fun _ h9 => h9) rfl dX5_pullType_125 ?_
                  refine lv_if_ne (tgt := 136) hx hb dX5_pullType_128 (by decide) (fun c_35 => ?_) (fun c_35 => ?_)
                  · replace hf := x_in c_35 hf
                    refine lv_iconst (v := 1) hx hb dX5_pullType_136 (by decide) ?_
                    refine lv_goto (tgt := 141) hx hb dX5_pullType_137 (by decide) ?_
                    refine va_put (D := (dC, dI)) (ci := 5) (v := .int 1) (ty := .boolean) (C := RX5) (T := TX5) (N := 10) hx hb hts i_X5_pullType_X5 tyX5 tyX5_ok nmX5 hown hK hP hD hS 3 rfl rfl 6 (by decide) k_4 (fun _ h9 => h9) rfl (by decide +kernel) rfl rfl (Nat.le_of_ble_eq_true rfl) dX5_pullType_141 (fun H locs hP hD hS => ?_)
                    have hP : va_P (dC, dI) vwCl [(o7, .inr (7, [.ref a7_0, .ref a7_1, .int v7_2])), (a7_0, .inl (cyI, 200, .inl g7_0)), (a7_1, .inl (cyZ, 200, .inl g7_1)), (o5, .inr (5, [.ref o7, .ref a5_1, .int v5_2, .int (r_3.2.1), .int v5_4, .int v5_5, .int 1, .int v5_7, .int 1, .int v5_9])), (a5_1, .inl (cyI, 400, .inl g5_1))] H := hP
                    have hD : va_D A [(o7, .inr (7, [.ref a7_0, .ref a7_1, .int v7_2])), (a7_0, .inl (cyI, 200, .inl g7_0)), (a7_1, .inl (cyZ, 200, .inl g7_1)), (o5, .inr (5, [.ref o7, .ref a5_1, .int v5_2, .int (r_3.2.1), .int v5_4, .int v5_5, .int 1, .int v5_7, .int 1, .int v5_9])), (a5_1, .inl (cyI, 400, .inl g5_1))] := hD
                    obtain rfl := Option.some.inj hf
                    have hP9 := hP.sub (ws' := [(o7, .inr (7, [.ref a7_0, .ref a7_1, .int v7_2])), (a7_0, .inl (cyI, 200, .inl g7_0)), (a7_1, .inl (cyZ, 200, .inl g7_1)), (o5, .inr (5, [.ref o7, .ref a5_1, .int v5_2, .int (r_3.2.1), .int v5_4, .int v5_5, .int 1, .int v5_7, .int 1, .int v5_9])), (a5_1, .inl (cyI, 400, .inl g5_1))]) [0, 1, 2, 3, 4] rfl
                    have hD9 := hD.sub (ws' := [(o7, .inr (7, [.ref a7_0, .ref a7_1, .int v7_2])), (a7_0, .inl (cyI, 200, .inl g7_0)), (a7_1, .inl (cyZ, 200, .inl g7_1)), (o5, .inr (5, [.ref o7, .ref a5_1, .int v5_2, .int (r_3.2.1), .int v5_4, .int v5_5, .int 1, .int v5_7, .int 1, .int v5_9])), (a5_1, .inl (cyI, 400, .inl g5_1))]) [0, 1, 2, 3, 4] (by decide) rfl
                    exact W.vret hx hb hr (fun t ht hW => ⟨⟨(), rfl, trivial, by rw [ht]; exact hP9, va_K.moved hW.alike hK, hD9⟩, hS.F ht⟩) hS.2.2 dX5_pullType_144
                  · replace hf := x_ip c_35 hf
                    refine lv_iload hx hb dX5_pullType_131 (lv_at hl 0 rfl) ?_
                    refine lv_if_ne (tgt := 140) hx hb dX5_pullType_133 (by decide) (fun _ => ?_) (fun c_36 => absurd c_36 (by decide))
                    refine lv_iconst (v := 0) hx hb dX5_pullType_140 (by decide) ?_
                    refine va_put (D := (dC, dI)) (ci := 5) (v := .int 0) (ty := .boolean) (C := RX5) (T := TX5) (N := 10) hx hb hts i_X5_pullType_X5 tyX5 tyX5_ok nmX5 hown hK hP hD hS 3 rfl rfl 6 (by decide) k_4 (fun _ h9 => h9) rfl (by decide +kernel) rfl rfl (Nat.le_of_ble_eq_true rfl) dX5_pullType_141 (fun H locs hP hD hS => ?_)
                    have hP : va_P (dC, dI) vwCl [(o7, .inr (7, [.ref a7_0, .ref a7_1, .int v7_2])), (a7_0, .inl (cyI, 200, .inl g7_0)), (a7_1, .inl (cyZ, 200, .inl g7_1)), (o5, .inr (5, [.ref o7, .ref a5_1, .int v5_2, .int (r_3.2.1), .int v5_4, .int v5_5, .int 0, .int v5_7, .int 1, .int v5_9])), (a5_1, .inl (cyI, 400, .inl g5_1))] H := hP
                    have hD : va_D A [(o7, .inr (7, [.ref a7_0, .ref a7_1, .int v7_2])), (a7_0, .inl (cyI, 200, .inl g7_0)), (a7_1, .inl (cyZ, 200, .inl g7_1)), (o5, .inr (5, [.ref o7, .ref a5_1, .int v5_2, .int (r_3.2.1), .int v5_4, .int v5_5, .int 0, .int v5_7, .int 1, .int v5_9])), (a5_1, .inl (cyI, 400, .inl g5_1))] := hD
                    obtain rfl := Option.some.inj hf
                    have hP9 := hP.sub (ws' := [(o7, .inr (7, [.ref a7_0, .ref a7_1, .int v7_2])), (a7_0, .inl (cyI, 200, .inl g7_0)), (a7_1, .inl (cyZ, 200, .inl g7_1)), (o5, .inr (5, [.ref o7, .ref a5_1, .int v5_2, .int (r_3.2.1), .int v5_4, .int v5_5, .int 0, .int v5_7, .int 1, .int v5_9])), (a5_1, .inl (cyI, 400, .inl g5_1))]) [0, 1, 2, 3, 4] rfl
                    have hD9 := hD.sub (ws' := [(o7, .inr (7, [.ref a7_0, .ref a7_1, .int v7_2])), (a7_0, .inl (cyI, 200, .inl g7_0)), (a7_1, .inl (cyZ, 200, .inl g7_1)), (o5, .inr (5, [.ref o7, .ref a5_1, .int v5_2, .int (r_3.2.1), .int v5_4, .int v5_5, .int 0, .int v5_7, .int 1, .int v5_9])), (a5_1, .inl (cyI, 400, .inl g5_1))]) [0, 1, 2, 3, 4] (by decide) rfl
                    exact W.vret hx hb hr (fun t ht hW => ⟨⟨(), rfl, trivial, by rw [ht]; exact hP9, va_K.moved hW.alike hK, hD9⟩, hS.F ht⟩) hS.2.2 dX5_pullType_144
      · replace hf := x_in c_5 hf
        refine lv_aload_n hx hb dX5_pullType_40 rfl (lv_at hl 2 rfl) ?_
        refine lv_iconst (v := 1) hx hb dX5_pullType_41 (by decide) ?_
        refine va_put (D := (dC, dI)) (ci := 5) (v := .int 1) (ty := .boolean) (C := RX5) (T := TX5) (N := 10) hx hb hts i_X5_pullType_X5 tyX5 tyX5_ok nmX5 hown hK hP hD hS 3 rfl rfl 6 (by decide) k_4 (fun _ h9 => h9) rfl (by decide +kernel) rfl rfl (Nat.le_of_ble_eq_true rfl) dX5_pullType_42 (fun H locs hP hD hS => ?_)
        have hP : va_P (dC, dI) vwCl [(o7, .inr (7, [.ref a7_0, .ref a7_1, .int v7_2])), (a7_0, .inl (cyI, 200, .inl g7_0)), (a7_1, .inl (cyZ, 200, .inl g7_1)), (o5, .inr (5, [.ref o7, .ref a5_1, .int v5_2, .int (r_3.2.1), .int v5_4, .int v5_5, .int 1, .int v5_7, .int v5_8, .int v5_9])), (a5_1, .inl (cyI, 400, .inl g5_1))] H := hP
        have hD : va_D A [(o7, .inr (7, [.ref a7_0, .ref a7_1, .int v7_2])), (a7_0, .inl (cyI, 200, .inl g7_0)), (a7_1, .inl (cyZ, 200, .inl g7_1)), (o5, .inr (5, [.ref o7, .ref a5_1, .int v5_2, .int (r_3.2.1), .int v5_4, .int v5_5, .int 1, .int v5_7, .int v5_8, .int v5_9])), (a5_1, .inl (cyI, 400, .inl g5_1))] := hD
        refine lv_goto (tgt := 144) hx hb dX5_pullType_45 (by decide) ?_
        obtain rfl := Option.some.inj hf
        have hP9 := hP.sub (ws' := [(o7, .inr (7, [.ref a7_0, .ref a7_1, .int v7_2])), (a7_0, .inl (cyI, 200, .inl g7_0)), (a7_1, .inl (cyZ, 200, .inl g7_1)), (o5, .inr (5, [.ref o7, .ref a5_1, .int v5_2, .int (r_3.2.1), .int v5_4, .int v5_5, .int 1, .int v5_7, .int v5_8, .int v5_9])), (a5_1, .inl (cyI, 400, .inl g5_1))]) [0, 1, 2, 3, 4] rfl
        have hD9 := hD.sub (ws' := [(o7, .inr (7, [.ref a7_0, .ref a7_1, .int v7_2])), (a7_0, .inl (cyI, 200, .inl g7_0)), (a7_1, .inl (cyZ, 200, .inl g7_1)), (o5, .inr (5, [.ref o7, .ref a5_1, .int v5_2, .int (r_3.2.1), .int v5_4, .int v5_5, .int 1, .int v5_7, .int v5_8, .int v5_9])), (a5_1, .inl (cyI, 400, .inl g5_1))]) [0, 1, 2, 3, 4] (by decide) rfl
        exact W.vret hx hb hr (fun t ht hW => ⟨⟨(), rfl, trivial, by rw [ht]; exact hP9, va_K.moved hW.alike hK, hD9⟩, hS.F ht⟩) hS.2.2 dX5_pullType_144
    · replace hf := x_ip c_4 hf
      obtain rfl := Option.some.inj hf
      have hP9 := hP.sub (ws' := [(o7, .inr (7, [.ref a7_0, .ref a7_1, .int v7_2])), (a7_0, .inl (cyI, 200, .inl g7_0)), (a7_1, .inl (cyZ, 200, .inl g7_1)), (o5, .inr (5, [.ref o7, .ref a5_1, .int v5_2, .int (r_3.2.1), .int v5_4, .int v5_5, .int (r_3.2.2), .int v5_7, .int v5_8, .int v5_9])), (a5_1, .inl (cyI, 400, .inl g5_1))]) [0, 1, 2, 3, 4] rfl
      have hD9 := hD.sub (ws' := [(o7, .inr (7, [.ref a7_0, .ref a7_1, .int v7_2])), (a7_0, .inl (cyI, 200, .inl g7_0)), (a7_1, .inl (cyZ, 200, .inl g7_1)), (o5, .inr (5, [.ref o7, .ref a5_1, .int v5_2, .int (r_3.2.1), .int v5_4, .int v5_5, .int (r_3.2.2), .int v5_7, .int v5_8, .int v5_9])), (a5_1, .inl (cyI, 400, .inl g5_1))]) [0, 1, 2, 3, 4] (by decide) rfl
      exact W.vret hx hb hr (fun t ht hW => ⟨⟨(), rfl, trivial, by rw [ht]; exact hP9, va_K.moved hW.alike hK, hD9⟩, hS.F ht⟩) hS.2.2 dX5_pullType_26
  · replace hf := x_in c_2 hf
    refine lv_aload_n hx hb dX5_pullType_7 rfl (lv_at hl 0 rfl) ?_
    refine lv_iload_n hx hb dX5_pullType_8 rfl (lv_at hl 1 rfl) ?_
    obtain ⟨r_37, h_37, hf⟩ := x_bi hf
    have hPc := hP.sub (ws' := []) [] rfl
    refine va_calli (va_runS (As := [.int p1]) (rest := [.ref o5]) ⟨hx, hb, hml, hown, hts⟩ (c_X7_placeOf l dC dI cyI cyZ cyJ H.size p1 r_37 h_37) (va_cwS 1 hts gX5_pullType_X7_placeOf rfl rfl rfl (by decide +kernel) ⟨Nat.le_of_ble_eq_true rfl, Nat.le_of_ble_eq_true rfl⟩) (x_pS hN hK hPc) rfl rfl hl.1 rfl (lv_room (Nat.le_of_ble_eq_true rfl)) dX5_pullType_9 ⟨Nat.le_of_ble_eq_true rfl, Nat.le_of_ble_eq_true rfl⟩) hS x_nA (x_nf hA hS) (fun q_37 u t H1 locs ht hvm hw hB hz1 hk1 hS => ?_)
    have hP := x_kp hP hk1
    clear ht hvm hB hz1 hk1 t u hPc
    generalize H1 = H at hP hS ⊢
    obtain rfl := hw.symm
    obtain ⟨r_38, h_38, hf⟩ := x_bi hf
    have hPc := hP.sub (ws' := [(o5, .inr (5, [.ref o7, .ref a5_1, .int v5_2, .int v5_3, .int v5_4, .int v5_5, .int v5_6, .int v5_7, .int v5_8, .int v5_9])), (a5_1, .inl (cyI, 400, .inl g5_1))]) [3, 4] rfl
    have hDc := hD.sub (ws' := [(o5, .inr (5, [.ref o7, .ref a5_1, .int v5_2, .int v5_3, .int v5_4, .int v5_5, .int v5_6, .int v5_7, .int v5_8, .int v5_9])), (a5_1, .inl (cyI, 400, .inl g5_1))]) [3, 4] (by decide) rfl
    have hFc := va_free (wc := [(o5, .inr (5, [.ref o7, .ref a5_1, .int v5_2, .int v5_3, .int v5_4, .int v5_5, .int v5_6, .int v5_7, .int v5_8, .int v5_9])), (a5_1, .inl (cyI, 400, .inl g5_1))]) hD hS hA [3, 4] rfl
    refine va_callv (va_runV (As := [.int r_37]) (rest := []) ⟨hx, hb, hml, hown, hts⟩ (c_X5_pullKind l dC dI cyI cyZ cyJ H.size o5 o7 a5_1 v5_2 v5_3 v5_4 v5_5 v5_6 v5_7 v5_8 v5_9 g5_1 r_37 r_38 h_38) (cwV 1 hts gX5_pullType_X5_pullKind rfl rfl rfl (by decide +kernel) ⟨Nat.le_of_ble_eq_true rfl, Nat.le_of_ble_eq_true rfl⟩) (x_pVD hN hK hPc hDc (ci := 5) (q0 := 0) rfl rfl) rfl rfl hl.1 rfl (lv_room (Nat.le_of_ble_eq_true rfl)) dX5_pullType_12 ⟨Nat.le_of_ble_eq_true rfl, Nat.le_of_ble_eq_true rfl⟩) hS (fun q _ h => hFc q h) hFc (fun u t H1 locs ht hvm hw hB hz1 hk1 hS => ?_)
    obtain ⟨hP1, hK1, hD1⟩ := hB
    rw [ht] at hP1
    obtain ⟨hP, hD⟩ := va_join (wr := [(o7, .inr (7, [.ref a7_0, .ref a7_1, .int v7_2])), (a7_0, .inl (cyI, 200, .inl g7_0)), (a7_1, .inl (cyZ, 200, .inl g7_1))]) (w1 := [(o5, .inr (5, [.ref o7, .ref a5_1, .int v5_2, .int (r_38.1), .int v5_4, .int v5_5, .int (r_38.2), .int v5_7, .int v5_8, .int v5_9])), (a5_1, .inl (cyI, 400, .inl g5_1))]) hP hD [3, 4] [0, 1, 2] rfl rfl (by decide) (by decide) hk1 hFc hP1 hD1
    clear hz1 hk1 hPc hDc hFc hP1 hK1 hD1 ht hvm t u
    generalize H1 = H at hP hS ⊢
    have hP : va_P (dC, dI) vwCl [(o7, .inr (7, [.ref a7_0, .ref a7_1, .int v7_2])), (a7_0, .inl (cyI, 200, .inl g7_0)), (a7_1, .inl (cyZ, 200, .inl g7_1)), (o5, .inr (5, [.ref o7, .ref a5_1, .int v5_2, .int (r_38.1), .int v5_4, .int v5_5, .int (r_38.2), .int v5_7, .int v5_8, .int v5_9])), (a5_1, .inl (cyI, 400, .inl g5_1))] H := hP
    have hD : va_D A [(o7, .inr (7, [.ref a7_0, .ref a7_1, .int v7_2])), (a7_0, .inl (cyI, 200, .inl g7_0)), (a7_1, .inl (cyZ, 200, .inl g7_1)), (o5, .inr (5, [.ref o7, .ref a5_1, .int v5_2, .int (r_38.1), .int v5_4, .int v5_5, .int (r_38.2), .int v5_7, .int v5_8, .int v5_9])), (a5_1, .inl (cyI, 400, .inl g5_1))] := hD
    obtain rfl := Option.some.inj hf
    have hP9 := hP.sub (ws' := [(o7, .inr (7, [.ref a7_0, .ref a7_1, .int v7_2])), (a7_0, .inl (cyI, 200, .inl g7_0)), (a7_1, .inl (cyZ, 200, .inl g7_1)), (o5, .inr (5, [.ref o7, .ref a5_1, .int v5_2, .int (r_38.1), .int v5_4, .int v5_5, .int (r_38.2), .int v5_7, .int v5_8, .int v5_9])), (a5_1, .inl (cyI, 400, .inl g5_1))]) [0, 1, 2, 3, 4] rfl
    have hD9 := hD.sub (ws' := [(o7, .inr (7, [.ref a7_0, .ref a7_1, .int v7_2])), (a7_0, .inl (cyI, 200, .inl g7_0)), (a7_1, .inl (cyZ, 200, .inl g7_1)), (o5, .inr (5, [.ref o7, .ref a5_1, .int v5_2, .int (r_38.1), .int v5_4, .int v5_5, .int (r_38.2), .int v5_7, .int v5_8, .int v5_9])), (a5_1, .inl (cyI, 400, .inl g5_1))]) [0, 1, 2, 3, 4] (by decide) rfl
    exact W.vret hx hb hr (fun t ht hW => ⟨⟨(), rfl, trivial, by rw [ht]; exact hP9, va_K.moved hW.alike hK, hD9⟩, hS.F ht⟩) hS.2.2 dX5_pullType_15

def f_X5_pullReference (v5_2 : Int32) (v5_3 : Int32) (v5_6 : Int32) (g5_1 : Nat → Int32) : Option (Int32 × Int32 × Int32) := (f_X5_pull v5_2 v5_3 v5_6 g5_1) >>= (fun r_1 => (f_X5_isAnyReference r_1.1) >>= (fun r_2 => if r_2 = (0 : Int32) then some (r_1.1, r_1.2.1, 1) else some (r_1.1, r_1.2.1, r_1.2.2)))
theorem i_X5_pullReference_X5 : ∀ w ∈ wsX50, w ∈ wsX5_pullReference := fun _ h => List.mem_cons_of_mem _ (List.mem_append_right _ h)
set_option maxHeartbeats 4000000 in
set_option maxRecDepth 100000 in
theorem c_X5_pullReference (l : Launch) (dC : Nat → ClassId) (dI : Nat → Nat → Nat) (cyI cyZ cyJ : ClassId) (sz : Nat) (o5 : Nat) (o7 : Nat) (a5_1 : Nat) (v5_2 : Int32) (v5_3 : Int32) (v5_4 : Int32) (v5_5 : Int32) (v5_6 : Int32) (v5_7 : Int32) (v5_8 : Int32) (v5_9 : Int32) (g5_1 : Nat → Int32) (R : Int32 × Int32 × Int32) (hf : f_X5_pullReference v5_2 v5_3 v5_6 g5_1 = some R) : Met l yX5_pullReference wsX5_pullReference ({ frames := 1, cells := 0, slots := 0, locals := 21 }) (va_Pc [.ref o5] (x_PreD (dC, dI) (x_T cyI cyZ cyJ) [(o5, .inr (5, [.ref o7, .ref a5_1, .int v5_2, .int v5_3, .int v5_4, .int v5_5, .int v5_6, .int v5_7, .int v5_8, .int v5_9])), (a5_1, .inl (cyI, 400, .inl g5_1))] sz)) (va_Qi (fun (r : Int32) (_ : Unit) => r = R.1) (fun (_ : Unit) (t : State) => va_P (dC, dI) vwCl [(o5, .inr (5, [.ref o7, .ref a5_1, .int v5_2, .int (R.2.1), .int v5_4, .int v5_5, .int (R.2.2), .int v5_7, .int v5_8, .int v5_9])), (a5_1, .inl (cyI, 400, .inl g5_1))] t.heap ∧ va_K (dC, dI) vwCl (x_T cyI cyZ cyJ) t ∧ va_D (va_A [(o5, .inr (5, [.ref o7, .ref a5_1, .int v5_2, .int v5_3, .int v5_4, .int v5_5, .int v5_6, .int v5_7, .int v5_8, .int v5_9])), (a5_1, .inl (cyI, 400, .inl g5_1))] sz) [(o5, .inr (5, [.ref o7, .ref a5_1, .int v5_2, .int (R.2.1), .int v5_4, .int v5_5, .int (R.2.2), .int v5_7, .int v5_8, .int v5_9])), (a5_1, .inl (cyI, 400, .inl g5_1))]) (va_A [(o5, .inr (5, [.ref o7, .ref a5_1, .int v5_2, .int v5_3, .int v5_4, .int v5_5, .int v5_6, .int v5_7, .int v5_8, .int v5_9])), (a5_1, .inl (cyI, 400, .inl g5_1))] sz)) 0 0 (va_A [(o5, .inr (5, [.ref o7, .ref a5_1, .int v5_2, .int v5_3, .int v5_4, .int v5_5, .int v5_6, .int v5_7, .int v5_8, .int v5_9])), (a5_1, .inl (cyI, 400, .inl g5_1))] sz) := by
  refine Met.ofW (cc := cX5_pullReference) (maxL := 2) (ret := (some .int)) (by decide) rfl ?_
  intro p e s m args below meth c s₁ B hml hv
  obtain ⟨rfl, ⟨hsz, hP, hK, hN⟩, hD0⟩ := hv
  have hx := B.exec
  have hb := B.bytes
  have hr := B.returns
  have hts := atoms_spec (ws := wsX5_pullReference) B.pre
  have hown : s.vm.findClass RX5 = some m.cls := findClass_of_methodNamed B.named
  have k_1 := hts (.fieldLink RX5 38 "FlowJudge$Places" "refused" "Z") (by decide +kernel)
  subst hsz
  have hD := hD0.self (sz := s.heap.size)
  generalize hAe : va_A [(o5, .inr (5, [.ref o7, .ref a5_1, .int v5_2, .int v5_3, .int v5_4, .int v5_5, .int v5_6, .int v5_7, .int v5_8, .int v5_9])), (a5_1, .inl (cyI, 400, .inl g5_1))] s.heap.size = A at hD ⊢
  have hA : ∀ q : Nat, s.heap.size ≤ q → A q := fun q h => by rw [← hAe]; exact Or.inr h
  have hP : va_P (dC, dI) vwCl [(o5, .inr (5, [.ref o7, .ref a5_1, .int v5_2, .int v5_3, .int v5_4, .int v5_5, .int v5_6, .int v5_7, .int v5_8, .int v5_9])), (a5_1, .inl (cyI, 400, .inl g5_1))] s.heap := hP
  have hl := lv_entry ([.ref o5]) (n := 2) (Nat.le_of_ble_eq_true rfl)
  rw [lg_entry_eq]
  generalize (lg_sl ([.ref o5]) ++ List.replicate (2 - (lg_sl ([.ref o5])).length) Slot.unset).toArray = ls at hl ⊢
  have hl : lv_has ls 2 [(0, .ref o5)] := hl
  obtain ⟨H, hH⟩ : ∃ z, z = s.heap := ⟨_, rfl⟩
  refine x_here hH ?_
  have hP : va_P (dC, dI) vwCl [(o5, .inr (5, [.ref o7, .ref a5_1, .int v5_2, .int v5_3, .int v5_4, .int v5_5, .int v5_6, .int v5_7, .int v5_8, .int v5_9])), (a5_1, .inl (cyI, 400, .inl g5_1))] H := by rw [hH]; exact hP
  have hS : va_S A s.heap H [] := by rw [hH]; exact va_S.rf
  clear hH
  obtain ⟨locs, hlo⟩ : ∃ z : List Loc, z = [] := ⟨_, rfl⟩
  refine x_herl hlo ?_
  have hS : va_S A s.heap H locs := by rw [hlo]; exact hS
  clear hlo
  unfold f_X5_pullReference at hf
  refine lv_aload_n hx hb dX5_pullReference_0 rfl (lv_at hl 0 rfl) ?_
  obtain ⟨r_1, h_1, hf⟩ := x_bi hf
  have hPc := hP.sub (ws' := [(o5, .inr (5, [.ref o7, .ref a5_1, .int v5_2, .int v5_3, .int v5_4, .int v5_5, .int v5_6, .int v5_7, .int v5_8, .int v5_9])), (a5_1, .inl (cyI, 400, .inl g5_1))]) [0, 1] rfl
  have hDc := hD.sub (ws' := [(o5, .inr (5, [.ref o7, .ref a5_1, .int v5_2, .int v5_3, .int v5_4, .int v5_5, .int v5_6, .int v5_7, .int v5_8, .int v5_9])), (a5_1, .inl (cyI, 400, .inl g5_1))]) [0, 1] (by decide) rfl
  have hFc := va_free (wc := [(o5, .inr (5, [.ref o7, .ref a5_1, .int v5_2, .int v5_3, .int v5_4, .int v5_5, .int v5_6, .int v5_7, .int v5_8, .int v5_9])), (a5_1, .inl (cyI, 400, .inl g5_1))]) hD hS hA [0, 1] rfl
  refine va_calli (va_runV (As := []) (rest := []) ⟨hx, hb, hml, hown, hts⟩ (c_X5_pull l dC dI cyI cyZ cyJ H.size o5 o7 a5_1 v5_2 v5_3 v5_4 v5_5 v5_6 v5_7 v5_8 v5_9 g5_1 r_1 h_1) (cwV 0 hts gX5_pullReference_X5_pull rfl rfl rfl (by decide +kernel) ⟨Nat.le_of_ble_eq_true rfl, Nat.le_of_ble_eq_true rfl⟩) (x_pVD hN hK hPc hDc (ci := 5) (q0 := 0) rfl rfl) rfl rfl hl.1 rfl (lv_room (Nat.le_of_ble_eq_true rfl)) dX5_pullReference_1 ⟨Nat.le_of_ble_eq_true rfl, Nat.le_of_ble_eq_true rfl⟩) hS (fun q _ h => hFc q h) hFc (fun q_1 u t H1 locs ht hvm hw hB hz1 hk1 hS => ?_)
  obtain ⟨hP1, hK1, hD1⟩ := hB
  rw [ht] at hP1
  obtain ⟨hP, hD⟩ := va_join (wr := []) (w1 := [(o5, .inr (5, [.ref o7, .ref a5_1, .int v5_2, .int (r_1.2.1), .int v5_4, .int v5_5, .int (r_1.2.2), .int v5_7, .int v5_8, .int v5_9])), (a5_1, .inl (cyI, 400, .inl g5_1))]) hP hD [0, 1] [] rfl rfl (by decide) (by decide) hk1 hFc hP1 hD1
  clear hz1 hk1 hPc hDc hFc hP1 hK1 hD1 ht hvm t u
  generalize H1 = H at hP hS ⊢
  have hP : va_P (dC, dI) vwCl [(o5, .inr (5, [.ref o7, .ref a5_1, .int v5_2, .int (r_1.2.1), .int v5_4, .int v5_5, .int (r_1.2.2), .int v5_7, .int v5_8, .int v5_9])), (a5_1, .inl (cyI, 400, .inl g5_1))] H := hP
  have hD : va_D A [(o5, .inr (5, [.ref o7, .ref a5_1, .int v5_2, .int (r_1.2.1), .int v5_4, .int v5_5, .int (r_1.2.2), .int v5_7, .int v5_8, .int v5_9])), (a5_1, .inl (cyI, 400, .inl g5_1))] := hD
  obtain rfl := hw.symm
  refine lv_istore_n (lv' := [(1, .int (r_1.1)), (0, .ref o5)]) hx hb dX5_pullReference_4 rfl hl (by decide) rfl (fun ls hl => ?_)
  refine lv_iload_n hx hb dX5_pullReference_5 rfl (lv_at hl 0 rfl) ?_
  obtain ⟨r_2, h_2, hf⟩ := x_bi hf
  have hPc := hP.sub (ws' := []) [] rfl
  refine va_calli (va_runS (As := [.int (r_1.1)]) (rest := []) ⟨hx, hb, hml, hown, hts⟩ (c_X5_isAnyReference l dC dI cyI cyZ cyJ H.size r_1.1 r_2 h_2) (va_cwS 1 hts gX5_pullReference_X5_isAnyReference rfl rfl rfl (by decide +kernel) ⟨Nat.le_of_ble_eq_true rfl, Nat.le_of_ble_eq_true rfl⟩) (x_pS hN hK hPc) rfl rfl hl.1 rfl (lv_room (Nat.le_of_ble_eq_true rfl)) dX5_pullReference_6 ⟨Nat.le_of_ble_eq_true rfl, Nat.le_of_ble_eq_true rfl⟩) hS x_nA (x_nf hA hS) (fun q_2 u t H1 locs ht hvm hw hB hz1 hk1 hS => ?_)
  have hP := x_kp hP hk1
  clear ht hvm hB hz1 hk1 t u hPc
  generalize H1 = H at hP hS ⊢
  obtain ⟨hw, b_2⟩ := hw
  obtain rfl := hw.symm
  refine lv_if_ne (tgt := 17) hx hb dX5_pullReference_9 (by decide) (fun c_3 => ?_) (fun c_3 => ?_)
  · replace hf := x_in c_3 hf
    refine lv_iload_n hx hb dX5_pullReference_17 rfl (lv_at hl 0 rfl) ?_
    obtain rfl := Option.some.inj hf
    have hP9 := hP.sub (ws' := [(o5, .inr (5, [.ref o7, .ref a5_1, .int v5_2, .int (r_1.2.1), .int v5_4, .int v5_5, .int (r_1.2.2), .int v5_7, .int v5_8, .int v5_9])), (a5_1, .inl (cyI, 400, .inl g5_1))]) [0, 1] rfl
    have hD9 := hD.sub (ws' := [(o5, .inr (5, [.ref o7, .ref a5_1, .int v5_2, .int (r_1.2.1), .int v5_4, .int v5_5, .int (r_1.2.2), .int v5_7, .int v5_8, .int v5_9])), (a5_1, .inl (cyI, 400, .inl g5_1))]) [0, 1] (by decide) rfl
    exact W.iret hx hb hr (fun t ht hW => ⟨⟨_, (), rfl, rfl, by rw [ht]; exact hP9, va_K.moved hW.alike hK, hD9⟩, hS.F ht⟩) hS.2.2 dX5_pullReference_18
  · replace hf := x_ip c_3 hf
    refine lv_aload_n hx hb dX5_pullReference_12 rfl (lv_at hl 1 rfl) ?_
    refine lv_iconst (v := 1) hx hb dX5_pullReference_13 (by decide) ?_
    refine va_put (D := (dC, dI)) (ci := 5) (v := .int 1) (ty := .boolean) (C := RX5) (T := TX5) (N := 10) hx hb hts i_X5_pullReference_X5 tyX5 tyX5_ok nmX5 hown hK hP hD hS 0 rfl rfl 6 (by decide) k_1 (fun _ h9 => h9) rfl (by decide +kernel) rfl rfl (Nat.le_of_ble_eq_true rfl) dX5_pullReference_14 (fun H locs hP hD hS => ?_)
    have hP : va_P (dC, dI) vwCl [(o5, .inr (5, [.ref o7, .ref a5_1, .int v5_2, .int (r_1.2.1), .int v5_4, .int v5_5, .int 1, .int v5_7, .int v5_8, .int v5_9])), (a5_1, .inl (cyI, 400, .inl g5_1))] H := hP
    have hD : va_D A [(o5, .inr (5, [.ref o7, .ref a5_1, .int v5_2, .int (r_1.2.1), .int v5_4, .int v5_5, .int 1, .int v5_7, .int v5_8, .int v5_9])), (a5_1, .inl (cyI, 400, .inl g5_1))] := hD
    refine lv_iload_n hx hb dX5_pullReference_17 rfl (lv_at hl 0 rfl) ?_
    obtain rfl := Option.some.inj hf
    have hP9 := hP.sub (ws' := [(o5, .inr (5, [.ref o7, .ref a5_1, .int v5_2, .int (r_1.2.1), .int v5_4, .int v5_5, .int 1, .int v5_7, .int v5_8, .int v5_9])), (a5_1, .inl (cyI, 400, .inl g5_1))]) [0, 1] rfl
    have hD9 := hD.sub (ws' := [(o5, .inr (5, [.ref o7, .ref a5_1, .int v5_2, .int (r_1.2.1), .int v5_4, .int v5_5, .int 1, .int v5_7, .int v5_8, .int v5_9])), (a5_1, .inl (cyI, 400, .inl g5_1))]) [0, 1] (by decide) rfl
    exact W.iret hx hb hr (fun t ht hW => ⟨⟨_, (), rfl, rfl, by rw [ht]; exact hP9, va_K.moved hW.alike hK, hD9⟩, hS.F ht⟩) hS.2.2 dX5_pullReference_18

def f_X5_pullArray (v5_2 : Int32) (v5_3 : Int32) (v5_6 : Int32) (g5_1 : Nat → Int32) : Option (Int32 × Int32 × Int32) := (f_X5_pull v5_2 v5_3 v5_6 g5_1) >>= (fun r_1 => if (r_1.1 &&& 15) = (8 : Int32) then if (r_1.1 >>> (4 &&& 31)) < (65536 : Int32) then if r_1.2.2 = (0 : Int32) then if r_1.1 = (5 : Int32) then some (-1, r_1.2.1, 0) else some (-1, r_1.2.1, 1) else some (-1, r_1.2.1, 1) else if r_1.2.2 = (0 : Int32) then some (r_1.1 >>> (4 &&& 31), r_1.2.1, 0) else some (r_1.1 >>> (4 &&& 31), r_1.2.1, 1) else if r_1.2.2 = (0 : Int32) then if r_1.1 = (5 : Int32) then some (-1, r_1.2.1, 0) else some (-1, r_1.2.1, 1) else some (-1, r_1.2.1, 1))
theorem i_X5_pullArray_X5 : ∀ w ∈ wsX50, w ∈ wsX5_pullArray := fun _ h => List.mem_cons_of_mem _ (List.mem_append_right _ h)
set_option maxHeartbeats 4000000 in
set_option maxRecDepth 100000 in
theorem c_X5_pullArray (l : Launch) (dC : Nat → ClassId) (dI : Nat → Nat → Nat) (cyI cyZ cyJ : ClassId) (sz : Nat) (o5 : Nat) (o7 : Nat) (a5_1 : Nat) (v5_2 : Int32) (v5_3 : Int32) (v5_4 : Int32) (v5_5 : Int32) (v5_6 : Int32) (v5_7 : Int32) (v5_8 : Int32) (v5_9 : Int32) (g5_1 : Nat → Int32) (R : Int32 × Int32 × Int32) (hf : f_X5_pullArray v5_2 v5_3 v5_6 g5_1 = some R) : Met l yX5_pullArray wsX5_pullArray ({ frames := 1, cells := 0, slots := 0, locals := 20 }) (va_Pc [.ref o5] (x_PreD (dC, dI) (x_T cyI cyZ cyJ) [(o5, .inr (5, [.ref o7, .ref a5_1, .int v5_2, .int v5_3, .int v5_4, .int v5_5, .int v5_6, .int v5_7, .int v5_8, .int v5_9])), (a5_1, .inl (cyI, 400, .inl g5_1))] sz)) (va_Qi (fun (r : Int32) (_ : Unit) => r = R.1) (fun (_ : Unit) (t : State) => va_P (dC, dI) vwCl [(o5, .inr (5, [.ref o7, .ref a5_1, .int v5_2, .int (R.2.1), .int v5_4, .int v5_5, .int (R.2.2), .int v5_7, .int v5_8, .int v5_9])), (a5_1, .inl (cyI, 400, .inl g5_1))] t.heap ∧ va_K (dC, dI) vwCl (x_T cyI cyZ cyJ) t ∧ va_D (va_A [(o5, .inr (5, [.ref o7, .ref a5_1, .int v5_2, .int v5_3, .int v5_4, .int v5_5, .int v5_6, .int v5_7, .int v5_8, .int v5_9])), (a5_1, .inl (cyI, 400, .inl g5_1))] sz) [(o5, .inr (5, [.ref o7, .ref a5_1, .int v5_2, .int (R.2.1), .int v5_4, .int v5_5, .int (R.2.2), .int v5_7, .int v5_8, .int v5_9])), (a5_1, .inl (cyI, 400, .inl g5_1))]) (va_A [(o5, .inr (5, [.ref o7, .ref a5_1, .int v5_2, .int v5_3, .int v5_4, .int v5_5, .int v5_6, .int v5_7, .int v5_8, .int v5_9])), (a5_1, .inl (cyI, 400, .inl g5_1))] sz)) 0 0 (va_A [(o5, .inr (5, [.ref o7, .ref a5_1, .int v5_2, .int v5_3, .int v5_4, .int v5_5, .int v5_6, .int v5_7, .int v5_8, .int v5_9])), (a5_1, .inl (cyI, 400, .inl g5_1))] sz) := by
  refine Met.ofW (cc := cX5_pullArray) (maxL := 3) (ret := (some .int)) (by decide) rfl ?_
  intro p e s m args below meth c s₁ B hml hv
  obtain ⟨rfl, ⟨hsz, hP, hK, hN⟩, hD0⟩ := hv
  have hx := B.exec
  have hb := B.bytes
  have hr := B.returns
  have hts := atoms_spec (ws := wsX5_pullArray) B.pre
  have hown : s.vm.findClass RX5 = some m.cls := findClass_of_methodNamed B.named
  have k_1 := hts (.fieldLink RX5 38 "FlowJudge$Places" "refused" "Z") (by decide +kernel)
  have k_2 := hts (.constant RX5 124 (65536)) (by decide +kernel)
  subst hsz
  have hD := hD0.self (sz := s.heap.size)
  generalize hAe : va_A [(o5, .inr (5, [.ref o7, .ref a5_1, .int v5_2, .int v5_3, .int v5_4, .int v5_5, .int v5_6, .int v5_7, .int v5_8, .int v5_9])), (a5_1, .inl (cyI, 400, .inl g5_1))] s.heap.size = A at hD ⊢
  have hA : ∀ q : Nat, s.heap.size ≤ q → A q := fun q h => by rw [← hAe]; exact Or.inr h
  have hP : va_P (dC, dI) vwCl [(o5, .inr (5, [.ref o7, .ref a5_1, .int v5_2, .int v5_3, .int v5_4, .int v5_5, .int v5_6, .int v5_7, .int v5_8, .int v5_9])), (a5_1, .inl (cyI, 400, .inl g5_1))] s.heap := hP
  have hl := lv_entry ([.ref o5]) (n := 3) (Nat.le_of_ble_eq_true rfl)
  rw [lg_entry_eq]
  generalize (lg_sl ([.ref o5]) ++ List.replicate (3 - (lg_sl ([.ref o5])).length) Slot.unset).toArray = ls at hl ⊢
  have hl : lv_has ls 3 [(0, .ref o5)] := hl
  obtain ⟨H, hH⟩ : ∃ z, z = s.heap := ⟨_, rfl⟩
  refine x_here hH ?_
  have hP : va_P (dC, dI) vwCl [(o5, .inr (5, [.ref o7, .ref a5_1, .int v5_2, .int v5_3, .int v5_4, .int v5_5, .int v5_6, .int v5_7, .int v5_8, .int v5_9])), (a5_1, .inl (cyI, 400, .inl g5_1))] H := by rw [hH]; exact hP
  have hS : va_S A s.heap H [] := by rw [hH]; exact va_S.rf
  clear hH
  obtain ⟨locs, hlo⟩ : ∃ z : List Loc, z = [] := ⟨_, rfl⟩
  refine x_herl hlo ?_
  have hS : va_S A s.heap H locs := by rw [hlo]; exact hS
  clear hlo
  unfold f_X5_pullArray at hf
  refine lv_aload_n hx hb dX5_pullArray_0 rfl (lv_at hl 0 rfl) ?_
  obtain ⟨r_1, h_1, hf⟩ := x_bi hf
  have hPc := hP.sub (ws' := [(o5, .inr (5, [.ref o7, .ref a5_1, .int v5_2, .int v5_3, .int v5_4, .int v5_5, .int v5_6, .int v5_7, .int v5_8, .int v5_9])), (a5_1, .inl (cyI, 400, .inl g5_1))]) [0, 1] rfl
  have hDc := hD.sub (ws' := [(o5, .inr (5, [.ref o7, .ref a5_1, .int v5_2, .int v5_3, .int v5_4, .int v5_5, .int v5_6, .int v5_7, .int v5_8, .int v5_9])), (a5_1, .inl (cyI, 400, .inl g5_1))]) [0, 1] (by decide) rfl
  have hFc := va_free (wc := [(o5, .inr (5, [.ref o7, .ref a5_1, .int v5_2, .int v5_3, .int v5_4, .int v5_5, .int v5_6, .int v5_7, .int v5_8, .int v5_9])), (a5_1, .inl (cyI, 400, .inl g5_1))]) hD hS hA [0, 1] rfl
  refine va_calli (va_runV (As := []) (rest := []) ⟨hx, hb, hml, hown, hts⟩ (c_X5_pull l dC dI cyI cyZ cyJ H.size o5 o7 a5_1 v5_2 v5_3 v5_4 v5_5 v5_6 v5_7 v5_8 v5_9 g5_1 r_1 h_1) (cwV 0 hts gX5_pullArray_X5_pull rfl rfl rfl (by decide +kernel) ⟨Nat.le_of_ble_eq_true rfl, Nat.le_of_ble_eq_true rfl⟩) (x_pVD hN hK hPc hDc (ci := 5) (q0 := 0) rfl rfl) rfl rfl hl.1 rfl (lv_room (Nat.le_of_ble_eq_true rfl)) dX5_pullArray_1 ⟨Nat.le_of_ble_eq_true rfl, Nat.le_of_ble_eq_true rfl⟩) hS (fun q _ h => hFc q h) hFc (fun q_1 u t H1 locs ht hvm hw hB hz1 hk1 hS => ?_)
  obtain ⟨hP1, hK1, hD1⟩ := hB
  rw [ht] at hP1
  obtain ⟨hP, hD⟩ := va_join (wr := []) (w1 := [(o5, .inr (5, [.ref o7, .ref a5_1, .int v5_2, .int (r_1.2.1), .int v5_4, .int v5_5, .int (r_1.2.2), .int v5_7, .int v5_8, .int v5_9])), (a5_1, .inl (cyI, 400, .inl g5_1))]) hP hD [0, 1] [] rfl rfl (by decide) (by decide) hk1 hFc hP1 hD1
  clear hz1 hk1 hPc hDc hFc hP1 hK1 hD1 ht hvm t u
  generalize H1 = H at hP hS ⊢
  have hP : va_P (dC, dI) vwCl [(o5, .inr (5, [.ref o7, .ref a5_1, .int v5_2, .int (r_1.2.1), .int v5_4, .int v5_5, .int (r_1.2.2), .int v5_7, .int v5_8, .int v5_9])), (a5_1, .inl (cyI, 400, .inl g5_1))] H := hP
  have hD : va_D A [(o5, .inr (5, [.ref o7, .ref a5_1, .int v5_2, .int (r_1.2.1), .int v5_4, .int v5_5, .int (r_1.2.2), .int v5_7, .int v5_8, .int v5_9])), (a5_1, .inl (cyI, 400, .inl g5_1))] := hD
  obtain rfl := hw.symm
  refine lv_istore_n (lv' := [(1, .int (r_1.1)), (0, .ref o5)]) hx hb dX5_pullArray_4 rfl hl (by decide) rfl (fun ls hl => ?_)
  refine lv_iload_n hx hb dX5_pullArray_5 rfl (lv_at hl 0 rfl) ?_
  refine lv_bipush (v := 15) hx hb dX5_pullArray_6 (by decide) ?_
  refine lv_iand hx hb dX5_pullArray_8 ?_
  refine lv_bipush (v := 8) hx hb dX5_pullArray_9 (by decide) ?_
  refine lv_icmp_ne (tgt := 26) hx hb dX5_pullArray_11 (by decide) (fun c_2 => ?_) (fun c_2 => ?_)
  · replace hf := x_in c_2 hf
    refine lv_iconst (v := 0) hx hb dX5_pullArray_26 (by decide) ?_
    refine lv_istore_n (lv' := [(2, .int 0), (1, .int (r_1.1)), (0, .ref o5)]) hx hb dX5_pullArray_27 rfl hl (by decide) rfl (fun ls hl => ?_)
    refine lv_aload_n hx hb dX5_pullArray_28 rfl (lv_at hl 2 rfl) ?_
    refine lv_aload_n hx hb dX5_pullArray_29 rfl (lv_at hl 2 rfl) ?_
    refine va_get (D := (dC, dI)) (ci := 5) (v := .int (r_1.2.2)) (C := RX5) (T := TX5) (N := 10) hx hb hts i_X5_pullArray_X5 hown hK hP 0 rfl rfl 6 (by decide) k_1 (fun _ h9 => h9) rfl dX5_pullArray_30 ?_
    refine lv_if_ne (tgt := 45) hx hb dX5_pullArray_33 (by decide) (fun c_3 => ?_) (fun c_3 => ?_)
    · replace hf := x_in c_3 hf
      refine lv_iconst (v := 1) hx hb dX5_pullArray_45 (by decide) ?_
      refine lv_goto (tgt := 50) hx hb dX5_pullArray_46 (by decide) ?_
      refine va_put (D := (dC, dI)) (ci := 5) (v := .int 1) (ty := .boolean) (C := RX5) (T := TX5) (N := 10) hx hb hts i_X5_pullArray_X5 tyX5 tyX5_ok nmX5 hown hK hP hD hS 0 rfl rfl 6 (by decide) k_1 (fun _ h9 => h9) rfl (by decide +kernel) rfl rfl (Nat.le_of_ble_eq_true rfl) dX5_pullArray_50 (fun H locs hP hD hS => ?_)
      have hP : va_P (dC, dI) vwCl [(o5, .inr (5, [.ref o7, .ref a5_1, .int v5_2, .int (r_1.2.1), .int v5_4, .int v5_5, .int 1, .int v5_7, .int v5_8, .int v5_9])), (a5_1, .inl (cyI, 400, .inl g5_1))] H := hP
      have hD : va_D A [(o5, .inr (5, [.ref o7, .ref a5_1, .int v5_2, .int (r_1.2.1), .int v5_4, .int v5_5, .int 1, .int v5_7, .int v5_8, .int v5_9])), (a5_1, .inl (cyI, 400, .inl g5_1))] := hD
      refine lv_iload_n hx hb dX5_pullArray_53 rfl (lv_at hl 0 rfl) ?_
      refine lv_if_eq (tgt := 63) hx hb dX5_pullArray_54 (by decide) (fun _ => ?_) (fun c_4 => absurd (by decide) c_4)
      refine lv_iconst (v := (-1)) hx hb dX5_pullArray_63 (by decide) ?_
      obtain rfl := Option.some.inj hf
      have hP9 := hP.sub (ws' := [(o5, .inr (5, [.ref o7, .ref a5_1, .int v5_2, .int (r_1.2.1), .int v5_4, .int v5_5, .int 1, .int v5_7, .int v5_8, .int v5_9])), (a5_1, .inl (cyI, 400, .inl g5_1))]) [0, 1] rfl
      have hD9 := hD.sub (ws' := [(o5, .inr (5, [.ref o7, .ref a5_1, .int v5_2, .int (r_1.2.1), .int v5_4, .int v5_5, .int 1, .int v5_7, .int v5_8, .int v5_9])), (a5_1, .inl (cyI, 400, .inl g5_1))]) [0, 1] (by decide) rfl
      exact W.iret hx hb hr (fun t ht hW => ⟨⟨_, (), rfl, rfl, by rw [ht]; exact hP9, va_K.moved hW.alike hK, hD9⟩, hS.F ht⟩) hS.2.2 dX5_pullArray_64
    · replace hf := x_ip c_3 hf
      refine lv_iload_n hx hb dX5_pullArray_36 rfl (lv_at hl 0 rfl) ?_
      refine lv_if_ne (tgt := 49) hx hb dX5_pullArray_37 (by decide) (fun c_5 => absurd (by decide) c_5) (fun _ => ?_)
      refine lv_iload_n hx hb dX5_pullArray_40 rfl (lv_at hl 1 rfl) ?_
      refine lv_iconst (v := 5) hx hb dX5_pullArray_41 (by decide) ?_
      refine lv_icmp_eq (tgt := 49) hx hb dX5_pullArray_42 (by decide) (fun c_6 => ?_) (fun c_6 => ?_)
      · replace hf := x_ip c_6 hf
        refine lv_iconst (v := 0) hx hb dX5_pullArray_49 (by decide) ?_
        refine va_put (D := (dC, dI)) (ci := 5) (v := .int 0) (ty := .boolean) (C := RX5) (T := TX5) (N := 10) hx hb hts i_X5_pullArray_X5 tyX5 tyX5_ok nmX5 hown hK hP hD hS 0 rfl rfl 6 (by decide) k_1 (fun _ h9 => h9) rfl (by decide +kernel) rfl rfl (Nat.le_of_ble_eq_true rfl) dX5_pullArray_50 (fun H locs hP hD hS => ?_)
        have hP : va_P (dC, dI) vwCl [(o5, .inr (5, [.ref o7, .ref a5_1, .int v5_2, .int (r_1.2.1), .int v5_4, .int v5_5, .int 0, .int v5_7, .int v5_8, .int v5_9])), (a5_1, .inl (cyI, 400, .inl g5_1))] H := hP
        have hD : va_D A [(o5, .inr (5, [.ref o7, .ref a5_1, .int v5_2, .int (r_1.2.1), .int v5_4, .int v5_5, .int 0, .int v5_7, .int v5_8, .int v5_9])), (a5_1, .inl (cyI, 400, .inl g5_1))] := hD
        refine lv_iload_n hx hb dX5_pullArray_53 rfl (lv_at hl 0 rfl) ?_
        refine lv_if_eq (tgt := 63) hx hb dX5_pullArray_54 (by decide) (fun _ => ?_) (fun c_7 => absurd (by decide) c_7)
        refine lv_iconst (v := (-1)) hx hb dX5_pullArray_63 (by decide) ?_
        obtain rfl := Option.some.inj hf
        have hP9 := hP.sub (ws' := [(o5, .inr (5, [.ref o7, .ref a5_1, .int v5_2, .int (r_1.2.1), .int v5_4, .int v5_5, .int 0, .int v5_7, .int v5_8, .int v5_9])), (a5_1, .inl (cyI, 400, .inl g5_1))]) [0, 1] rfl
        have hD9 := hD.sub (ws' := [(o5, .inr (5, [.ref o7, .ref a5_1, .int v5_2, .int (r_1.2.1), .int v5_4, .int v5_5, .int 0, .int v5_7, .int v5_8, .int v5_9])), (a5_1, .inl (cyI, 400, .inl g5_1))]) [0, 1] (by decide) rfl
        exact W.iret hx hb hr (fun t ht hW => ⟨⟨_, (), rfl, rfl, by rw [ht]; exact hP9, va_K.moved hW.alike hK, hD9⟩, hS.F ht⟩) hS.2.2 dX5_pullArray_64
      · replace hf := x_in c_6 hf
        refine lv_iconst (v := 1) hx hb dX5_pullArray_45 (by decide) ?_
        refine lv_goto (tgt := 50) hx hb dX5_pullArray_46 (by decide) ?_
        refine va_put (D := (dC, dI)) (ci := 5) (v := .int 1) (ty := .boolean) (C := RX5) (T := TX5) (N := 10) hx hb hts i_X5_pullArray_X5 tyX5 tyX5_ok nmX5 hown hK hP hD hS 0 rfl rfl 6 (by decide) k_1 (fun _ h9 => h9) rfl (by decide +kernel) rfl rfl (Nat.le_of_ble_eq_true rfl) dX5_pullArray_50 (fun H locs hP hD hS => ?_)
        have hP : va_P (dC, dI) vwCl [(o5, .inr (5, [.ref o7, .ref a5_1, .int v5_2, .int (r_1.2.1), .int v5_4, .int v5_5, .int 1, .int v5_7, .int v5_8, .int v5_9])), (a5_1, .inl (cyI, 400, .inl g5_1))] H := hP
        have hD : va_D A [(o5, .inr (5, [.ref o7, .ref a5_1, .int v5_2, .int (r_1.2.1), .int v5_4, .int v5_5, .int 1, .int v5_7, .int v5_8, .int v5_9])), (a5_1, .inl (cyI, 400, .inl g5_1))] := hD
        refine lv_iload_n hx hb dX5_pullArray_53 rfl (lv_at hl 0 rfl) ?_
        refine lv_if_eq (tgt := 63) hx hb dX5_pullArray_54 (by decide) (fun _ => ?_) (fun c_8 => absurd (by decide) c_8)
        refine lv_iconst (v := (-1)) hx hb dX5_pullArray_63 (by decide) ?_
        obtain rfl := Option.some.inj hf
        have hP9 := hP.sub (ws' := [(o5, .inr (5, [.ref o7, .ref a5_1, .int v5_2, .int (r_1.2.1), .int v5_4, .int v5_5, .int 1, .int v5_7, .int v5_8, .int v5_9])), (a5_1, .inl (cyI, 400, .inl g5_1))]) [0, 1] rfl
        have hD9 := hD.sub (ws' := [(o5, .inr (5, [.ref o7, .ref a5_1, .int v5_2, .int (r_1.2.1), .int v5_4, .int v5_5, .int 1, .int v5_7, .int v5_8, .int v5_9])), (a5_1, .inl (cyI, 400, .inl g5_1))]) [0, 1] (by decide) rfl
        exact W.iret hx hb hr (fun t ht hW => ⟨⟨_, (), rfl, rfl, by rw [ht]; exact hP9, va_K.moved hW.alike hK, hD9⟩, hS.F ht⟩) hS.2.2 dX5_pullArray_64
  · replace hf := x_ip c_2 hf
    refine lv_iload_n hx hb dX5_pullArray_14 rfl (lv_at hl 0 rfl) ?_
    refine lv_iconst (v := 4) hx hb dX5_pullArray_15 (by decide) ?_
    refine lv_ishr hx hb dX5_pullArray_16 ?_
    refine lv_ldc (v := 65536) hx hb hown k_2 dX5_pullArray_17 ?_
    refine lv_icmp_lt (tgt := 26) hx hb dX5_pullArray_19 (by decide) (fun c_9 => ?_) (fun c_9 => ?_)
    · replace hf := x_ip c_9 hf
      refine lv_iconst (v := 0) hx hb dX5_pullArray_26 (by decide) ?_
      refine lv_istore_n (lv' := [(2, .int 0), (1, .int (r_1.1)), (0, .ref o5)]) hx hb dX5_pullArray_27 rfl hl (by decide) rfl (fun ls hl => ?_)
      refine lv_aload_n hx hb dX5_pullArray_28 rfl (lv_at hl 2 rfl) ?_
      refine lv_aload_n hx hb dX5_pullArray_29 rfl (lv_at hl 2 rfl) ?_
      refine va_get (D := (dC, dI)) (ci := 5) (v := .int (r_1.2.2)) (C := RX5) (T := TX5) (N := 10) hx hb hts i_X5_pullArray_X5 hown hK hP 0 rfl rfl 6 (by decide) k_1 (fun _ h9 => h9) rfl dX5_pullArray_30 ?_
      refine lv_if_ne (tgt := 45) hx hb dX5_pullArray_33 (by decide) (fun c_10 => ?_) (fun c_10 => ?_)
      · replace hf := x_in c_10 hf
        refine lv_iconst (v := 1) hx hb dX5_pullArray_45 (by decide) ?_
        refine lv_goto (tgt := 50) hx hb dX5_pullArray_46 (by decide) ?_
        refine va_put (D := (dC, dI)) (ci := 5) (v := .int 1) (ty := .boolean) (C := RX5) (T := TX5) (N := 10) hx hb hts i_X5_pullArray_X5 tyX5 tyX5_ok nmX5 hown hK hP hD hS 0 rfl rfl 6 (by decide) k_1 (fun _ h9 => h9) rfl (by decide +kernel) rfl rfl (Nat.le_of_ble_eq_true rfl) dX5_pullArray_50 (fun H locs hP hD hS => ?_)
        have hP : va_P (dC, dI) vwCl [(o5, .inr (5, [.ref o7, .ref a5_1, .int v5_2, .int (r_1.2.1), .int v5_4, .int v5_5, .int 1, .int v5_7, .int v5_8, .int v5_9])), (a5_1, .inl (cyI, 400, .inl g5_1))] H := hP
        have hD : va_D A [(o5, .inr (5, [.ref o7, .ref a5_1, .int v5_2, .int (r_1.2.1), .int v5_4, .int v5_5, .int 1, .int v5_7, .int v5_8, .int v5_9])), (a5_1, .inl (cyI, 400, .inl g5_1))] := hD
        refine lv_iload_n hx hb dX5_pullArray_53 rfl (lv_at hl 0 rfl) ?_
        refine lv_if_eq (tgt := 63) hx hb dX5_pullArray_54 (by decide) (fun _ => ?_) (fun c_11 => absurd (by decide) c_11)
        refine lv_iconst (v := (-1)) hx hb dX5_pullArray_63 (by decide) ?_
        obtain rfl := Option.some.inj hf
        have hP9 := hP.sub (ws' := [(o5, .inr (5, [.ref o7, .ref a5_1, .int v5_2, .int (r_1.2.1), .int v5_4, .int v5_5, .int 1, .int v5_7, .int v5_8, .int v5_9])), (a5_1, .inl (cyI, 400, .inl g5_1))]) [0, 1] rfl
        have hD9 := hD.sub (ws' := [(o5, .inr (5, [.ref o7, .ref a5_1, .int v5_2, .int (r_1.2.1), .int v5_4, .int v5_5, .int 1, .int v5_7, .int v5_8, .int v5_9])), (a5_1, .inl (cyI, 400, .inl g5_1))]) [0, 1] (by decide) rfl
        exact W.iret hx hb hr (fun t ht hW => ⟨⟨_, (), rfl, rfl, by rw [ht]; exact hP9, va_K.moved hW.alike hK, hD9⟩, hS.F ht⟩) hS.2.2 dX5_pullArray_64
      · replace hf := x_ip c_10 hf
        refine lv_iload_n hx hb dX5_pullArray_36 rfl (lv_at hl 0 rfl) ?_
        refine lv_if_ne (tgt := 49) hx hb dX5_pullArray_37 (by decide) (fun c_12 => absurd (by decide) c_12) (fun _ => ?_)
        refine lv_iload_n hx hb dX5_pullArray_40 rfl (lv_at hl 1 rfl) ?_
        refine lv_iconst (v := 5) hx hb dX5_pullArray_41 (by decide) ?_
        refine lv_icmp_eq (tgt := 49) hx hb dX5_pullArray_42 (by decide) (fun c_13 => ?_) (fun c_13 => ?_)
        · replace hf := x_ip c_13 hf
          refine lv_iconst (v := 0) hx hb dX5_pullArray_49 (by decide) ?_
          refine va_put (D := (dC, dI)) (ci := 5) (v := .int 0) (ty := .boolean) (C := RX5) (T := TX5) (N := 10) hx hb hts i_X5_pullArray_X5 tyX5 tyX5_ok nmX5 hown hK hP hD hS 0 rfl rfl 6 (by decide) k_1 (fun _ h9 => h9) rfl (by decide +kernel) rfl rfl (Nat.le_of_ble_eq_true rfl) dX5_pullArray_50 (fun H locs hP hD hS => ?_)
          have hP : va_P (dC, dI) vwCl [(o5, .inr (5, [.ref o7, .ref a5_1, .int v5_2, .int (r_1.2.1), .int v5_4, .int v5_5, .int 0, .int v5_7, .int v5_8, .int v5_9])), (a5_1, .inl (cyI, 400, .inl g5_1))] H := hP
          have hD : va_D A [(o5, .inr (5, [.ref o7, .ref a5_1, .int v5_2, .int (r_1.2.1), .int v5_4, .int v5_5, .int 0, .int v5_7, .int v5_8, .int v5_9])), (a5_1, .inl (cyI, 400, .inl g5_1))] := hD
          refine lv_iload_n hx hb dX5_pullArray_53 rfl (lv_at hl 0 rfl) ?_
          refine lv_if_eq (tgt := 63) hx hb dX5_pullArray_54 (by decide) (fun _ => ?_) (fun c_14 => absurd (by decide) c_14)
          refine lv_iconst (v := (-1)) hx hb dX5_pullArray_63 (by decide) ?_
          obtain rfl := Option.some.inj hf
          have hP9 := hP.sub (ws' := [(o5, .inr (5, [.ref o7, .ref a5_1, .int v5_2, .int (r_1.2.1), .int v5_4, .int v5_5, .int 0, .int v5_7, .int v5_8, .int v5_9])), (a5_1, .inl (cyI, 400, .inl g5_1))]) [0, 1] rfl
          have hD9 := hD.sub (ws' := [(o5, .inr (5, [.ref o7, .ref a5_1, .int v5_2, .int (r_1.2.1), .int v5_4, .int v5_5, .int 0, .int v5_7, .int v5_8, .int v5_9])), (a5_1, .inl (cyI, 400, .inl g5_1))]) [0, 1] (by decide) rfl
          exact W.iret hx hb hr (fun t ht hW => ⟨⟨_, (), rfl, rfl, by rw [ht]; exact hP9, va_K.moved hW.alike hK, hD9⟩, hS.F ht⟩) hS.2.2 dX5_pullArray_64
        · replace hf := x_in c_13 hf
          refine lv_iconst (v := 1) hx hb dX5_pullArray_45 (by decide) ?_
          refine lv_goto (tgt := 50) hx hb dX5_pullArray_46 (by decide) ?_
          refine va_put (D := (dC, dI)) (ci := 5) (v := .int 1) (ty := .boolean) (C := RX5) (T := TX5) (N := 10) hx hb hts i_X5_pullArray_X5 tyX5 tyX5_ok nmX5 hown hK hP hD hS 0 rfl rfl 6 (by decide) k_1 (fun _ h9 => h9) rfl (by decide +kernel) rfl rfl (Nat.le_of_ble_eq_true rfl) dX5_pullArray_50 (fun H locs hP hD hS => ?_)
          have hP : va_P (dC, dI) vwCl [(o5, .inr (5, [.ref o7, .ref a5_1, .int v5_2, .int (r_1.2.1), .int v5_4, .int v5_5, .int 1, .int v5_7, .int v5_8, .int v5_9])), (a5_1, .inl (cyI, 400, .inl g5_1))] H := hP
          have hD : va_D A [(o5, .inr (5, [.ref o7, .ref a5_1, .int v5_2, .int (r_1.2.1), .int v5_4, .int v5_5, .int 1, .int v5_7, .int v5_8, .int v5_9])), (a5_1, .inl (cyI, 400, .inl g5_1))] := hD
          refine lv_iload_n hx hb dX5_pullArray_53 rfl (lv_at hl 0 rfl) ?_
          refine lv_if_eq (tgt := 63) hx hb dX5_pullArray_54 (by decide) (fun _ => ?_) (fun c_15 => absurd (by decide) c_15)
          refine lv_iconst (v := (-1)) hx hb dX5_pullArray_63 (by decide) ?_
          obtain rfl := Option.some.inj hf
          have hP9 := hP.sub (ws' := [(o5, .inr (5, [.ref o7, .ref a5_1, .int v5_2, .int (r_1.2.1), .int v5_4, .int v5_5, .int 1, .int v5_7, .int v5_8, .int v5_9])), (a5_1, .inl (cyI, 400, .inl g5_1))]) [0, 1] rfl
          have hD9 := hD.sub (ws' := [(o5, .inr (5, [.ref o7, .ref a5_1, .int v5_2, .int (r_1.2.1), .int v5_4, .int v5_5, .int 1, .int v5_7, .int v5_8, .int v5_9])), (a5_1, .inl (cyI, 400, .inl g5_1))]) [0, 1] (by decide) rfl
          exact W.iret hx hb hr (fun t ht hW => ⟨⟨_, (), rfl, rfl, by rw [ht]; exact hP9, va_K.moved hW.alike hK, hD9⟩, hS.F ht⟩) hS.2.2 dX5_pullArray_64
    · replace hf := x_in c_9 hf
      refine lv_iconst (v := 1) hx hb dX5_pullArray_22 (by decide) ?_
      refine lv_goto (tgt := 27) hx hb dX5_pullArray_23 (by decide) ?_
      refine lv_istore_n (lv' := [(2, .int 1), (1, .int (r_1.1)), (0, .ref o5)]) hx hb dX5_pullArray_27 rfl hl (by decide) rfl (fun ls hl => ?_)
      refine lv_aload_n hx hb dX5_pullArray_28 rfl (lv_at hl 2 rfl) ?_
      refine lv_aload_n hx hb dX5_pullArray_29 rfl (lv_at hl 2 rfl) ?_
      refine va_get (D := (dC, dI)) (ci := 5) (v := .int (r_1.2.2)) (C := RX5) (T := TX5) (N := 10) hx hb hts i_X5_pullArray_X5 hown hK hP 0 rfl rfl 6 (by decide) k_1 (fun _ h9 => h9) rfl dX5_pullArray_30 ?_
      refine lv_if_ne (tgt := 45) hx hb dX5_pullArray_33 (by decide) (fun c_16 => ?_) (fun c_16 => ?_)
      · replace hf := x_in c_16 hf
        refine lv_iconst (v := 1) hx hb dX5_pullArray_45 (by decide) ?_
        refine lv_goto (tgt := 50) hx hb dX5_pullArray_46 (by decide) ?_
        refine va_put (D := (dC, dI)) (ci := 5) (v := .int 1) (ty := .boolean) (C := RX5) (T := TX5) (N := 10) hx hb hts i_X5_pullArray_X5 tyX5 tyX5_ok nmX5 hown hK hP hD hS 0 rfl rfl 6 (by decide) k_1 (fun _ h9 => h9) rfl (by decide +kernel) rfl rfl (Nat.le_of_ble_eq_true rfl) dX5_pullArray_50 (fun H locs hP hD hS => ?_)
        have hP : va_P (dC, dI) vwCl [(o5, .inr (5, [.ref o7, .ref a5_1, .int v5_2, .int (r_1.2.1), .int v5_4, .int v5_5, .int 1, .int v5_7, .int v5_8, .int v5_9])), (a5_1, .inl (cyI, 400, .inl g5_1))] H := hP
        have hD : va_D A [(o5, .inr (5, [.ref o7, .ref a5_1, .int v5_2, .int (r_1.2.1), .int v5_4, .int v5_5, .int 1, .int v5_7, .int v5_8, .int v5_9])), (a5_1, .inl (cyI, 400, .inl g5_1))] := hD
        refine lv_iload_n hx hb dX5_pullArray_53 rfl (lv_at hl 0 rfl) ?_
        refine lv_if_eq (tgt := 63) hx hb dX5_pullArray_54 (by decide) (fun c_17 => absurd c_17 (by decide)) (fun _ => ?_)
        refine lv_iload_n hx hb dX5_pullArray_57 rfl (lv_at hl 1 rfl) ?_
        refine lv_iconst (v := 4) hx hb dX5_pullArray_58 (by decide) ?_
        refine lv_ishr hx hb dX5_pullArray_59 ?_
        refine lv_goto (tgt := 64) hx hb dX5_pullArray_60 (by decide) ?_
        obtain rfl := Option.some.inj hf
        have hP9 := hP.sub (ws' := [(o5, .inr (5, [.ref o7, .ref a5_1, .int v5_2, .int (r_1.2.1), .int v5_4, .int v5_5, .int 1, .int v5_7, .int v5_8, .int v5_9])), (a5_1, .inl (cyI, 400, .inl g5_1))]) [0, 1] rfl
        have hD9 := hD.sub (ws' := [(o5, .inr (5, [.ref o7, .ref a5_1, .int v5_2, .int (r_1.2.1), .int v5_4, .int v5_5, .int 1, .int v5_7, .int v5_8, .int v5_9])), (a5_1, .inl (cyI, 400, .inl g5_1))]) [0, 1] (by decide) rfl
        exact W.iret hx hb hr (fun t ht hW => ⟨⟨_, (), rfl, rfl, by rw [ht]; exact hP9, va_K.moved hW.alike hK, hD9⟩, hS.F ht⟩) hS.2.2 dX5_pullArray_64
      · replace hf := x_ip c_16 hf
        refine lv_iload_n hx hb dX5_pullArray_36 rfl (lv_at hl 0 rfl) ?_
        refine lv_if_ne (tgt := 49) hx hb dX5_pullArray_37 (by decide) (fun _ => ?_) (fun c_18 => absurd c_18 (by decide))
        refine lv_iconst (v := 0) hx hb dX5_pullArray_49 (by decide) ?_
        refine va_put (D := (dC, dI)) (ci := 5) (v := .int 0) (ty := .boolean) (C := RX5) (T := TX5) (N := 10) hx hb hts i_X5_pullArray_X5 tyX5 tyX5_ok nmX5 hown hK hP hD hS 0 rfl rfl 6 (by decide) k_1 (fun _ h9 => h9) rfl (by decide +kernel) rfl rfl (Nat.le_of_ble_eq_true rfl) dX5_pullArray_50 (fun H locs hP hD hS => ?_)
        have hP : va_P (dC, dI) vwCl [(o5, .inr (5, [.ref o7, .ref a5_1, .int v5_2, .int (r_1.2.1), .int v5_4, .int v5_5, .int 0, .int v5_7, .int v5_8, .int v5_9])), (a5_1, .inl (cyI, 400, .inl g5_1))] H := hP
        have hD : va_D A [(o5, .inr (5, [.ref o7, .ref a5_1, .int v5_2, .int (r_1.2.1), .int v5_4, .int v5_5, .int 0, .int v5_7, .int v5_8, .int v5_9])), (a5_1, .inl (cyI, 400, .inl g5_1))] := hD
        refine lv_iload_n hx hb dX5_pullArray_53 rfl (lv_at hl 0 rfl) ?_
        refine lv_if_eq (tgt := 63) hx hb dX5_pullArray_54 (by decide) (fun c_19 => absurd c_19 (by decide)) (fun _ => ?_)
        refine lv_iload_n hx hb dX5_pullArray_57 rfl (lv_at hl 1 rfl) ?_
        refine lv_iconst (v := 4) hx hb dX5_pullArray_58 (by decide) ?_
        refine lv_ishr hx hb dX5_pullArray_59 ?_
        refine lv_goto (tgt := 64) hx hb dX5_pullArray_60 (by decide) ?_
        obtain rfl := Option.some.inj hf
        have hP9 := hP.sub (ws' := [(o5, .inr (5, [.ref o7, .ref a5_1, .int v5_2, .int (r_1.2.1), .int v5_4, .int v5_5, .int 0, .int v5_7, .int v5_8, .int v5_9])), (a5_1, .inl (cyI, 400, .inl g5_1))]) [0, 1] rfl
        have hD9 := hD.sub (ws' := [(o5, .inr (5, [.ref o7, .ref a5_1, .int v5_2, .int (r_1.2.1), .int v5_4, .int v5_5, .int 0, .int v5_7, .int v5_8, .int v5_9])), (a5_1, .inl (cyI, 400, .inl g5_1))]) [0, 1] (by decide) rfl
        exact W.iret hx hb hr (fun t ht hW => ⟨⟨_, (), rfl, rfl, by rw [ht]; exact hP9, va_K.moved hW.alike hK, hD9⟩, hS.F ht⟩) hS.2.2 dX5_pullArray_64

def f_X5_drop (v5_2 : Int32) (v5_3 : Int32) (v5_6 : Int32) (g5_1 : Nat → Int32) (p1 : Int32) : Option (Int32 × Int32) := if (v5_3 - p1) < v5_2 then some (v5_3, 1) else if x_gd (v5_3 - p1) 400 = true then if (g5_1 (Int32.toNatClampNeg (v5_3 - p1))) = (7 : Int32) then some (v5_3, 1) else some (v5_3 - p1, v5_6) else none
theorem i_X5_drop_X5 : ∀ w ∈ wsX50, w ∈ wsX5_drop := fun _ h => List.mem_cons_of_mem _ (List.mem_append_right _ h)
set_option maxHeartbeats 4000000 in
set_option maxRecDepth 100000 in
theorem c_X5_drop (l : Launch) (dC : Nat → ClassId) (dI : Nat → Nat → Nat) (cyI cyZ cyJ : ClassId) (sz : Nat) (o5 : Nat) (o7 : Nat) (a5_1 : Nat) (v5_2 : Int32) (v5_3 : Int32) (v5_4 : Int32) (v5_5 : Int32) (v5_6 : Int32) (v5_7 : Int32) (v5_8 : Int32) (v5_9 : Int32) (g5_1 : Nat → Int32) (p1 : Int32) (R : Int32 × Int32) (hf : f_X5_drop v5_2 v5_3 v5_6 g5_1 p1 = some R) : Met l yX5_drop wsX5_drop ({ frames := 0, cells := 0, slots := 0, locals := 0 }) (va_Pc [.ref o5, .int p1] (x_PreD (dC, dI) (x_T cyI cyZ cyJ) [(o5, .inr (5, [.ref o7, .ref a5_1, .int v5_2, .int v5_3, .int v5_4, .int v5_5, .int v5_6, .int v5_7, .int v5_8, .int v5_9])), (a5_1, .inl (cyI, 400, .inl g5_1))] sz)) (va_Qv (fun _ : Unit => True) (fun (_ : Unit) (t : State) => va_P (dC, dI) vwCl [(o5, .inr (5, [.ref o7, .ref a5_1, .int v5_2, .int (R.1), .int v5_4, .int v5_5, .int (R.2), .int v5_7, .int v5_8, .int v5_9])), (a5_1, .inl (cyI, 400, .inl g5_1))] t.heap ∧ va_K (dC, dI) vwCl (x_T cyI cyZ cyJ) t ∧ va_D (va_A [(o5, .inr (5, [.ref o7, .ref a5_1, .int v5_2, .int v5_3, .int v5_4, .int v5_5, .int v5_6, .int v5_7, .int v5_8, .int v5_9])), (a5_1, .inl (cyI, 400, .inl g5_1))] sz) [(o5, .inr (5, [.ref o7, .ref a5_1, .int v5_2, .int (R.1), .int v5_4, .int v5_5, .int (R.2), .int v5_7, .int v5_8, .int v5_9])), (a5_1, .inl (cyI, 400, .inl g5_1))]) (va_A [(o5, .inr (5, [.ref o7, .ref a5_1, .int v5_2, .int v5_3, .int v5_4, .int v5_5, .int v5_6, .int v5_7, .int v5_8, .int v5_9])), (a5_1, .inl (cyI, 400, .inl g5_1))] sz)) 0 0 (va_A [(o5, .inr (5, [.ref o7, .ref a5_1, .int v5_2, .int v5_3, .int v5_4, .int v5_5, .int v5_6, .int v5_7, .int v5_8, .int v5_9])), (a5_1, .inl (cyI, 400, .inl g5_1))] sz) := by
  refine Met.ofW (cc := cX5_drop) (maxL := 2) (ret := none) (by decide) rfl ?_
  intro p e s m args below meth c s₁ B hml hv
  obtain ⟨rfl, ⟨hsz, hP, hK, hN⟩, hD0⟩ := hv
  have hx := B.exec
  have hb := B.bytes
  have hr := B.returns
  have hts := atoms_spec (ws := wsX5_drop) B.pre
  have hown : s.vm.findClass RX5 = some m.cls := findClass_of_methodNamed B.named
  have k_1 := hts (.fieldLink RX5 32 "FlowJudge$Places" "top" "I") (by decide +kernel)
  have k_2 := hts (.fieldLink RX5 25 "FlowJudge$Places" "locals" "I") (by decide +kernel)
  have k_3 := hts (.fieldLink RX5 38 "FlowJudge$Places" "refused" "Z") (by decide +kernel)
  have k_4 := hts (.fieldLink RX5 9 "FlowJudge$Places" "cells" "[I") (by decide +kernel)
  subst hsz
  have hD := hD0.self (sz := s.heap.size)
  generalize hAe : va_A [(o5, .inr (5, [.ref o7, .ref a5_1, .int v5_2, .int v5_3, .int v5_4, .int v5_5, .int v5_6, .int v5_7, .int v5_8, .int v5_9])), (a5_1, .inl (cyI, 400, .inl g5_1))] s.heap.size = A at hD ⊢
  have hA : ∀ q : Nat, s.heap.size ≤ q → A q := fun q h => by rw [← hAe]; exact Or.inr h
  have hP : va_P (dC, dI) vwCl [(o5, .inr (5, [.ref o7, .ref a5_1, .int v5_2, .int v5_3, .int v5_4, .int v5_5, .int v5_6, .int v5_7, .int v5_8, .int v5_9])), (a5_1, .inl (cyI, 400, .inl g5_1))] s.heap := hP
  have hl := lv_entry ([.ref o5, .int p1]) (n := 2) (Nat.le_of_ble_eq_true rfl)
  rw [lg_entry_eq]
  generalize (lg_sl ([.ref o5, .int p1]) ++ List.replicate (2 - (lg_sl ([.ref o5, .int p1])).length) Slot.unset).toArray = ls at hl ⊢
  have hl : lv_has ls 2 [(0, .ref o5), (1, .int p1)] := hl
  obtain ⟨H, hH⟩ : ∃ z, z = s.heap := ⟨_, rfl⟩
  refine x_here hH ?_
  have hP : va_P (dC, dI) vwCl [(o5, .inr (5, [.ref o7, .ref a5_1, .int v5_2, .int v5_3, .int v5_4, .int v5_5, .int v5_6, .int v5_7, .int v5_8, .int v5_9])), (a5_1, .inl (cyI, 400, .inl g5_1))] H := by rw [hH]; exact hP
  have hS : va_S A s.heap H [] := by rw [hH]; exact va_S.rf
  clear hH
  obtain ⟨locs, hlo⟩ : ∃ z : List Loc, z = [] := ⟨_, rfl⟩
  refine x_herl hlo ?_
  have hS : va_S A s.heap H locs := by rw [hlo]; exact hS
  clear hlo
  unfold f_X5_drop at hf
  refine lv_aload_n hx hb dX5_drop_0 rfl (lv_at hl 0 rfl) ?_
  refine va_get (D := (dC, dI)) (ci := 5) (v := .int v5_3) (C := RX5) (T := TX5) (N := 10) hx hb hts i_X5_drop_X5 hown hK hP 0 rfl rfl 3 (by decide) k_1 (fun _ h9 => h9) rfl dX5_drop_1 ?_
  refine lv_iload_n hx hb dX5_drop_4 rfl (lv_at hl 1 rfl) ?_
  refine lv_isub hx hb dX5_drop_5 ?_
  refine lv_aload_n hx hb dX5_drop_6 rfl (lv_at hl 0 rfl) ?_
  refine va_get (D := (dC, dI)) (ci := 5) (v := .int v5_2) (C := RX5) (T := TX5) (N := 10) hx hb hts i_X5_drop_X5 hown hK hP 0 rfl rfl 2 (by decide) k_2 (fun _ h9 => h9) rfl dX5_drop_7 ?_
  refine lv_icmp_lt (tgt := 29) hx hb dX5_drop_10 (by decide) (fun c_1 => ?_) (fun c_1 => ?_)
  · replace hf := x_ip c_1 hf
    refine lv_aload_n hx hb dX5_drop_29 rfl (lv_at hl 0 rfl) ?_
    refine lv_iconst (v := 1) hx hb dX5_drop_30 (by decide) ?_
    refine va_put (D := (dC, dI)) (ci := 5) (v := .int 1) (ty := .boolean) (C := RX5) (T := TX5) (N := 10) hx hb hts i_X5_drop_X5 tyX5 tyX5_ok nmX5 hown hK hP hD hS 0 rfl rfl 6 (by decide) k_3 (fun _ h9 => h9) rfl (by decide +kernel) rfl rfl (Nat.le_of_ble_eq_true rfl) dX5_drop_31 (fun H locs hP hD hS => ?_)
    have hP : va_P (dC, dI) vwCl [(o5, .inr (5, [.ref o7, .ref a5_1, .int v5_2, .int v5_3, .int v5_4, .int v5_5, .int 1, .int v5_7, .int v5_8, .int v5_9])), (a5_1, .inl (cyI, 400, .inl g5_1))] H := hP
    have hD : va_D A [(o5, .inr (5, [.ref o7, .ref a5_1, .int v5_2, .int v5_3, .int v5_4, .int v5_5, .int 1, .int v5_7, .int v5_8, .int v5_9])), (a5_1, .inl (cyI, 400, .inl g5_1))] := hD
    obtain rfl := Option.some.inj hf
    have hP9 := hP.sub (ws' := [(o5, .inr (5, [.ref o7, .ref a5_1, .int v5_2, .int v5_3, .int v5_4, .int v5_5, .int 1, .int v5_7, .int v5_8, .int v5_9])), (a5_1, .inl (cyI, 400, .inl g5_1))]) [0, 1] rfl
    have hD9 := hD.sub (ws' := [(o5, .inr (5, [.ref o7, .ref a5_1, .int v5_2, .int v5_3, .int v5_4, .int v5_5, .int 1, .int v5_7, .int v5_8, .int v5_9])), (a5_1, .inl (cyI, 400, .inl g5_1))]) [0, 1] (by decide) rfl
    exact W.vret hx hb hr (fun t ht hW => ⟨⟨(), rfl, trivial, by rw [ht]; exact hP9, va_K.moved hW.alike hK, hD9⟩, hS.F ht⟩) hS.2.2 dX5_drop_34
  · replace hf := x_in c_1 hf
    refine lv_aload_n hx hb dX5_drop_13 rfl (lv_at hl 0 rfl) ?_
    refine va_get (D := (dC, dI)) (ci := 5) (v := .ref a5_1) (C := RX5) (T := TX5) (N := 10) hx hb hts i_X5_drop_X5 hown hK hP 0 rfl rfl 1 (by decide) k_4 (fun _ h9 => h9) rfl dX5_drop_14 ?_
    refine lv_aload_n hx hb dX5_drop_17 rfl (lv_at hl 0 rfl) ?_
    refine va_get (D := (dC, dI)) (ci := 5) (v := .int v5_3) (C := RX5) (T := TX5) (N := 10) hx hb hts i_X5_drop_X5 hown hK hP 0 rfl rfl 3 (by decide) k_1 (fun _ h9 => h9) rfl dX5_drop_18 ?_
    refine lv_iload_n hx hb dX5_drop_21 rfl (lv_at hl 1 rfl) ?_
    refine lv_isub hx hb dX5_drop_22 ?_
    obtain ⟨g_2, hf⟩ := x_gu hf
    refine va_iald hx hb hK hP 1 0 rfl rfl (x_gdin g_2) dX5_drop_23 ?_
    refine lv_bipush (v := 7) hx hb dX5_drop_24 (by decide) ?_
    refine lv_icmp_ne (tgt := 35) hx hb dX5_drop_26 (by decide) (fun c_3 => ?_) (fun c_3 => ?_)
    · replace hf := x_in c_3 hf
      refine lv_aload_n hx hb dX5_drop_35 rfl (lv_at hl 0 rfl) ?_
      refine lv_dup hx hb dX5_drop_36 rfl ?_
      refine va_get (D := (dC, dI)) (ci := 5) (v := .int v5_3) (C := RX5) (T := TX5) (N := 10) hx hb hts i_X5_drop_X5 hown hK hP 0 rfl rfl 3 (by decide) k_1 (fun _ h9 => h9) rfl dX5_drop_37 ?_
      refine lv_iload_n hx hb dX5_drop_40 rfl (lv_at hl 1 rfl) ?_
      refine lv_isub hx hb dX5_drop_41 ?_
      refine va_put (D := (dC, dI)) (ci := 5) (v := .int (v5_3 - p1)) (ty := .int) (C := RX5) (T := TX5) (N := 10) hx hb hts i_X5_drop_X5 tyX5 tyX5_ok nmX5 hown hK hP hD hS 0 rfl rfl 3 (by decide) k_1 (fun _ h9 => h9) rfl (by decide +kernel) rfl rfl (Nat.le_of_ble_eq_true rfl) dX5_drop_42 (fun H locs hP hD hS => ?_)
      have hP : va_P (dC, dI) vwCl [(o5, .inr (5, [.ref o7, .ref a5_1, .int v5_2, .int (v5_3 - p1), .int v5_4, .int v5_5, .int v5_6, .int v5_7, .int v5_8, .int v5_9])), (a5_1, .inl (cyI, 400, .inl g5_1))] H := hP
      have hD : va_D A [(o5, .inr (5, [.ref o7, .ref a5_1, .int v5_2, .int (v5_3 - p1), .int v5_4, .int v5_5, .int v5_6, .int v5_7, .int v5_8, .int v5_9])), (a5_1, .inl (cyI, 400, .inl g5_1))] := hD
      obtain rfl := Option.some.inj hf
      have hP9 := hP.sub (ws' := [(o5, .inr (5, [.ref o7, .ref a5_1, .int v5_2, .int (v5_3 - p1), .int v5_4, .int v5_5, .int v5_6, .int v5_7, .int v5_8, .int v5_9])), (a5_1, .inl (cyI, 400, .inl g5_1))]) [0, 1] rfl
      have hD9 := hD.sub (ws' := [(o5, .inr (5, [.ref o7, .ref a5_1, .int v5_2, .int (v5_3 - p1), .int v5_4, .int v5_5, .int v5_6, .int v5_7, .int v5_8, .int v5_9])), (a5_1, .inl (cyI, 400, .inl g5_1))]) [0, 1] (by decide) rfl
      exact W.vret hx hb hr (fun t ht hW => ⟨⟨(), rfl, trivial, by rw [ht]; exact hP9, va_K.moved hW.alike hK, hD9⟩, hS.F ht⟩) hS.2.2 dX5_drop_45
    · replace hf := x_ip c_3 hf
      refine lv_aload_n hx hb dX5_drop_29 rfl (lv_at hl 0 rfl) ?_
      refine lv_iconst (v := 1) hx hb dX5_drop_30 (by decide) ?_
      refine va_put (D := (dC, dI)) (ci := 5) (v := .int 1) (ty := .boolean) (C := RX5) (T := TX5) (N := 10) hx hb hts i_X5_drop_X5 tyX5 tyX5_ok nmX5 hown hK hP hD hS 0 rfl rfl 6 (by decide) k_3 (fun _ h9 => h9) rfl (by decide +kernel) rfl rfl (Nat.le_of_ble_eq_true rfl) dX5_drop_31 (fun H locs hP hD hS => ?_)
      have hP : va_P (dC, dI) vwCl [(o5, .inr (5, [.ref o7, .ref a5_1, .int v5_2, .int v5_3, .int v5_4, .int v5_5, .int 1, .int v5_7, .int v5_8, .int v5_9])), (a5_1, .inl (cyI, 400, .inl g5_1))] H := hP
      have hD : va_D A [(o5, .inr (5, [.ref o7, .ref a5_1, .int v5_2, .int v5_3, .int v5_4, .int v5_5, .int 1, .int v5_7, .int v5_8, .int v5_9])), (a5_1, .inl (cyI, 400, .inl g5_1))] := hD
      obtain rfl := Option.some.inj hf
      have hP9 := hP.sub (ws' := [(o5, .inr (5, [.ref o7, .ref a5_1, .int v5_2, .int v5_3, .int v5_4, .int v5_5, .int 1, .int v5_7, .int v5_8, .int v5_9])), (a5_1, .inl (cyI, 400, .inl g5_1))]) [0, 1] rfl
      have hD9 := hD.sub (ws' := [(o5, .inr (5, [.ref o7, .ref a5_1, .int v5_2, .int v5_3, .int v5_4, .int v5_5, .int 1, .int v5_7, .int v5_8, .int v5_9])), (a5_1, .inl (cyI, 400, .inl g5_1))]) [0, 1] (by decide) rfl
      exact W.vret hx hb hr (fun t ht hW => ⟨⟨(), rfl, trivial, by rw [ht]; exact hP9, va_K.moved hW.alike hK, hD9⟩, hS.F ht⟩) hS.2.2 dX5_drop_34

def f_X5_copyUnder_L (v5_2 : Int32) (v5_4 : Int32) (l1 : Int32) (l4 : Int32) (v5_3 : Int32) (v5_6 : Int32) (z : Nat × Int32 × (Nat → Int32)) : Option (Int32 × Int32 × (Nat → Int32)) := match z with
  | (q, l5, g5_1) => if q = 0 then if l5 < l4 then (f_X5_copyUnder_L v5_2 v5_4 l1 l4 v5_3 v5_6 (1, 0, g5_1)) else if x_gd l5 400 = true then if x_gd (l5 + l1) 400 = true then (f_X5_copyUnder_L v5_2 v5_4 l1 l4 v5_3 v5_6 (0, l5 + (-1), upd g5_1 (Int32.toNatClampNeg (l5 + l1)) (g5_1 (Int32.toNatClampNeg l5)))) else none else none else if q = 1 then if l1 ≤ l5 then some (v5_3 + l1, v5_6, g5_1) else if x_gd (v5_3 + l5) 400 = true then if x_gd (l4 + l5) 400 = true then (f_X5_copyUnder_L v5_2 v5_4 l1 l4 v5_3 v5_6 (1, l5 + 1, upd g5_1 (Int32.toNatClampNeg (l4 + l5)) (g5_1 (Int32.toNatClampNeg (v5_3 + l5))))) else none else none else none
partial_fixpoint
def f_X5_copyUnder (v5_2 : Int32) (v5_3 : Int32) (v5_4 : Int32) (v5_6 : Int32) (g5_1 : Nat → Int32) (p1 : Int32) (p2 : Int32) : Option (Int32 × Int32 × (Nat → Int32)) := if ((v5_3 - p1) - p2) < v5_2 then some (v5_3, 1, g5_1) else if v5_4 < (v5_3 + p1) then some (v5_3, 1, g5_1) else if x_gd (v5_3 - p1) 400 = true then if (g5_1 (Int32.toNatClampNeg (v5_3 - p1))) = (7 : Int32) then some (v5_3, 1, g5_1) else if x_gd ((v5_3 - p1) - p2) 400 = true then if (g5_1 (Int32.toNatClampNeg ((v5_3 - p1) - p2))) = (7 : Int32) then some (v5_3, 1, g5_1) else (f_X5_copyUnder_L v5_2 v5_4 p1 ((v5_3 - p1) - p2) v5_3 v5_6 (0, v5_3 - (1 : Int32), g5_1)) else none else none
theorem i_X5_copyUnder_X5 : ∀ w ∈ wsX50, w ∈ wsX5_copyUnder := fun _ h => List.mem_cons_of_mem _ (List.mem_append_right _ h)
set_option maxHeartbeats 4000000 in
set_option maxRecDepth 100000 in
theorem c_X5_copyUnder (l : Launch) (dC : Nat → ClassId) (dI : Nat → Nat → Nat) (cyI cyZ cyJ : ClassId) (sz : Nat) (o5 : Nat) (o7 : Nat) (a5_1 : Nat) (v5_2 : Int32) (v5_3 : Int32) (v5_4 : Int32) (v5_5 : Int32) (v5_6 : Int32) (v5_7 : Int32) (v5_8 : Int32) (v5_9 : Int32) (g5_1 : Nat → Int32) (p1 : Int32) (p2 : Int32) (R : Int32 × Int32 × (Nat → Int32)) (hf : f_X5_copyUnder v5_2 v5_3 v5_4 v5_6 g5_1 p1 p2 = some R) : Met l yX5_copyUnder wsX5_copyUnder ({ frames := 0, cells := 0, slots := 0, locals := 0 }) (va_Pc [.ref o5, .int p1, .int p2] (x_PreD (dC, dI) (x_T cyI cyZ cyJ) [(o5, .inr (5, [.ref o7, .ref a5_1, .int v5_2, .int v5_3, .int v5_4, .int v5_5, .int v5_6, .int v5_7, .int v5_8, .int v5_9])), (a5_1, .inl (cyI, 400, .inl g5_1))] sz)) (va_Qv (fun _ : Unit => True) (fun (_ : Unit) (t : State) => va_P (dC, dI) vwCl [(o5, .inr (5, [.ref o7, .ref a5_1, .int v5_2, .int (R.1), .int v5_4, .int v5_5, .int (R.2.1), .int v5_7, .int v5_8, .int v5_9])), (a5_1, .inl (cyI, 400, .inl R.2.2))] t.heap ∧ va_K (dC, dI) vwCl (x_T cyI cyZ cyJ) t ∧ va_D (va_A [(o5, .inr (5, [.ref o7, .ref a5_1, .int v5_2, .int v5_3, .int v5_4, .int v5_5, .int v5_6, .int v5_7, .int v5_8, .int v5_9])), (a5_1, .inl (cyI, 400, .inl g5_1))] sz) [(o5, .inr (5, [.ref o7, .ref a5_1, .int v5_2, .int (R.1), .int v5_4, .int v5_5, .int (R.2.1), .int v5_7, .int v5_8, .int v5_9])), (a5_1, .inl (cyI, 400, .inl R.2.2))]) (va_A [(o5, .inr (5, [.ref o7, .ref a5_1, .int v5_2, .int v5_3, .int v5_4, .int v5_5, .int v5_6, .int v5_7, .int v5_8, .int v5_9])), (a5_1, .inl (cyI, 400, .inl g5_1))] sz)) 0 0 (va_A [(o5, .inr (5, [.ref o7, .ref a5_1, .int v5_2, .int v5_3, .int v5_4, .int v5_5, .int v5_6, .int v5_7, .int v5_8, .int v5_9])), (a5_1, .inl (cyI, 400, .inl g5_1))] sz) := by
  refine Met.ofW (cc := cX5_copyUnder) (maxL := 6) (ret := none) (by decide) rfl ?_
  intro p e s m args below meth c s₁ B hml hv
  obtain ⟨rfl, ⟨hsz, hP, hK, hN⟩, hD0⟩ := hv
  have hx := B.exec
  have hb := B.bytes
  have hr := B.returns
  have hts := atoms_spec (ws := wsX5_copyUnder) B.pre
  have hown : s.vm.findClass RX5 = some m.cls := findClass_of_methodNamed B.named
  have k_1 := hts (.fieldLink RX5 9 "FlowJudge$Places" "cells" "[I") (by decide +kernel)
  have k_2 := hts (.fieldLink RX5 32 "FlowJudge$Places" "top" "I") (by decide +kernel)
  have k_3 := hts (.fieldLink RX5 25 "FlowJudge$Places" "locals" "I") (by decide +kernel)
  have k_4 := hts (.fieldLink RX5 38 "FlowJudge$Places" "refused" "Z") (by decide +kernel)
  have k_5 := hts (.fieldLink RX5 29 "FlowJudge$Places" "end" "I") (by decide +kernel)
  subst hsz
  have hD := hD0.self (sz := s.heap.size)
  generalize hAe : va_A [(o5, .inr (5, [.ref o7, .ref a5_1, .int v5_2, .int v5_3, .int v5_4, .int v5_5, .int v5_6, .int v5_7, .int v5_8, .int v5_9])), (a5_1, .inl (cyI, 400, .inl g5_1))] s.heap.size = A at hD ⊢
  have hA : ∀ q : Nat, s.heap.size ≤ q → A q := fun q h => by rw [← hAe]; exact Or.inr h
  have hP : va_P (dC, dI) vwCl [(o5, .inr (5, [.ref o7, .ref a5_1, .int v5_2, .int v5_3, .int v5_4, .int v5_5, .int v5_6, .int v5_7, .int v5_8, .int v5_9])), (a5_1, .inl (cyI, 400, .inl g5_1))] s.heap := hP
  have hl := lv_entry ([.ref o5, .int p1, .int p2]) (n := 6) (Nat.le_of_ble_eq_true rfl)
  rw [lg_entry_eq]
  generalize (lg_sl ([.ref o5, .int p1, .int p2]) ++ List.replicate (6 - (lg_sl ([.ref o5, .int p1, .int p2])).length) Slot.unset).toArray = ls at hl ⊢
  have hl : lv_has ls 6 [(0, .ref o5), (1, .int p1), (2, .int p2)] := hl
  obtain ⟨H, hH⟩ : ∃ z, z = s.heap := ⟨_, rfl⟩
  refine x_here hH ?_
  have hP : va_P (dC, dI) vwCl [(o5, .inr (5, [.ref o7, .ref a5_1, .int v5_2, .int v5_3, .int v5_4, .int v5_5, .int v5_6, .int v5_7, .int v5_8, .int v5_9])), (a5_1, .inl (cyI, 400, .inl g5_1))] H := by rw [hH]; exact hP
  have hS : va_S A s.heap H [] := by rw [hH]; exact va_S.rf
  clear hH
  obtain ⟨locs, hlo⟩ : ∃ z : List Loc, z = [] := ⟨_, rfl⟩
  refine x_herl hlo ?_
  have hS : va_S A s.heap H locs := by rw [hlo]; exact hS
  clear hlo
  unfold f_X5_copyUnder at hf
  refine x_wn (fun WW hWW => ?_)
  have J := fun (l1 : Int32) (l4 : Int32) (v5_3 : Int32) (v5_6 : Int32) => f_X5_copyUnder_L.partial_correctness v5_2 v5_4 l1 l4 v5_3 v5_6 (fun (z : Nat × Int32 × (Nat → Int32)) (r : Int32 × Int32 × (Nat → Int32)) => r = R → ∀ (q : Nat) (l5 : Int32) (g5_1 : Nat → Int32), z = (q, l5, g5_1) → ((q = 0 → ∀ (H : Heap) (locs : List Loc) (ls : Array Slot), va_P (dC, dI) vwCl [(o5, .inr (5, [.ref o7, .ref a5_1, .int v5_2, .int v5_3, .int v5_4, .int v5_5, .int v5_6, .int v5_7, .int v5_8, .int v5_9])), (a5_1, .inl (cyI, 400, .inl g5_1))] H → va_D A [(o5, .inr (5, [.ref o7, .ref a5_1, .int v5_2, .int v5_3, .int v5_4, .int v5_5, .int v5_6, .int v5_7, .int v5_8, .int v5_9])), (a5_1, .inl (cyI, 400, .inl g5_1))] → va_S A s.heap H locs → lv_has ls 6 [(0, .ref o5), (1, .int l1), (4, .int l4), (5, .int l5)] → WW H locs 0 0 (F0 m 71 ls [])) ∧ (q = 1 → ∀ (H : Heap) (locs : List Loc) (ls : Array Slot), va_P (dC, dI) vwCl [(o5, .inr (5, [.ref o7, .ref a5_1, .int v5_2, .int v5_3, .int v5_4, .int v5_5, .int v5_6, .int v5_7, .int v5_8, .int v5_9])), (a5_1, .inl (cyI, 400, .inl g5_1))] H → va_D A [(o5, .inr (5, [.ref o7, .ref a5_1, .int v5_2, .int v5_3, .int v5_4, .int v5_5, .int v5_6, .int v5_7, .int v5_8, .int v5_9])), (a5_1, .inl (cyI, 400, .inl g5_1))] → va_S A s.heap H locs → lv_has ls 6 [(0, .ref o5), (1, .int l1), (4, .int l4), (5, .int l5)] → WW H locs 0 0 (F0 m 103 ls [])))) (by
    intro F ih z r hf hr q l5 g5_1 hz
    subst hz
    obtain rfl := hr
    refine ⟨?_, ?_⟩
    · intro hq H locs ls hP hD hS hl
      subst hq
      refine (hWW _ _ _ _ _).mp ?_
      replace hf := x_ip rfl hf
      refine lv_iload hx hb dX5_copyUnder_71 (lv_at hl 3 rfl) ?_
      refine lv_iload hx hb dX5_copyUnder_73 (lv_at hl 2 rfl) ?_
      refine lv_icmp_lt (tgt := 100) hx hb dX5_copyUnder_75 (by decide) (fun c_1 => ?_) (fun c_1 => ?_)
      · replace hf := x_ip c_1 hf
        refine lv_iconst (v := 0) hx hb dX5_copyUnder_100 (by decide) ?_
        refine lv_istore (lv' := [(5, .int 0), (0, .ref o5), (1, .int l1), (4, .int l4)]) hx hb dX5_copyUnder_101 hl (by decide) rfl (fun ls hl => ?_)
        exact (hWW _ _ _ _ _).mpr ((ih (1, 0, g5_1) _ hf rfl _ _ _ rfl).2 rfl H locs ls hP hD hS (lv_sub hl [1, 2, 3, 0] rfl))
      · replace hf := x_in c_1 hf
        refine lv_aload_n hx hb dX5_copyUnder_78 rfl (lv_at hl 0 rfl) ?_
        refine va_get (D := (dC, dI)) (ci := 5) (v := .ref a5_1) (C := RX5) (T := TX5) (N := 10) hx hb hts i_X5_copyUnder_X5 hown hK hP 0 rfl rfl 1 (by decide) k_1 (fun _ h9 => h9) rfl dX5_copyUnder_79 ?_
        refine lv_iload hx hb dX5_copyUnder_82 (lv_at hl 3 rfl) ?_
        refine lv_iload_n hx hb dX5_copyUnder_84 rfl (lv_at hl 1 rfl) ?_
        refine lv_iadd hx hb dX5_copyUnder_85 ?_
        refine lv_aload_n hx hb dX5_copyUnder_86 rfl (lv_at hl 0 rfl) ?_
        refine va_get (D := (dC, dI)) (ci := 5) (v := .ref a5_1) (C := RX5) (T := TX5) (N := 10) hx hb hts i_X5_copyUnder_X5 hown hK hP 0 rfl rfl 1 (by decide) k_1 (fun _ h9 => h9) rfl dX5_copyUnder_87 ?_
        refine lv_iload hx hb dX5_copyUnder_90 (lv_at hl 3 rfl) ?_
        obtain ⟨g_2, hf⟩ := x_gu hf
        refine va_iald hx hb hK hP 1 0 rfl rfl (x_gdin g_2) dX5_copyUnder_92 ?_
        obtain ⟨g_3, hf⟩ := x_gu hf
        refine va_iast hx hb hK hP hD hS 1 0 rfl rfl (x_gdin g_3) dX5_copyUnder_93 (fun H locs hP hD hS => ?_)
        have hP : va_P (dC, dI) vwCl [(o5, .inr (5, [.ref o7, .ref a5_1, .int v5_2, .int v5_3, .int v5_4, .int v5_5, .int v5_6, .int v5_7, .int v5_8, .int v5_9])), (a5_1, .inl (cyI, 400, .inl (upd g5_1 (Int32.toNatClampNeg (l5 + l1)) (g5_1 (Int32.toNatClampNeg l5)))))] H := hP
        have hD : va_D A [(o5, .inr (5, [.ref o7, .ref a5_1, .int v5_2, .int v5_3, .int v5_4, .int v5_5, .int v5_6, .int v5_7, .int v5_8, .int v5_9])), (a5_1, .inl (cyI, 400, .inl (upd g5_1 (Int32.toNatClampNeg (l5 + l1)) (g5_1 (Int32.toNatClampNeg l5)))))] := hD
        refine lv_iinc (v := (l5 + (-1))) (lv' := [(5, .int (l5 + (-1))), (0, .ref o5), (1, .int l1), (4, .int l4)]) hx hb dX5_copyUnder_94 hl (k := 3) rfl rfl (by decide) rfl (fun ls hl => ?_)
        refine lv_goto (tgt := 71) hx hb dX5_copyUnder_97 (by decide) ?_
        exact (hWW _ _ _ _ _).mpr ((ih (0, l5 + (-1), upd g5_1 (Int32.toNatClampNeg (l5 + l1)) (g5_1 (Int32.toNatClampNeg l5))) _ hf rfl _ _ _ rfl).1 rfl H locs ls hP hD hS (lv_sub hl [1, 2, 3, 0] rfl))
    · intro hq H locs ls hP hD hS hl
      subst hq
      refine (hWW _ _ _ _ _).mp ?_
      replace hf := x_ip rfl (x_in (by decide) hf)
      refine lv_iload hx hb dX5_copyUnder_103 (lv_at hl 3 rfl) ?_
      refine lv_iload_n hx hb dX5_copyUnder_105 rfl (lv_at hl 1 rfl) ?_
      refine lv_icmp_ge (tgt := 137) hx hb dX5_copyUnder_106 (by decide) (fun c_4 => ?_) (fun c_4 => ?_)
      · replace hf := x_ip c_4 hf
        refine lv_aload_n hx hb dX5_copyUnder_137 rfl (lv_at hl 0 rfl) ?_
        refine lv_dup hx hb dX5_copyUnder_138 rfl ?_
        refine va_get (D := (dC, dI)) (ci := 5) (v := .int v5_3) (C := RX5) (T := TX5) (N := 10) hx hb hts i_X5_copyUnder_X5 hown hK hP 0 rfl rfl 3 (by decide) k_2 (fun _ h9 => h9) rfl dX5_copyUnder_139 ?_
        refine lv_iload_n hx hb dX5_copyUnder_142 rfl (lv_at hl 1 rfl) ?_
        refine lv_iadd hx hb dX5_copyUnder_143 ?_
        refine va_put (D := (dC, dI)) (ci := 5) (v := .int (v5_3 + l1)) (ty := .int) (C := RX5) (T := TX5) (N := 10) hx hb hts i_X5_copyUnder_X5 tyX5 tyX5_ok nmX5 hown hK hP hD hS 0 rfl rfl 3 (by decide) k_2 (fun _ h9 => h9) rfl (by decide +kernel) rfl rfl (Nat.le_of_ble_eq_true rfl) dX5_copyUnder_144 (fun H locs hP hD hS => ?_)
        have hP : va_P (dC, dI) vwCl [(o5, .inr (5, [.ref o7, .ref a5_1, .int v5_2, .int (v5_3 + l1), .int v5_4, .int v5_5, .int v5_6, .int v5_7, .int v5_8, .int v5_9])), (a5_1, .inl (cyI, 400, .inl g5_1))] H := hP
        have hD : va_D A [(o5, .inr (5, [.ref o7, .ref a5_1, .int v5_2, .int (v5_3 + l1), .int v5_4, .int v5_5, .int v5_6, .int v5_7, .int v5_8, .int v5_9])), (a5_1, .inl (cyI, 400, .inl g5_1))] := hD
        obtain rfl := Option.some.inj hf
        have hP9 := hP.sub (ws' := [(o5, .inr (5, [.ref o7, .ref a5_1, .int v5_2, .int (v5_3 + l1), .int v5_4, .int v5_5, .int v5_6, .int v5_7, .int v5_8, .int v5_9])), (a5_1, .inl (cyI, 400, .inl g5_1))]) [0, 1] rfl
        have hD9 := hD.sub (ws' := [(o5, .inr (5, [.ref o7, .ref a5_1, .int v5_2, .int (v5_3 + l1), .int v5_4, .int v5_5, .int v5_6, .int v5_7, .int v5_8, .int v5_9])), (a5_1, .inl (cyI, 400, .inl g5_1))]) [0, 1] (by decide) rfl
        exact W.vret hx hb hr (fun t ht hW => ⟨⟨(), rfl, trivial, by rw [ht]; exact hP9, va_K.moved hW.alike hK, hD9⟩, hS.F ht⟩) hS.2.2 dX5_copyUnder_147
      · replace hf := x_in c_4 hf
        refine lv_aload_n hx hb dX5_copyUnder_109 rfl (lv_at hl 0 rfl) ?_
        refine va_get (D := (dC, dI)) (ci := 5) (v := .ref a5_1) (C := RX5) (T := TX5) (N := 10) hx hb hts i_X5_copyUnder_X5 hown hK hP 0 rfl rfl 1 (by decide) k_1 (fun _ h9 => h9) rfl dX5_copyUnder_110 ?_
        refine lv_iload hx hb dX5_copyUnder_113 (lv_at hl 2 rfl) ?_
        refine lv_iload hx hb dX5_copyUnder_115 (lv_at hl 3 rfl) ?_
        refine lv_iadd hx hb dX5_copyUnder_117 ?_
        refine lv_aload_n hx hb dX5_copyUnder_118 rfl (lv_at hl 0 rfl) ?_
        refine va_get (D := (dC, dI)) (ci := 5) (v := .ref a5_1) (C := RX5) (T := TX5) (N := 10) hx hb hts i_X5_copyUnder_X5 hown hK hP 0 rfl rfl 1 (by decide) k_1 (fun _ h9 => h9) rfl dX5_copyUnder_119 ?_
        refine lv_aload_n hx hb dX5_copyUnder_122 rfl (lv_at hl 0 rfl) ?_
        refine va_get (D := (dC, dI)) (ci := 5) (v := .int v5_3) (C := RX5) (T := TX5) (N := 10) hx hb hts i_X5_copyUnder_X5 hown hK hP 0 rfl rfl 3 (by decide) k_2 (fun _ h9 => h9) rfl dX5_copyUnder_123 ?_
        refine lv_iload hx hb dX5_copyUnder_126 (lv_at hl 3 rfl) ?_
        refine lv_iadd hx hb dX5_copyUnder_128 ?_
        obtain ⟨g_5, hf⟩ := x_gu hf
        refine va_iald hx hb hK hP 1 0 rfl rfl (x_gdin g_5) dX5_copyUnder_129 ?_
        obtain ⟨g_6, hf⟩ := x_gu hf
        refine va_iast hx hb hK hP hD hS 1 0 rfl rfl (x_gdin g_6) dX5_copyUnder_130 (fun H locs hP hD hS => ?_)
        have hP : va_P (dC, dI) vwCl [(o5, .inr (5, [.ref o7, .ref a5_1, .int v5_2, .int v5_3, .int v5_4, .int v5_5, .int v5_6, .int v5_7, .int v5_8, .int v5_9])), (a5_1, .inl (cyI, 400, .inl (upd g5_1 (Int32.toNatClampNeg (l4 + l5)) (g5_1 (Int32.toNatClampNeg (v5_3 + l5))))))] H := hP
        have hD : va_D A [(o5, .inr (5, [.ref o7, .ref a5_1, .int v5_2, .int v5_3, .int v5_4, .int v5_5, .int v5_6, .int v5_7, .int v5_8, .int v5_9])), (a5_1, .inl (cyI, 400, .inl (upd g5_1 (Int32.toNatClampNeg (l4 + l5)) (g5_1 (Int32.toNatClampNeg (v5_3 + l5))))))] := hD
        refine lv_iinc (v := (l5 + 1)) (lv' := [(5, .int (l5 + 1)), (0, .ref o5), (1, .int l1), (4, .int l4)]) hx hb dX5_copyUnder_131 hl (k := 3) rfl rfl (by decide) rfl (fun ls hl => ?_)
        refine lv_goto (tgt := 103) hx hb dX5_copyUnder_134 (by decide) ?_
        exact (hWW _ _ _ _ _).mpr ((ih (1, l5 + 1, upd g5_1 (Int32.toNatClampNeg (l4 + l5)) (g5_1 (Int32.toNatClampNeg (v5_3 + l5)))) _ hf rfl _ _ _ rfl).2 rfl H locs ls hP hD hS (lv_sub hl [1, 2, 3, 0] rfl)))
  refine lv_aload_n hx hb dX5_copyUnder_0 rfl (lv_at hl 0 rfl) ?_
  refine va_get (D := (dC, dI)) (ci := 5) (v := .int v5_3) (C := RX5) (T := TX5) (N := 10) hx hb hts i_X5_copyUnder_X5 hown hK hP 0 rfl rfl 3 (by decide) k_2 (fun _ h9 => h9) rfl dX5_copyUnder_1 ?_
  refine lv_iload_n hx hb dX5_copyUnder_4 rfl (lv_at hl 1 rfl) ?_
  refine lv_isub hx hb dX5_copyUnder_5 ?_
  refine lv_istore_n (lv' := [(3, .int (v5_3 - p1)), (0, .ref o5), (1, .int p1), (2, .int p2)]) hx hb dX5_copyUnder_6 rfl hl (by decide) rfl (fun ls hl => ?_)
  refine lv_iload_n hx hb dX5_copyUnder_7 rfl (lv_at hl 0 rfl) ?_
  refine lv_iload_n hx hb dX5_copyUnder_8 rfl (lv_at hl 3 rfl) ?_
  refine lv_isub hx hb dX5_copyUnder_9 ?_
  refine lv_istore (lv' := [(4, .int ((v5_3 - p1) - p2)), (3, .int (v5_3 - p1)), (0, .ref o5), (1, .int p1), (2, .int p2)]) hx hb dX5_copyUnder_10 hl (by decide) rfl (fun ls hl => ?_)
  refine lv_iload hx hb dX5_copyUnder_12 (lv_at hl 0 rfl) ?_
  refine lv_aload_n hx hb dX5_copyUnder_14 rfl (lv_at hl 2 rfl) ?_
  refine va_get (D := (dC, dI)) (ci := 5) (v := .int v5_2) (C := RX5) (T := TX5) (N := 10) hx hb hts i_X5_copyUnder_X5 hown hK hP 0 rfl rfl 2 (by decide) k_3 (fun _ h9 => h9) rfl dX5_copyUnder_15 ?_
  refine lv_icmp_lt (tgt := 57) hx hb dX5_copyUnder_18 (by decide) (fun c_7 => ?_) (fun c_7 => ?_)
  · replace hf := x_ip c_7 hf
    refine lv_aload_n hx hb dX5_copyUnder_57 rfl (lv_at hl 2 rfl) ?_
    refine lv_iconst (v := 1) hx hb dX5_copyUnder_58 (by decide) ?_
    refine va_put (D := (dC, dI)) (ci := 5) (v := .int 1) (ty := .boolean) (C := RX5) (T := TX5) (N := 10) hx hb hts i_X5_copyUnder_X5 tyX5 tyX5_ok nmX5 hown hK hP hD hS 0 rfl rfl 6 (by decide) k_4 (fun _ h9 => h9) rfl (by decide +kernel) rfl rfl (Nat.le_of_ble_eq_true rfl) dX5_copyUnder_59 (fun H locs hP hD hS => ?_)
    have hP : va_P (dC, dI) vwCl [(o5, .inr (5, [.ref o7, .ref a5_1, .int v5_2, .int v5_3, .int v5_4, .int v5_5, .int 1, .int v5_7, .int v5_8, .int v5_9])), (a5_1, .inl (cyI, 400, .inl g5_1))] H := hP
    have hD : va_D A [(o5, .inr (5, [.ref o7, .ref a5_1, .int v5_2, .int v5_3, .int v5_4, .int v5_5, .int 1, .int v5_7, .int v5_8, .int v5_9])), (a5_1, .inl (cyI, 400, .inl g5_1))] := hD
    obtain rfl := Option.some.inj hf
    have hP9 := hP.sub (ws' := [(o5, .inr (5, [.ref o7, .ref a5_1, .int v5_2, .int v5_3, .int v5_4, .int v5_5, .int 1, .int v5_7, .int v5_8, .int v5_9])), (a5_1, .inl (cyI, 400, .inl g5_1))]) [0, 1] rfl
    have hD9 := hD.sub (ws' := [(o5, .inr (5, [.ref o7, .ref a5_1, .int v5_2, .int v5_3, .int v5_4, .int v5_5, .int 1, .int v5_7, .int v5_8, .int v5_9])), (a5_1, .inl (cyI, 400, .inl g5_1))]) [0, 1] (by decide) rfl
    exact W.vret hx hb hr (fun t ht hW => ⟨⟨(), rfl, trivial, by rw [ht]; exact hP9, va_K.moved hW.alike hK, hD9⟩, hS.F ht⟩) hS.2.2 dX5_copyUnder_62
  · replace hf := x_in c_7 hf
    refine lv_aload_n hx hb dX5_copyUnder_21 rfl (lv_at hl 2 rfl) ?_
    refine va_get (D := (dC, dI)) (ci := 5) (v := .int v5_3) (C := RX5) (T := TX5) (N := 10) hx hb hts i_X5_copyUnder_X5 hown hK hP 0 rfl rfl 3 (by decide) k_2 (fun _ h9 => h9) rfl dX5_copyUnder_22 ?_
    refine lv_iload_n hx hb dX5_copyUnder_25 rfl (lv_at hl 3 rfl) ?_
    refine lv_iadd hx hb dX5_copyUnder_26 ?_
    refine lv_aload_n hx hb dX5_copyUnder_27 rfl (lv_at hl 2 rfl) ?_
    refine va_get (D := (dC, dI)) (ci := 5) (v := .int v5_4) (C := RX5) (T := TX5) (N := 10) hx hb hts i_X5_copyUnder_X5 hown hK hP 0 rfl rfl 4 (by decide) k_5 (fun _ h9 => h9) rfl dX5_copyUnder_28 ?_
    refine lv_icmp_gt (tgt := 57) hx hb dX5_copyUnder_31 (by decide) (fun c_8 => ?_) (fun c_8 => ?_)
    · replace hf := x_ip c_8 hf
      refine lv_aload_n hx hb dX5_copyUnder_57 rfl (lv_at hl 2 rfl) ?_
      refine lv_iconst (v := 1) hx hb dX5_copyUnder_58 (by decide) ?_
      refine va_put (D := (dC, dI)) (ci := 5) (v := .int 1) (ty := .boolean) (C := RX5) (T := TX5) (N := 10) hx hb hts i_X5_copyUnder_X5 tyX5 tyX5_ok nmX5 hown hK hP hD hS 0 rfl rfl 6 (by decide) k_4 (fun _ h9 => h9) rfl (by decide +kernel) rfl rfl (Nat.le_of_ble_eq_true rfl) dX5_copyUnder_59 (fun H locs hP hD hS => ?_)
      have hP : va_P (dC, dI) vwCl [(o5, .inr (5, [.ref o7, .ref a5_1, .int v5_2, .int v5_3, .int v5_4, .int v5_5, .int 1, .int v5_7, .int v5_8, .int v5_9])), (a5_1, .inl (cyI, 400, .inl g5_1))] H := hP
      have hD : va_D A [(o5, .inr (5, [.ref o7, .ref a5_1, .int v5_2, .int v5_3, .int v5_4, .int v5_5, .int 1, .int v5_7, .int v5_8, .int v5_9])), (a5_1, .inl (cyI, 400, .inl g5_1))] := hD
      obtain rfl := Option.some.inj hf
      have hP9 := hP.sub (ws' := [(o5, .inr (5, [.ref o7, .ref a5_1, .int v5_2, .int v5_3, .int v5_4, .int v5_5, .int 1, .int v5_7, .int v5_8, .int v5_9])), (a5_1, .inl (cyI, 400, .inl g5_1))]) [0, 1] rfl
      have hD9 := hD.sub (ws' := [(o5, .inr (5, [.ref o7, .ref a5_1, .int v5_2, .int v5_3, .int v5_4, .int v5_5, .int 1, .int v5_7, .int v5_8, .int v5_9])), (a5_1, .inl (cyI, 400, .inl g5_1))]) [0, 1] (by decide) rfl
      exact W.vret hx hb hr (fun t ht hW => ⟨⟨(), rfl, trivial, by rw [ht]; exact hP9, va_K.moved hW.alike hK, hD9⟩, hS.F ht⟩) hS.2.2 dX5_copyUnder_62
    · replace hf := x_in c_8 hf
      refine lv_aload_n hx hb dX5_copyUnder_34 rfl (lv_at hl 2 rfl) ?_
      refine va_get (D := (dC, dI)) (ci := 5) (v := .ref a5_1) (C := RX5) (T := TX5) (N := 10) hx hb hts i_X5_copyUnder_X5 hown hK hP 0 rfl rfl 1 (by decide) k_1 (fun _ h9 => h9) rfl dX5_copyUnder_35 ?_
      refine lv_iload_n hx hb dX5_copyUnder_38 rfl (lv_at hl 1 rfl) ?_
      obtain ⟨g_9, hf⟩ := x_gu hf
      refine va_iald hx hb hK hP 1 0 rfl rfl (x_gdin g_9) dX5_copyUnder_39 ?_
      refine lv_bipush (v := 7) hx hb dX5_copyUnder_40 (by decide) ?_
      refine lv_icmp_eq (tgt := 57) hx hb dX5_copyUnder_42 (by decide) (fun c_10 => ?_) (fun c_10 => ?_)
      · replace hf := x_ip c_10 hf
        refine lv_aload_n hx hb dX5_copyUnder_57 rfl (lv_at hl 2 rfl) ?_
        refine lv_iconst (v := 1) hx hb dX5_copyUnder_58 (by decide) ?_
        refine va_put (D := (dC, dI)) (ci := 5) (v := .int 1) (ty := .boolean) (C := RX5) (T := TX5) (N := 10) hx hb hts i_X5_copyUnder_X5 tyX5 tyX5_ok nmX5 hown hK hP hD hS 0 rfl rfl 6 (by decide) k_4 (fun _ h9 => h9) rfl (by decide +kernel) rfl rfl (Nat.le_of_ble_eq_true rfl) dX5_copyUnder_59 (fun H locs hP hD hS => ?_)
        have hP : va_P (dC, dI) vwCl [(o5, .inr (5, [.ref o7, .ref a5_1, .int v5_2, .int v5_3, .int v5_4, .int v5_5, .int 1, .int v5_7, .int v5_8, .int v5_9])), (a5_1, .inl (cyI, 400, .inl g5_1))] H := hP
        have hD : va_D A [(o5, .inr (5, [.ref o7, .ref a5_1, .int v5_2, .int v5_3, .int v5_4, .int v5_5, .int 1, .int v5_7, .int v5_8, .int v5_9])), (a5_1, .inl (cyI, 400, .inl g5_1))] := hD
        obtain rfl := Option.some.inj hf
        have hP9 := hP.sub (ws' := [(o5, .inr (5, [.ref o7, .ref a5_1, .int v5_2, .int v5_3, .int v5_4, .int v5_5, .int 1, .int v5_7, .int v5_8, .int v5_9])), (a5_1, .inl (cyI, 400, .inl g5_1))]) [0, 1] rfl
        have hD9 := hD.sub (ws' := [(o5, .inr (5, [.ref o7, .ref a5_1, .int v5_2, .int v5_3, .int v5_4, .int v5_5, .int 1, .int v5_7, .int v5_8, .int v5_9])), (a5_1, .inl (cyI, 400, .inl g5_1))]) [0, 1] (by decide) rfl
        exact W.vret hx hb hr (fun t ht hW => ⟨⟨(), rfl, trivial, by rw [ht]; exact hP9, va_K.moved hW.alike hK, hD9⟩, hS.F ht⟩) hS.2.2 dX5_copyUnder_62
      · replace hf := x_in c_10 hf
        refine lv_aload_n hx hb dX5_copyUnder_45 rfl (lv_at hl 2 rfl) ?_
        refine va_get (D := (dC, dI)) (ci := 5) (v := .ref a5_1) (C := RX5) (T := TX5) (N := 10) hx hb hts i_X5_copyUnder_X5 hown hK hP 0 rfl rfl 1 (by decide) k_1 (fun _ h9 => h9) rfl dX5_copyUnder_46 ?_
        refine lv_iload hx hb dX5_copyUnder_49 (lv_at hl 0 rfl) ?_
        obtain ⟨g_11, hf⟩ := x_gu hf
        refine va_iald hx hb hK hP 1 0 rfl rfl (x_gdin g_11) dX5_copyUnder_51 ?_
        refine lv_bipush (v := 7) hx hb dX5_copyUnder_52 (by decide) ?_
        refine lv_icmp_ne (tgt := 63) hx hb dX5_copyUnder_54 (by decide) (fun c_12 => ?_) (fun c_12 => ?_)
        · replace hf := x_in c_12 hf
          refine lv_aload_n hx hb dX5_copyUnder_63 rfl (lv_at hl 2 rfl) ?_
          refine va_get (D := (dC, dI)) (ci := 5) (v := .int v5_3) (C := RX5) (T := TX5) (N := 10) hx hb hts i_X5_copyUnder_X5 hown hK hP 0 rfl rfl 3 (by decide) k_2 (fun _ h9 => h9) rfl dX5_copyUnder_64 ?_
          refine lv_iconst (v := 1) hx hb dX5_copyUnder_67 (by decide) ?_
          refine lv_isub hx hb dX5_copyUnder_68 ?_
          refine lv_istore (lv' := [(5, .int (v5_3 - (1 : Int32))), (4, .int ((v5_3 - p1) - p2)), (3, .int (v5_3 - p1)), (0, .ref o5), (1, .int p1), (2, .int p2)]) hx hb dX5_copyUnder_69 hl (by decide) rfl (fun ls hl => ?_)
          exact (hWW _ _ _ _ _).mpr ((J p1 ((v5_3 - p1) - p2) v5_3 v5_6 (0, v5_3 - (1 : Int32), g5_1) _ hf rfl _ _ _ rfl).1 rfl H locs ls hP hD hS (lv_sub hl [3, 4, 1, 0] rfl))
        · replace hf := x_ip c_12 hf
          refine lv_aload_n hx hb dX5_copyUnder_57 rfl (lv_at hl 2 rfl) ?_
          refine lv_iconst (v := 1) hx hb dX5_copyUnder_58 (by decide) ?_
          refine va_put (D := (dC, dI)) (ci := 5) (v := .int 1) (ty := .boolean) (C := RX5) (T := TX5) (N := 10) hx hb hts i_X5_copyUnder_X5 tyX5 tyX5_ok nmX5 hown hK hP hD hS 0 rfl rfl 6 (by decide) k_4 (fun _ h9 => h9) rfl (by decide +kernel) rfl rfl (Nat.le_of_ble_eq_true rfl) dX5_copyUnder_59 (fun H locs hP hD hS => ?_)
          have hP : va_P (dC, dI) vwCl [(o5, .inr (5, [.ref o7, .ref a5_1, .int v5_2, .int v5_3, .int v5_4, .int v5_5, .int 1, .int v5_7, .int v5_8, .int v5_9])), (a5_1, .inl (cyI, 400, .inl g5_1))] H := hP
          have hD : va_D A [(o5, .inr (5, [.ref o7, .ref a5_1, .int v5_2, .int v5_3, .int v5_4, .int v5_5, .int 1, .int v5_7, .int v5_8, .int v5_9])), (a5_1, .inl (cyI, 400, .inl g5_1))] := hD
          obtain rfl := Option.some.inj hf
          have hP9 := hP.sub (ws' := [(o5, .inr (5, [.ref o7, .ref a5_1, .int v5_2, .int v5_3, .int v5_4, .int v5_5, .int 1, .int v5_7, .int v5_8, .int v5_9])), (a5_1, .inl (cyI, 400, .inl g5_1))]) [0, 1] rfl
          have hD9 := hD.sub (ws' := [(o5, .inr (5, [.ref o7, .ref a5_1, .int v5_2, .int v5_3, .int v5_4, .int v5_5, .int 1, .int v5_7, .int v5_8, .int v5_9])), (a5_1, .inl (cyI, 400, .inl g5_1))]) [0, 1] (by decide) rfl
          exact W.vret hx hb hr (fun t ht hW => ⟨⟨(), rfl, trivial, by rw [ht]; exact hP9, va_K.moved hW.alike hK, hD9⟩, hS.F ht⟩) hS.2.2 dX5_copyUnder_62

def f_X5_exchange (v5_2 : Int32) (v5_3 : Int32) (v5_6 : Int32) (g5_1 : Nat → Int32) : Option (Int32 × Int32 × (Nat → Int32)) := (f_X5_pull v5_2 v5_3 v5_6 g5_1) >>= (fun r_1 => (f_X5_pull v5_2 r_1.2.1 r_1.2.2 g5_1) >>= (fun r_2 => if r_2.2.2 = (0 : Int32) then if x_gd r_2.2.1 400 = true then if x_gd (r_2.2.1 + (1 : Int32)) 400 = true then some (r_2.2.1 + (2 : Int32), r_2.2.2, upd (upd g5_1 (Int32.toNatClampNeg r_2.2.1) r_1.1) (Int32.toNatClampNeg (r_2.2.1 + (1 : Int32))) r_2.1) else none else none else some (r_2.2.1, r_2.2.2, g5_1)))
theorem i_X5_exchange_X5 : ∀ w ∈ wsX50, w ∈ wsX5_exchange := fun _ h => List.mem_cons_of_mem _ (List.mem_append_right _ h)
set_option maxHeartbeats 4000000 in
set_option maxRecDepth 100000 in
theorem c_X5_exchange (l : Launch) (dC : Nat → ClassId) (dI : Nat → Nat → Nat) (cyI cyZ cyJ : ClassId) (sz : Nat) (o5 : Nat) (o7 : Nat) (a5_1 : Nat) (v5_2 : Int32) (v5_3 : Int32) (v5_4 : Int32) (v5_5 : Int32) (v5_6 : Int32) (v5_7 : Int32) (v5_8 : Int32) (v5_9 : Int32) (g5_1 : Nat → Int32) (R : Int32 × Int32 × (Nat → Int32)) (hf : f_X5_exchange v5_2 v5_3 v5_6 g5_1 = some R) : Met l yX5_exchange wsX5_exchange ({ frames := 1, cells := 0, slots := 0, locals := 20 }) (va_Pc [.ref o5] (x_PreD (dC, dI) (x_T cyI cyZ cyJ) [(o5, .inr (5, [.ref o7, .ref a5_1, .int v5_2, .int v5_3, .int v5_4, .int v5_5, .int v5_6, .int v5_7, .int v5_8, .int v5_9])), (a5_1, .inl (cyI, 400, .inl g5_1))] sz)) (va_Qv (fun _ : Unit => True) (fun (_ : Unit) (t : State) => va_P (dC, dI) vwCl [(o5, .inr (5, [.ref o7, .ref a5_1, .int v5_2, .int (R.1), .int v5_4, .int v5_5, .int (R.2.1), .int v5_7, .int v5_8, .int v5_9])), (a5_1, .inl (cyI, 400, .inl R.2.2))] t.heap ∧ va_K (dC, dI) vwCl (x_T cyI cyZ cyJ) t ∧ va_D (va_A [(o5, .inr (5, [.ref o7, .ref a5_1, .int v5_2, .int v5_3, .int v5_4, .int v5_5, .int v5_6, .int v5_7, .int v5_8, .int v5_9])), (a5_1, .inl (cyI, 400, .inl g5_1))] sz) [(o5, .inr (5, [.ref o7, .ref a5_1, .int v5_2, .int (R.1), .int v5_4, .int v5_5, .int (R.2.1), .int v5_7, .int v5_8, .int v5_9])), (a5_1, .inl (cyI, 400, .inl R.2.2))]) (va_A [(o5, .inr (5, [.ref o7, .ref a5_1, .int v5_2, .int v5_3, .int v5_4, .int v5_5, .int v5_6, .int v5_7, .int v5_8, .int v5_9])), (a5_1, .inl (cyI, 400, .inl g5_1))] sz)) 0 0 (va_A [(o5, .inr (5, [.ref o7, .ref a5_1, .int v5_2, .int v5_3, .int v5_4, .int v5_5, .int v5_6, .int v5_7, .int v5_8, .int v5_9])), (a5_1, .inl (cyI, 400, .inl g5_1))] sz) := by
  refine Met.ofW (cc := cX5_exchange) (maxL := 3) (ret := none) (by decide) rfl ?_
  intro p e s m args below meth c s₁ B hml hv
  obtain ⟨rfl, ⟨hsz, hP, hK, hN⟩, hD0⟩ := hv
  have hx := B.exec
  have hb := B.bytes
  have hr := B.returns
  have hts := atoms_spec (ws := wsX5_exchange) B.pre
  have hown : s.vm.findClass RX5 = some m.cls := findClass_of_methodNamed B.named
  have k_1 := hts (.fieldLink RX5 38 "FlowJudge$Places" "refused" "Z") (by decide +kernel)
  have k_2 := hts (.fieldLink RX5 9 "FlowJudge$Places" "cells" "[I") (by decide +kernel)
  have k_3 := hts (.fieldLink RX5 32 "FlowJudge$Places" "top" "I") (by decide +kernel)
  subst hsz
  have hD := hD0.self (sz := s.heap.size)
  generalize hAe : va_A [(o5, .inr (5, [.ref o7, .ref a5_1, .int v5_2, .int v5_3, .int v5_4, .int v5_5, .int v5_6, .int v5_7, .int v5_8, .int v5_9])), (a5_1, .inl (cyI, 400, .inl g5_1))] s.heap.size = A at hD ⊢
  have hA : ∀ q : Nat, s.heap.size ≤ q → A q := fun q h => by rw [← hAe]; exact Or.inr h
  have hP : va_P (dC, dI) vwCl [(o5, .inr (5, [.ref o7, .ref a5_1, .int v5_2, .int v5_3, .int v5_4, .int v5_5, .int v5_6, .int v5_7, .int v5_8, .int v5_9])), (a5_1, .inl (cyI, 400, .inl g5_1))] s.heap := hP
  have hl := lv_entry ([.ref o5]) (n := 3) (Nat.le_of_ble_eq_true rfl)
  rw [lg_entry_eq]
  generalize (lg_sl ([.ref o5]) ++ List.replicate (3 - (lg_sl ([.ref o5])).length) Slot.unset).toArray = ls at hl ⊢
  have hl : lv_has ls 3 [(0, .ref o5)] := hl
  obtain ⟨H, hH⟩ : ∃ z, z = s.heap := ⟨_, rfl⟩
  refine x_here hH ?_
  have hP : va_P (dC, dI) vwCl [(o5, .inr (5, [.ref o7, .ref a5_1, .int v5_2, .int v5_3, .int v5_4, .int v5_5, .int v5_6, .int v5_7, .int v5_8, .int v5_9])), (a5_1, .inl (cyI, 400, .inl g5_1))] H := by rw [hH]; exact hP
  have hS : va_S A s.heap H [] := by rw [hH]; exact va_S.rf
  clear hH
  obtain ⟨locs, hlo⟩ : ∃ z : List Loc, z = [] := ⟨_, rfl⟩
  refine x_herl hlo ?_
  have hS : va_S A s.heap H locs := by rw [hlo]; exact hS
  clear hlo
  unfold f_X5_exchange at hf
  refine lv_aload_n hx hb dX5_exchange_0 rfl (lv_at hl 0 rfl) ?_
  obtain ⟨r_1, h_1, hf⟩ := x_bi hf
  have hPc := hP.sub (ws' := [(o5, .inr (5, [.ref o7, .ref a5_1, .int v5_2, .int v5_3, .int v5_4, .int v5_5, .int v5_6, .int v5_7, .int v5_8, .int v5_9])), (a5_1, .inl (cyI, 400, .inl g5_1))]) [0, 1] rfl
  have hDc := hD.sub (ws' := [(o5, .inr (5, [.ref o7, .ref a5_1, .int v5_2, .int v5_3, .int v5_4, .int v5_5, .int v5_6, .int v5_7, .int v5_8, .int v5_9])), (a5_1, .inl (cyI, 400, .inl g5_1))]) [0, 1] (by decide) rfl
  have hFc := va_free (wc := [(o5, .inr (5, [.ref o7, .ref a5_1, .int v5_2, .int v5_3, .int v5_4, .int v5_5, .int v5_6, .int v5_7, .int v5_8, .int v5_9])), (a5_1, .inl (cyI, 400, .inl g5_1))]) hD hS hA [0, 1] rfl
  refine va_calli (va_runV (As := []) (rest := []) ⟨hx, hb, hml, hown, hts⟩ (c_X5_pull l dC dI cyI cyZ cyJ H.size o5 o7 a5_1 v5_2 v5_3 v5_4 v5_5 v5_6 v5_7 v5_8 v5_9 g5_1 r_1 h_1) (cwV 0 hts gX5_exchange_X5_pull rfl rfl rfl (by decide +kernel) ⟨Nat.le_of_ble_eq_true rfl, Nat.le_of_ble_eq_true rfl⟩) (x_pVD hN hK hPc hDc (ci := 5) (q0 := 0) rfl rfl) rfl rfl hl.1 rfl (lv_room (Nat.le_of_ble_eq_true rfl)) dX5_exchange_1 ⟨Nat.le_of_ble_eq_true rfl, Nat.le_of_ble_eq_true rfl⟩) hS (fun q _ h => hFc q h) hFc (fun q_1 u t H1 locs ht hvm hw hB hz1 hk1 hS => ?_)
  obtain ⟨hP1, hK1, hD1⟩ := hB
  rw [ht] at hP1
  obtain ⟨hP, hD⟩ := va_join (wr := []) (w1 := [(o5, .inr (5, [.ref o7, .ref a5_1, .int v5_2, .int (r_1.2.1), .int v5_4, .int v5_5, .int (r_1.2.2), .int v5_7, .int v5_8, .int v5_9])), (a5_1, .inl (cyI, 400, .inl g5_1))]) hP hD [0, 1] [] rfl rfl (by decide) (by decide) hk1 hFc hP1 hD1
  clear hz1 hk1 hPc hDc hFc hP1 hK1 hD1 ht hvm t u
  generalize H1 = H at hP hS ⊢
  have hP : va_P (dC, dI) vwCl [(o5, .inr (5, [.ref o7, .ref a5_1, .int v5_2, .int (r_1.2.1), .int v5_4, .int v5_5, .int (r_1.2.2), .int v5_7, .int v5_8, .int v5_9])), (a5_1, .inl (cyI, 400, .inl g5_1))] H := hP
  have hD : va_D A [(o5, .inr (5, [.ref o7, .ref a5_1, .int v5_2, .int (r_1.2.1), .int v5_4, .int v5_5, .int (r_1.2.2), .int v5_7, .int v5_8, .int v5_9])), (a5_1, .inl (cyI, 400, .inl g5_1))] := hD
  obtain rfl := hw.symm
  refine lv_istore_n (lv' := [(1, .int (r_1.1)), (0, .ref o5)]) hx hb dX5_exchange_4 rfl hl (by decide) rfl (fun ls hl => ?_)
  refine lv_aload_n hx hb dX5_exchange_5 rfl (lv_at hl 1 rfl) ?_
  obtain ⟨r_2, h_2, hf⟩ := x_bi hf
  have hPc := hP.sub (ws' := [(o5, .inr (5, [.ref o7, .ref a5_1, .int v5_2, .int (r_1.2.1), .int v5_4, .int v5_5, .int (r_1.2.2), .int v5_7, .int v5_8, .int v5_9])), (a5_1, .inl (cyI, 400, .inl g5_1))]) [0, 1] rfl
  have hDc := hD.sub (ws' := [(o5, .inr (5, [.ref o7, .ref a5_1, .int v5_2, .int (r_1.2.1), .int v5_4, .int v5_5, .int (r_1.2.2), .int v5_7, .int v5_8, .int v5_9])), (a5_1, .inl (cyI, 400, .inl g5_1))]) [0, 1] (by decide) rfl
  have hFc := va_free (wc := [(o5, .inr (5, [.ref o7, .ref a5_1, .int v5_2, .int (r_1.2.1), .int v5_4, .int v5_5, .int (r_1.2.2), .int v5_7, .int v5_8, .int v5_9])), (a5_1, .inl (cyI, 400, .inl g5_1))]) hD hS hA [0, 1] rfl
  refine va_calli (va_runV (As := []) (rest := []) ⟨hx, hb, hml, hown, hts⟩ (c_X5_pull l dC dI cyI cyZ cyJ H.size o5 o7 a5_1 v5_2 r_1.2.1 v5_4 v5_5 r_1.2.2 v5_7 v5_8 v5_9 g5_1 r_2 h_2) (cwV 0 hts gX5_exchange_X5_pull rfl rfl rfl (by decide +kernel) ⟨Nat.le_of_ble_eq_true rfl, Nat.le_of_ble_eq_true rfl⟩) (x_pVD hN hK hPc hDc (ci := 5) (q0 := 0) rfl rfl) rfl rfl hl.1 rfl (lv_room (Nat.le_of_ble_eq_true rfl)) dX5_exchange_6 ⟨Nat.le_of_ble_eq_true rfl, Nat.le_of_ble_eq_true rfl⟩) hS (fun q _ h => hFc q h) hFc (fun q_2 u t H1 locs ht hvm hw hB hz1 hk1 hS => ?_)
  obtain ⟨hP1, hK1, hD1⟩ := hB
  rw [ht] at hP1
  obtain ⟨hP, hD⟩ := va_join (wr := []) (w1 := [(o5, .inr (5, [.ref o7, .ref a5_1, .int v5_2, .int (r_2.2.1), .int v5_4, .int v5_5, .int (r_2.2.2), .int v5_7, .int v5_8, .int v5_9])), (a5_1, .inl (cyI, 400, .inl g5_1))]) hP hD [0, 1] [] rfl rfl (by decide) (by decide) hk1 hFc hP1 hD1
  clear hz1 hk1 hPc hDc hFc hP1 hK1 hD1 ht hvm t u
  generalize H1 = H at hP hS ⊢
  have hP : va_P (dC, dI) vwCl [(o5, .inr (5, [.ref o7, .ref a5_1, .int v5_2, .int (r_2.2.1), .int v5_4, .int v5_5, .int (r_2.2.2), .int v5_7, .int v5_8, .int v5_9])), (a5_1, .inl (cyI, 400, .inl g5_1))] H := hP
  have hD : va_D A [(o5, .inr (5, [.ref o7, .ref a5_1, .int v5_2, .int (r_2.2.1), .int v5_4, .int v5_5, .int (r_2.2.2), .int v5_7, .int v5_8, .int v5_9])), (a5_1, .inl (cyI, 400, .inl g5_1))] := hD
  obtain rfl := hw.symm
  refine lv_istore_n (lv' := [(2, .int (r_2.1)), (1, .int (r_1.1)), (0, .ref o5)]) hx hb dX5_exchange_9 rfl hl (by decide) rfl (fun ls hl => ?_)
  refine lv_aload_n hx hb dX5_exchange_10 rfl (lv_at hl 2 rfl) ?_
  refine va_get (D := (dC, dI)) (ci := 5) (v := .int (r_2.2.2)) (C := RX5) (T := TX5) (N := 10) hx hb hts i_X5_exchange_X5 hown hK hP 0 rfl rfl 6 (by decide) k_1 (fun _ h9 => h9) rfl dX5_exchange_11 ?_
  refine lv_if_ne (tgt := 49) hx hb dX5_exchange_14 (by decide) (fun c_3 => ?_) (fun c_3 => ?_)
  · replace hf := x_in c_3 hf
    obtain rfl := Option.some.inj hf
    have hP9 := hP.sub (ws' := [(o5, .inr (5, [.ref o7, .ref a5_1, .int v5_2, .int (r_2.2.1), .int v5_4, .int v5_5, .int (r_2.2.2), .int v5_7, .int v5_8, .int v5_9])), (a5_1, .inl (cyI, 400, .inl g5_1))]) [0, 1] rfl
    have hD9 := hD.sub (ws' := [(o5, .inr (5, [.ref o7, .ref a5_1, .int v5_2, .int (r_2.2.1), .int v5_4, .int v5_5, .int (r_2.2.2), .int v5_7, .int v5_8, .int v5_9])), (a5_1, .inl (cyI, 400, .inl g5_1))]) [0, 1] (by decide) rfl
    exact W.vret hx hb hr (fun t ht hW => ⟨⟨(), rfl, trivial, by rw [ht]; exact hP9, va_K.moved hW.alike hK, hD9⟩, hS.F ht⟩) hS.2.2 dX5_exchange_49
  · replace hf := x_ip c_3 hf
    refine lv_aload_n hx hb dX5_exchange_17 rfl (lv_at hl 2 rfl) ?_
    refine va_get (D := (dC, dI)) (ci := 5) (v := .ref a5_1) (C := RX5) (T := TX5) (N := 10) hx hb hts i_X5_exchange_X5 hown hK hP 0 rfl rfl 1 (by decide) k_2 (fun _ h9 => h9) rfl dX5_exchange_18 ?_
    refine lv_aload_n hx hb dX5_exchange_21 rfl (lv_at hl 2 rfl) ?_
    refine va_get (D := (dC, dI)) (ci := 5) (v := .int (r_2.2.1)) (C := RX5) (T := TX5) (N := 10) hx hb hts i_X5_exchange_X5 hown hK hP 0 rfl rfl 3 (by decide) k_3 (fun _ h9 => h9) rfl dX5_exchange_22 ?_
    refine lv_iload_n hx hb dX5_exchange_25 rfl (lv_at hl 1 rfl) ?_
    obtain ⟨g_4, hf⟩ := x_gu hf
    refine va_iast hx hb hK hP hD hS 1 0 rfl rfl (x_gdin g_4) dX5_exchange_26 (fun H locs hP hD hS => ?_)
    have hP : va_P (dC, dI) vwCl [(o5, .inr (5, [.ref o7, .ref a5_1, .int v5_2, .int (r_2.2.1), .int v5_4, .int v5_5, .int (r_2.2.2), .int v5_7, .int v5_8, .int v5_9])), (a5_1, .inl (cyI, 400, .inl (upd g5_1 (Int32.toNatClampNeg r_2.2.1) r_1.1)))] H := hP
    have hD : va_D A [(o5, .inr (5, [.ref o7, .ref a5_1, .int v5_2, .int (r_2.2.1), .int v5_4, .int v5_5, .int (r_2.2.2), .int v5_7, .int v5_8, .int v5_9])), (a5_1, .inl (cyI, 400, .inl (upd g5_1 (Int32.toNatClampNeg r_2.2.1) r_1.1)))] := hD
    refine lv_aload_n hx hb dX5_exchange_27 rfl (lv_at hl 2 rfl) ?_
    refine va_get (D := (dC, dI)) (ci := 5) (v := .ref a5_1) (C := RX5) (T := TX5) (N := 10) hx hb hts i_X5_exchange_X5 hown hK hP 0 rfl rfl 1 (by decide) k_2 (fun _ h9 => h9) rfl dX5_exchange_28 ?_
    refine lv_aload_n hx hb dX5_exchange_31 rfl (lv_at hl 2 rfl) ?_
    refine va_get (D := (dC, dI)) (ci := 5) (v := .int (r_2.2.1)) (C := RX5) (T := TX5) (N := 10) hx hb hts i_X5_exchange_X5 hown hK hP 0 rfl rfl 3 (by decide) k_3 (fun _ h9 => h9) rfl dX5_exchange_32 ?_
    refine lv_iconst (v := 1) hx hb dX5_exchange_35 (by decide) ?_
    refine lv_iadd hx hb dX5_exchange_36 ?_
    refine lv_iload_n hx hb dX5_exchange_37 rfl (lv_at hl 0 rfl) ?_
    obtain ⟨g_5, hf⟩ := x_gu hf
    refine va_iast hx hb hK hP hD hS 1 0 rfl rfl (x_gdin g_5) dX5_exchange_38 (fun H locs hP hD hS => ?_)
    have hP : va_P (dC, dI) vwCl [(o5, .inr (5, [.ref o7, .ref a5_1, .int v5_2, .int (r_2.2.1), .int v5_4, .int v5_5, .int (r_2.2.2), .int v5_7, .int v5_8, .int v5_9])), (a5_1, .inl (cyI, 400, .inl (upd (upd g5_1 (Int32.toNatClampNeg r_2.2.1) r_1.1) (Int32.toNatClampNeg (r_2.2.1 + (1 : Int32))) r_2.1)))] H := hP
    have hD : va_D A [(o5, .inr (5, [.ref o7, .ref a5_1, .int v5_2, .int (r_2.2.1), .int v5_4, .int v5_5, .int (r_2.2.2), .int v5_7, .int v5_8, .int v5_9])), (a5_1, .inl (cyI, 400, .inl (upd (upd g5_1 (Int32.toNatClampNeg r_2.2.1) r_1.1) (Int32.toNatClampNeg (r_2.2.1 + (1 : Int32))) r_2.1)))] := hD
    refine lv_aload_n hx hb dX5_exchange_39 rfl (lv_at hl 2 rfl) ?_
    refine lv_dup hx hb dX5_exchange_40 rfl ?_
    refine va_get (D := (dC, dI)) (ci := 5) (v := .int (r_2.2.1)) (C := RX5) (T := TX5) (N := 10) hx hb hts i_X5_exchange_X5 hown hK hP 0 rfl rfl 3 (by decide) k_3 (fun _ h9 => h9) rfl dX5_exchange_41 ?_
    refine lv_iconst (v := 2) hx hb dX5_exchange_44 (by decide) ?_
    refine lv_iadd hx hb dX5_exchange_45 ?_
    refine va_put (D := (dC, dI)) (ci := 5) (v := .int (r_2.2.1 + (2 : Int32))) (ty := .int) (C := RX5) (T := TX5) (N := 10) hx hb hts i_X5_exchange_X5 tyX5 tyX5_ok nmX5 hown hK hP hD hS 0 rfl rfl 3 (by decide) k_3 (fun _ h9 => h9) rfl (by decide +kernel) rfl rfl (Nat.le_of_ble_eq_true rfl) dX5_exchange_46 (fun H locs hP hD hS => ?_)
    have hP : va_P (dC, dI) vwCl [(o5, .inr (5, [.ref o7, .ref a5_1, .int v5_2, .int (r_2.2.1 + (2 : Int32)), .int v5_4, .int v5_5, .int (r_2.2.2), .int v5_7, .int v5_8, .int v5_9])), (a5_1, .inl (cyI, 400, .inl (upd (upd g5_1 (Int32.toNatClampNeg r_2.2.1) r_1.1) (Int32.toNatClampNeg (r_2.2.1 + (1 : Int32))) r_2.1)))] H := hP
    have hD : va_D A [(o5, .inr (5, [.ref o7, .ref a5_1, .int v5_2, .int (r_2.2.1 + (2 : Int32)), .int v5_4, .int v5_5, .int (r_2.2.2), .int v5_7, .int v5_8, .int v5_9])), (a5_1, .inl (cyI, 400, .inl (upd (upd g5_1 (Int32.toNatClampNeg r_2.2.1) r_1.1) (Int32.toNatClampNeg (r_2.2.1 + (1 : Int32))) r_2.1)))] := hD
    obtain rfl := Option.some.inj hf
    have hP9 := hP.sub (ws' := [(o5, .inr (5, [.ref o7, .ref a5_1, .int v5_2, .int (r_2.2.1 + (2 : Int32)), .int v5_4, .int v5_5, .int (r_2.2.2), .int v5_7, .int v5_8, .int v5_9])), (a5_1, .inl (cyI, 400, .inl (upd (upd g5_1 (Int32.toNatClampNeg r_2.2.1) r_1.1) (Int32.toNatClampNeg (r_2.2.1 + (1 : Int32))) r_2.1)))]) [0, 1] rfl
    have hD9 := hD.sub (ws' := [(o5, .inr (5, [.ref o7, .ref a5_1, .int v5_2, .int (r_2.2.1 + (2 : Int32)), .int v5_4, .int v5_5, .int (r_2.2.2), .int v5_7, .int v5_8, .int v5_9])), (a5_1, .inl (cyI, 400, .inl (upd (upd g5_1 (Int32.toNatClampNeg r_2.2.1) r_1.1) (Int32.toNatClampNeg (r_2.2.1 + (1 : Int32))) r_2.1)))]) [0, 1] (by decide) rfl
    exact W.vret hx hb hr (fun t ht hW => ⟨⟨(), rfl, trivial, by rw [ht]; exact hP9, va_K.moved hW.alike hK, hD9⟩, hS.F ht⟩) hS.2.2 dX5_exchange_49

def f_X5_replaceAll_L (v5_3 : Int32) (l1 : Int32) (l2 : Int32) (v5_7 : Int32) (z : Nat × Int32 × (Nat → Int32)) : Option (Int32 × (Nat → Int32)) := match z with
  | (q, l3, g5_1) => if q = 0 then if v5_3 ≤ l3 then some (1, g5_1) else if x_gd l3 400 = true then if (g5_1 (Int32.toNatClampNeg l3)) = l1 then if x_gd l3 400 = true then (f_X5_replaceAll_L v5_3 l1 l2 v5_7 (0, l3 + 1, upd g5_1 (Int32.toNatClampNeg l3) l2)) else none else (f_X5_replaceAll_L v5_3 l1 l2 v5_7 (0, l3 + 1, g5_1)) else none else none
partial_fixpoint
def f_X5_replaceAll (v5_3 : Int32) (v5_7 : Int32) (g5_1 : Nat → Int32) (p1 : Int32) (p2 : Int32) : Option (Int32 × (Nat → Int32)) := (f_X5_replaceAll_L v5_3 p1 p2 v5_7 (0, 0, g5_1))
theorem i_X5_replaceAll_X5 : ∀ w ∈ wsX50, w ∈ wsX5_replaceAll := fun _ h => List.mem_cons_of_mem _ (List.mem_append_right _ h)
set_option maxHeartbeats 4000000 in
set_option maxRecDepth 100000 in
theorem c_X5_replaceAll (l : Launch) (dC : Nat → ClassId) (dI : Nat → Nat → Nat) (cyI cyZ cyJ : ClassId) (sz : Nat) (o5 : Nat) (o7 : Nat) (a5_1 : Nat) (v5_2 : Int32) (v5_3 : Int32) (v5_4 : Int32) (v5_5 : Int32) (v5_6 : Int32) (v5_7 : Int32) (v5_8 : Int32) (v5_9 : Int32) (g5_1 : Nat → Int32) (p1 : Int32) (p2 : Int32) (R : Int32 × (Nat → Int32)) (hf : f_X5_replaceAll v5_3 v5_7 g5_1 p1 p2 = some R) : Met l yX5_replaceAll wsX5_replaceAll ({ frames := 0, cells := 0, slots := 0, locals := 0 }) (va_Pc [.ref o5, .int p1, .int p2] (x_PreD (dC, dI) (x_T cyI cyZ cyJ) [(o5, .inr (5, [.ref o7, .ref a5_1, .int v5_2, .int v5_3, .int v5_4, .int v5_5, .int v5_6, .int v5_7, .int v5_8, .int v5_9])), (a5_1, .inl (cyI, 400, .inl g5_1))] sz)) (va_Qv (fun _ : Unit => True) (fun (_ : Unit) (t : State) => va_P (dC, dI) vwCl [(o5, .inr (5, [.ref o7, .ref a5_1, .int v5_2, .int v5_3, .int v5_4, .int v5_5, .int v5_6, .int (R.1), .int v5_8, .int v5_9])), (a5_1, .inl (cyI, 400, .inl R.2))] t.heap ∧ va_K (dC, dI) vwCl (x_T cyI cyZ cyJ) t ∧ va_D (va_A [(o5, .inr (5, [.ref o7, .ref a5_1, .int v5_2, .int v5_3, .int v5_4, .int v5_5, .int v5_6, .int v5_7, .int v5_8, .int v5_9])), (a5_1, .inl (cyI, 400, .inl g5_1))] sz) [(o5, .inr (5, [.ref o7, .ref a5_1, .int v5_2, .int v5_3, .int v5_4, .int v5_5, .int v5_6, .int (R.1), .int v5_8, .int v5_9])), (a5_1, .inl (cyI, 400, .inl R.2))]) (va_A [(o5, .inr (5, [.ref o7, .ref a5_1, .int v5_2, .int v5_3, .int v5_4, .int v5_5, .int v5_6, .int v5_7, .int v5_8, .int v5_9])), (a5_1, .inl (cyI, 400, .inl g5_1))] sz)) 0 0 (va_A [(o5, .inr (5, [.ref o7, .ref a5_1, .int v5_2, .int v5_3, .int v5_4, .int v5_5, .int v5_6, .int v5_7, .int v5_8, .int v5_9])), (a5_1, .inl (cyI, 400, .inl g5_1))] sz) := by
  refine Met.ofW (cc := cX5_replaceAll) (maxL := 4) (ret := none) (by decide) rfl ?_
  intro p e s m args below meth c s₁ B hml hv
  obtain ⟨rfl, ⟨hsz, hP, hK, hN⟩, hD0⟩ := hv
  have hx := B.exec
  have hb := B.bytes
  have hr := B.returns
  have hts := atoms_spec (ws := wsX5_replaceAll) B.pre
  have hown : s.vm.findClass RX5 = some m.cls := findClass_of_methodNamed B.named
  have k_1 := hts (.fieldLink RX5 32 "FlowJudge$Places" "top" "I") (by decide +kernel)
  have k_2 := hts (.fieldLink RX5 80 "FlowJudge$Places" "moved" "Z") (by decide +kernel)
  have k_3 := hts (.fieldLink RX5 9 "FlowJudge$Places" "cells" "[I") (by decide +kernel)
  subst hsz
  have hD := hD0.self (sz := s.heap.size)
  generalize hAe : va_A [(o5, .inr (5, [.ref o7, .ref a5_1, .int v5_2, .int v5_3, .int v5_4, .int v5_5, .int v5_6, .int v5_7, .int v5_8, .int v5_9])), (a5_1, .inl (cyI, 400, .inl g5_1))] s.heap.size = A at hD ⊢
  have hA : ∀ q : Nat, s.heap.size ≤ q → A q := fun q h => by rw [← hAe]; exact Or.inr h
  have hP : va_P (dC, dI) vwCl [(o5, .inr (5, [.ref o7, .ref a5_1, .int v5_2, .int v5_3, .int v5_4, .int v5_5, .int v5_6, .int v5_7, .int v5_8, .int v5_9])), (a5_1, .inl (cyI, 400, .inl g5_1))] s.heap := hP
  have hl := lv_entry ([.ref o5, .int p1, .int p2]) (n := 4) (Nat.le_of_ble_eq_true rfl)
  rw [lg_entry_eq]
  generalize (lg_sl ([.ref o5, .int p1, .int p2]) ++ List.replicate (4 - (lg_sl ([.ref o5, .int p1, .int p2])).length) Slot.unset).toArray = ls at hl ⊢
  have hl : lv_has ls 4 [(0, .ref o5), (1, .int p1), (2, .int p2)] := hl
  obtain ⟨H, hH⟩ : ∃ z, z = s.heap := ⟨_, rfl⟩
  refine x_here hH ?_
  have hP : va_P (dC, dI) vwCl [(o5, .inr (5, [.ref o7, .ref a5_1, .int v5_2, .int v5_3, .int v5_4, .int v5_5, .int v5_6, .int v5_7, .int v5_8, .int v5_9])), (a5_1, .inl (cyI, 400, .inl g5_1))] H := by rw [hH]; exact hP
  have hS : va_S A s.heap H [] := by rw [hH]; exact va_S.rf
  clear hH
  obtain ⟨locs, hlo⟩ : ∃ z : List Loc, z = [] := ⟨_, rfl⟩
  refine x_herl hlo ?_
  have hS : va_S A s.heap H locs := by rw [hlo]; exact hS
  clear hlo
  unfold f_X5_replaceAll at hf
  refine x_wn (fun WW hWW => ?_)
  have J := fun (l1 : Int32) (l2 : Int32) (v5_7 : Int32) => f_X5_replaceAll_L.partial_correctness v5_3 l1 l2 v5_7 (fun (z : Nat × Int32 × (Nat → Int32)) (r : Int32 × (Nat → Int32)) => r = R → ∀ (q : Nat) (l3 : Int32) (g5_1 : Nat → Int32), z = (q, l3, g5_1) → ((q = 0 → ∀ (H : Heap) (locs : List Loc) (ls : Array Slot), va_P (dC, dI) vwCl [(o5, .inr (5, [.ref o7, .ref a5_1, .int v5_2, .int v5_3, .int v5_4, .int v5_5, .int v5_6, .int v5_7, .int v5_8, .int v5_9])), (a5_1, .inl (cyI, 400, .inl g5_1))] H → va_D A [(o5, .inr (5, [.ref o7, .ref a5_1, .int v5_2, .int v5_3, .int v5_4, .int v5_5, .int v5_6, .int v5_7, .int v5_8, .int v5_9])), (a5_1, .inl (cyI, 400, .inl g5_1))] → va_S A s.heap H locs → lv_has ls 4 [(0, .ref o5), (1, .int l1), (2, .int l2), (3, .int l3)] → WW H locs 0 0 (F0 m 2 ls [])))) (by
    intro F ih z r hf hr q l3 g5_1 hz
    subst hz
    obtain rfl := hr
    · intro hq H locs ls hP hD hS hl
      subst hq
      refine (hWW _ _ _ _ _).mp ?_
      replace hf := x_ip rfl hf
      refine lv_iload_n hx hb dX5_replaceAll_2 rfl (lv_at hl 3 rfl) ?_
      refine lv_aload_n hx hb dX5_replaceAll_3 rfl (lv_at hl 0 rfl) ?_
      refine va_get (D := (dC, dI)) (ci := 5) (v := .int v5_3) (C := RX5) (T := TX5) (N := 10) hx hb hts i_X5_replaceAll_X5 hown hK hP 0 rfl rfl 3 (by decide) k_1 (fun _ h9 => h9) rfl dX5_replaceAll_4 ?_
      refine lv_icmp_ge (tgt := 33) hx hb dX5_replaceAll_7 (by decide) (fun c_1 => ?_) (fun c_1 => ?_)
      · replace hf := x_ip c_1 hf
        refine lv_aload_n hx hb dX5_replaceAll_33 rfl (lv_at hl 0 rfl) ?_
        refine lv_iconst (v := 1) hx hb dX5_replaceAll_34 (by decide) ?_
        refine va_put (D := (dC, dI)) (ci := 5) (v := .int 1) (ty := .boolean) (C := RX5) (T := TX5) (N := 10) hx hb hts i_X5_replaceAll_X5 tyX5 tyX5_ok nmX5 hown hK hP hD hS 0 rfl rfl 7 (by decide) k_2 (fun _ h9 => h9) rfl (by decide +kernel) rfl rfl (Nat.le_of_ble_eq_true rfl) dX5_replaceAll_35 (fun H locs hP hD hS => ?_)
        have hP : va_P (dC, dI) vwCl [(o5, .inr (5, [.ref o7, .ref a5_1, .int v5_2, .int v5_3, .int v5_4, .int v5_5, .int v5_6, .int 1, .int v5_8, .int v5_9])), (a5_1, .inl (cyI, 400, .inl g5_1))] H := hP
        have hD : va_D A [(o5, .inr (5, [.ref o7, .ref a5_1, .int v5_2, .int v5_3, .int v5_4, .int v5_5, .int v5_6, .int 1, .int v5_8, .int v5_9])), (a5_1, .inl (cyI, 400, .inl g5_1))] := hD
        obtain rfl := Option.some.inj hf
        have hP9 := hP.sub (ws' := [(o5, .inr (5, [.ref o7, .ref a5_1, .int v5_2, .int v5_3, .int v5_4, .int v5_5, .int v5_6, .int 1, .int v5_8, .int v5_9])), (a5_1, .inl (cyI, 400, .inl g5_1))]) [0, 1] rfl
        have hD9 := hD.sub (ws' := [(o5, .inr (5, [.ref o7, .ref a5_1, .int v5_2, .int v5_3, .int v5_4, .int v5_5, .int v5_6, .int 1, .int v5_8, .int v5_9])), (a5_1, .inl (cyI, 400, .inl g5_1))]) [0, 1] (by decide) rfl
        exact W.vret hx hb hr (fun t ht hW => ⟨⟨(), rfl, trivial, by rw [ht]; exact hP9, va_K.moved hW.alike hK, hD9⟩, hS.F ht⟩) hS.2.2 dX5_replaceAll_38
      · replace hf := x_in c_1 hf
        refine lv_aload_n hx hb dX5_replaceAll_10 rfl (lv_at hl 0 rfl) ?_
        refine va_get (D := (dC, dI)) (ci := 5) (v := .ref a5_1) (C := RX5) (T := TX5) (N := 10) hx hb hts i_X5_replaceAll_X5 hown hK hP 0 rfl rfl 1 (by decide) k_3 (fun _ h9 => h9) rfl dX5_replaceAll_11 ?_
        refine lv_iload_n hx hb dX5_replaceAll_14 rfl (lv_at hl 3 rfl) ?_
        obtain ⟨g_2, hf⟩ := x_gu hf
        refine va_iald hx hb hK hP 1 0 rfl rfl (x_gdin g_2) dX5_replaceAll_15 ?_
        refine lv_iload_n hx hb dX5_replaceAll_16 rfl (lv_at hl 1 rfl) ?_
        refine lv_icmp_ne (tgt := 27) hx hb dX5_replaceAll_17 (by decide) (fun c_3 => ?_) (fun c_3 => ?_)
        · replace hf := x_in c_3 hf
          refine lv_iinc (v := (l3 + 1)) (lv' := [(3, .int (l3 + 1)), (0, .ref o5), (1, .int l1), (2, .int l2)]) hx hb dX5_replaceAll_27 hl (k := 3) rfl rfl (by decide) rfl (fun ls hl => ?_)
          refine lv_goto (tgt := 2) hx hb dX5_replaceAll_30 (by decide) ?_
          exact (hWW _ _ _ _ _).mpr ((ih (0, l3 + 1, g5_1) _ hf rfl _ _ _ rfl) rfl H locs ls hP hD hS (lv_sub hl [1, 2, 3, 0] rfl))
        · replace hf := x_ip c_3 hf
          refine lv_aload_n hx hb dX5_replaceAll_20 rfl (lv_at hl 0 rfl) ?_
          refine va_get (D := (dC, dI)) (ci := 5) (v := .ref a5_1) (C := RX5) (T := TX5) (N := 10) hx hb hts i_X5_replaceAll_X5 hown hK hP 0 rfl rfl 1 (by decide) k_3 (fun _ h9 => h9) rfl dX5_replaceAll_21 ?_
          refine lv_iload_n hx hb dX5_replaceAll_24 rfl (lv_at hl 3 rfl) ?_
          refine lv_iload_n hx hb dX5_replaceAll_25 rfl (lv_at hl 2 rfl) ?_
          obtain ⟨g_4, hf⟩ := x_gu hf
          refine va_iast hx hb hK hP hD hS 1 0 rfl rfl (x_gdin g_4) dX5_replaceAll_26 (fun H locs hP hD hS => ?_)
          have hP : va_P (dC, dI) vwCl [(o5, .inr (5, [.ref o7, .ref a5_1, .int v5_2, .int v5_3, .int v5_4, .int v5_5, .int v5_6, .int v5_7, .int v5_8, .int v5_9])), (a5_1, .inl (cyI, 400, .inl (upd g5_1 (Int32.toNatClampNeg l3) l2)))] H := hP
          have hD : va_D A [(o5, .inr (5, [.ref o7, .ref a5_1, .int v5_2, .int v5_3, .int v5_4, .int v5_5, .int v5_6, .int v5_7, .int v5_8, .int v5_9])), (a5_1, .inl (cyI, 400, .inl (upd g5_1 (Int32.toNatClampNeg l3) l2)))] := hD
          refine lv_iinc (v := (l3 + 1)) (lv' := [(3, .int (l3 + 1)), (0, .ref o5), (1, .int l1), (2, .int l2)]) hx hb dX5_replaceAll_27 hl (k := 3) rfl rfl (by decide) rfl (fun ls hl => ?_)
          refine lv_goto (tgt := 2) hx hb dX5_replaceAll_30 (by decide) ?_
          exact (hWW _ _ _ _ _).mpr ((ih (0, l3 + 1, upd g5_1 (Int32.toNatClampNeg l3) l2) _ hf rfl _ _ _ rfl) rfl H locs ls hP hD hS (lv_sub hl [1, 2, 3, 0] rfl)))
  refine lv_iconst (v := 0) hx hb dX5_replaceAll_0 (by decide) ?_
  refine lv_istore_n (lv' := [(3, .int 0), (0, .ref o5), (1, .int p1), (2, .int p2)]) hx hb dX5_replaceAll_1 rfl hl (by decide) rfl (fun ls hl => ?_)
  exact (hWW _ _ _ _ _).mpr ((J p1 p2 v5_7 (0, 0, g5_1) _ hf rfl _ _ _ rfl) rfl H locs ls hP hD hS (lv_sub hl [1, 2, 3, 0] rfl))

def f_X5_forget_L (v5_2 : Int32) (v5_3 : Int32) (l1 : Int32) (z : Nat × Int32 × Int32 × Int32 × (Nat → Int32)) : Option (Int32 × Int32 × (Nat → Int32)) := match z with
  | (q, l2, v5_6, v5_7, g5_1) => if q = 0 then if v5_3 ≤ l2 then some (v5_6, v5_7, g5_1) else if x_gd l2 400 = true then if (g5_1 (Int32.toNatClampNeg l2)) = l1 then if x_gd l2 400 = true then if v5_6 = (0 : Int32) then if l2 < v5_2 then (f_X5_forget_L v5_2 v5_3 l1 (0, l2 + 1, 0, 1, upd g5_1 (Int32.toNatClampNeg l2) 0)) else (f_X5_forget_L v5_2 v5_3 l1 (0, l2 + 1, 1, 1, upd g5_1 (Int32.toNatClampNeg l2) 0)) else (f_X5_forget_L v5_2 v5_3 l1 (0, l2 + 1, 1, 1, upd g5_1 (Int32.toNatClampNeg l2) 0)) else none else (f_X5_forget_L v5_2 v5_3 l1 (0, l2 + 1, v5_6, v5_7, g5_1)) else none else none
partial_fixpoint
def f_X5_forget (v5_2 : Int32) (v5_3 : Int32) (v5_6 : Int32) (v5_7 : Int32) (g5_1 : Nat → Int32) (p1 : Int32) : Option (Int32 × Int32 × (Nat → Int32)) := (f_X5_forget_L v5_2 v5_3 p1 (0, 0, v5_6, v5_7, g5_1))
theorem i_X5_forget_X5 : ∀ w ∈ wsX50, w ∈ wsX5_forget := fun _ h => List.mem_cons_of_mem _ (List.mem_append_right _ h)
set_option maxHeartbeats 4000000 in
set_option maxRecDepth 100000 in
theorem c_X5_forget (l : Launch) (dC : Nat → ClassId) (dI : Nat → Nat → Nat) (cyI cyZ cyJ : ClassId) (sz : Nat) (o5 : Nat) (o7 : Nat) (a5_1 : Nat) (v5_2 : Int32) (v5_3 : Int32) (v5_4 : Int32) (v5_5 : Int32) (v5_6 : Int32) (v5_7 : Int32) (v5_8 : Int32) (v5_9 : Int32) (g5_1 : Nat → Int32) (p1 : Int32) (R : Int32 × Int32 × (Nat → Int32)) (hf : f_X5_forget v5_2 v5_3 v5_6 v5_7 g5_1 p1 = some R) : Met l yX5_forget wsX5_forget ({ frames := 0, cells := 0, slots := 0, locals := 0 }) (va_Pc [.ref o5, .int p1] (x_PreD (dC, dI) (x_T cyI cyZ cyJ) [(o5, .inr (5, [.ref o7, .ref a5_1, .int v5_2, .int v5_3, .int v5_4, .int v5_5, .int v5_6, .int v5_7, .int v5_8, .int v5_9])), (a5_1, .inl (cyI, 400, .inl g5_1))] sz)) (va_Qv (fun _ : Unit => True) (fun (_ : Unit) (t : State) => va_P (dC, dI) vwCl [(o5, .inr (5, [.ref o7, .ref a5_1, .int v5_2, .int v5_3, .int v5_4, .int v5_5, .int (R.1), .int (R.2.1), .int v5_8, .int v5_9])), (a5_1, .inl (cyI, 400, .inl R.2.2))] t.heap ∧ va_K (dC, dI) vwCl (x_T cyI cyZ cyJ) t ∧ va_D (va_A [(o5, .inr (5, [.ref o7, .ref a5_1, .int v5_2, .int v5_3, .int v5_4, .int v5_5, .int v5_6, .int v5_7, .int v5_8, .int v5_9])), (a5_1, .inl (cyI, 400, .inl g5_1))] sz) [(o5, .inr (5, [.ref o7, .ref a5_1, .int v5_2, .int v5_3, .int v5_4, .int v5_5, .int (R.1), .int (R.2.1), .int v5_8, .int v5_9])), (a5_1, .inl (cyI, 400, .inl R.2.2))]) (va_A [(o5, .inr (5, [.ref o7, .ref a5_1, .int v5_2, .int v5_3, .int v5_4, .int v5_5, .int v5_6, .int v5_7, .int v5_8, .int v5_9])), (a5_1, .inl (cyI, 400, .inl g5_1))] sz)) 0 0 (va_A [(o5, .inr (5, [.ref o7, .ref a5_1, .int v5_2, .int v5_3, .int v5_4, .int v5_5, .int v5_6, .int v5_7, .int v5_8, .int v5_9])), (a5_1, .inl (cyI, 400, .inl g5_1))] sz) := by
  refine Met.ofW (cc := cX5_forget) (maxL := 3) (ret := none) (by decide) rfl ?_
  intro p e s m args below meth c s₁ B hml hv
  obtain ⟨rfl, ⟨hsz, hP, hK, hN⟩, hD0⟩ := hv
  have hx := B.exec
  have hb := B.bytes
  have hr := B.returns
  have hts := atoms_spec (ws := wsX5_forget) B.pre
  have hown : s.vm.findClass RX5 = some m.cls := findClass_of_methodNamed B.named
  have k_1 := hts (.fieldLink RX5 32 "FlowJudge$Places" "top" "I") (by decide +kernel)
  have k_2 := hts (.fieldLink RX5 9 "FlowJudge$Places" "cells" "[I") (by decide +kernel)
  have k_3 := hts (.fieldLink RX5 80 "FlowJudge$Places" "moved" "Z") (by decide +kernel)
  have k_4 := hts (.fieldLink RX5 38 "FlowJudge$Places" "refused" "Z") (by decide +kernel)
  have k_5 := hts (.fieldLink RX5 25 "FlowJudge$Places" "locals" "I") (by decide +kernel)
  subst hsz
  have hD := hD0.self (sz := s.heap.size)
  generalize hAe : va_A [(o5, .inr (5, [.ref o7, .ref a5_1, .int v5_2, .int v5_3, .int v5_4, .int v5_5, .int v5_6, .int v5_7, .int v5_8, .int v5_9])), (a5_1, .inl (cyI, 400, .inl g5_1))] s.heap.size = A at hD ⊢
  have hA : ∀ q : Nat, s.heap.size ≤ q → A q := fun q h => by rw [← hAe]; exact Or.inr h
  have hP : va_P (dC, dI) vwCl [(o5, .inr (5, [.ref o7, .ref a5_1, .int v5_2, .int v5_3, .int v5_4, .int v5_5, .int v5_6, .int v5_7, .int v5_8, .int v5_9])), (a5_1, .inl (cyI, 400, .inl g5_1))] s.heap := hP
  have hl := lv_entry ([.ref o5, .int p1]) (n := 3) (Nat.le_of_ble_eq_true rfl)
  rw [lg_entry_eq]
  generalize (lg_sl ([.ref o5, .int p1]) ++ List.replicate (3 - (lg_sl ([.ref o5, .int p1])).length) Slot.unset).toArray = ls at hl ⊢
  have hl : lv_has ls 3 [(0, .ref o5), (1, .int p1)] := hl
  obtain ⟨H, hH⟩ : ∃ z, z = s.heap := ⟨_, rfl⟩
  refine x_here hH ?_
  have hP : va_P (dC, dI) vwCl [(o5, .inr (5, [.ref o7, .ref a5_1, .int v5_2, .int v5_3, .int v5_4, .int v5_5, .int v5_6, .int v5_7, .int v5_8, .int v5_9])), (a5_1, .inl (cyI, 400, .inl g5_1))] H := by rw [hH]; exact hP
  have hS : va_S A s.heap H [] := by rw [hH]; exact va_S.rf
  clear hH
  obtain ⟨locs, hlo⟩ : ∃ z : List Loc, z = [] := ⟨_, rfl⟩
  refine x_herl hlo ?_
  have hS : va_S A s.heap H locs := by rw [hlo]; exact hS
  clear hlo
  unfold f_X5_forget at hf
  refine x_wn (fun WW hWW => ?_)
  have J := fun (l1 : Int32) => f_X5_forget_L.partial_correctness v5_2 v5_3 l1 (fun (z : Nat × Int32 × Int32 × Int32 × (Nat → Int32)) (r : Int32 × Int32 × (Nat → Int32)) => r = R → ∀ (q : Nat) (l2 : Int32) (v5_6 : Int32) (v5_7 : Int32) (g5_1 : Nat → Int32), z = (q, l2, v5_6, v5_7, g5_1) → ((q = 0 → ∀ (H : Heap) (locs : List Loc) (ls : Array Slot), va_P (dC, dI) vwCl [(o5, .inr (5, [.ref o7, .ref a5_1, .int v5_2, .int v5_3, .int v5_4, .int v5_5, .int v5_6, .int v5_7, .int v5_8, .int v5_9])), (a5_1, .inl (cyI, 400, .inl g5_1))] H → va_D A [(o5, .inr (5, [.ref o7, .ref a5_1, .int v5_2, .int v5_3, .int v5_4, .int v5_5, .int v5_6, .int v5_7, .int v5_8, .int v5_9])), (a5_1, .inl (cyI, 400, .inl g5_1))] → va_S A s.heap H locs → lv_has ls 3 [(0, .ref o5), (1, .int l1), (2, .int l2)] → WW H locs 0 0 (F0 m 2 ls [])))) (by
    intro F ih z r hf hr q l2 v5_6 v5_7 g5_1 hz
    subst hz
    obtain rfl := hr
    · intro hq H locs ls hP hD hS hl
      subst hq
      refine (hWW _ _ _ _ _).mp ?_
      replace hf := x_ip rfl hf
      refine lv_iload_n hx hb dX5_forget_2 rfl (lv_at hl 2 rfl) ?_
      refine lv_aload_n hx hb dX5_forget_3 rfl (lv_at hl 0 rfl) ?_
      refine va_get (D := (dC, dI)) (ci := 5) (v := .int v5_3) (C := RX5) (T := TX5) (N := 10) hx hb hts i_X5_forget_X5 hown hK hP 0 rfl rfl 3 (by decide) k_1 (fun _ h9 => h9) rfl dX5_forget_4 ?_
      refine lv_icmp_ge (tgt := 62) hx hb dX5_forget_7 (by decide) (fun c_1 => ?_) (fun c_1 => ?_)
      · replace hf := x_ip c_1 hf
        obtain rfl := Option.some.inj hf
        have hP9 := hP.sub (ws' := [(o5, .inr (5, [.ref o7, .ref a5_1, .int v5_2, .int v5_3, .int v5_4, .int v5_5, .int v5_6, .int v5_7, .int v5_8, .int v5_9])), (a5_1, .inl (cyI, 400, .inl g5_1))]) [0, 1] rfl
        have hD9 := hD.sub (ws' := [(o5, .inr (5, [.ref o7, .ref a5_1, .int v5_2, .int v5_3, .int v5_4, .int v5_5, .int v5_6, .int v5_7, .int v5_8, .int v5_9])), (a5_1, .inl (cyI, 400, .inl g5_1))]) [0, 1] (by decide) rfl
        exact W.vret hx hb hr (fun t ht hW => ⟨⟨(), rfl, trivial, by rw [ht]; exact hP9, va_K.moved hW.alike hK, hD9⟩, hS.F ht⟩) hS.2.2 dX5_forget_62
      · replace hf := x_in c_1 hf
        refine lv_aload_n hx hb dX5_forget_10 rfl (lv_at hl 0 rfl) ?_
        refine va_get (D := (dC, dI)) (ci := 5) (v := .ref a5_1) (C := RX5) (T := TX5) (N := 10) hx hb hts i_X5_forget_X5 hown hK hP 0 rfl rfl 1 (by decide) k_2 (fun _ h9 => h9) rfl dX5_forget_11 ?_
        refine lv_iload_n hx hb dX5_forget_14 rfl (lv_at hl 2 rfl) ?_
        obtain ⟨g_2, hf⟩ := x_gu hf
        refine va_iald hx hb hK hP 1 0 rfl rfl (x_gdin g_2) dX5_forget_15 ?_
        refine lv_iload_n hx hb dX5_forget_16 rfl (lv_at hl 1 rfl) ?_
        refine lv_icmp_ne (tgt := 56) hx hb dX5_forget_17 (by decide) (fun c_3 => ?_) (fun c_3 => ?_)
        · replace hf := x_in c_3 hf
          refine lv_iinc (v := (l2 + 1)) (lv' := [(2, .int (l2 + 1)), (0, .ref o5), (1, .int l1)]) hx hb dX5_forget_56 hl (k := 2) rfl rfl (by decide) rfl (fun ls hl => ?_)
          refine lv_goto (tgt := 2) hx hb dX5_forget_59 (by decide) ?_
          exact (hWW _ _ _ _ _).mpr ((ih (0, l2 + 1, v5_6, v5_7, g5_1) _ hf rfl _ _ _ _ _ rfl) rfl H locs ls hP hD hS (lv_sub hl [1, 2, 0] rfl))
        · replace hf := x_ip c_3 hf
          refine lv_aload_n hx hb dX5_forget_20 rfl (lv_at hl 0 rfl) ?_
          refine va_get (D := (dC, dI)) (ci := 5) (v := .ref a5_1) (C := RX5) (T := TX5) (N := 10) hx hb hts i_X5_forget_X5 hown hK hP 0 rfl rfl 1 (by decide) k_2 (fun _ h9 => h9) rfl dX5_forget_21 ?_
          refine lv_iload_n hx hb dX5_forget_24 rfl (lv_at hl 2 rfl) ?_
          refine lv_iconst (v := 0) hx hb dX5_forget_25 (by decide) ?_
          obtain ⟨g_4, hf⟩ := x_gu hf
          refine va_iast hx hb hK hP hD hS 1 0 rfl rfl (x_gdin g_4) dX5_forget_26 (fun H locs hP hD hS => ?_)
          have hP : va_P (dC, dI) vwCl [(o5, .inr (5, [.ref o7, .ref a5_1, .int v5_2, .int v5_3, .int v5_4, .int v5_5, .int v5_6, .int v5_7, .int v5_8, .int v5_9])), (a5_1, .inl (cyI, 400, .inl (upd g5_1 (Int32.toNatClampNeg l2) 0)))] H := hP
          have hD : va_D A [(o5, .inr (5, [.ref o7, .ref a5_1, .int v5_2, .int v5_3, .int v5_4, .int v5_5, .int v5_6, .int v5_7, .int v5_8, .int v5_9])), (a5_1, .inl (cyI, 400, .inl (upd g5_1 (Int32.toNatClampNeg l2) 0)))] := hD
          refine lv_aload_n hx hb dX5_forget_27 rfl (lv_at hl 0 rfl) ?_
          refine lv_iconst (v := 1) hx hb dX5_forget_28 (by decide) ?_
          refine va_put (D := (dC, dI)) (ci := 5) (v := .int 1) (ty := .boolean) (C := RX5) (T := TX5) (N := 10) hx hb hts i_X5_forget_X5 tyX5 tyX5_ok nmX5 hown hK hP hD hS 0 rfl rfl 7 (by decide) k_3 (fun _ h9 => h9) rfl (by decide +kernel) rfl rfl (Nat.le_of_ble_eq_true rfl) dX5_forget_29 (fun H locs hP hD hS => ?_)
          have hP : va_P (dC, dI) vwCl [(o5, .inr (5, [.ref o7, .ref a5_1, .int v5_2, .int v5_3, .int v5_4, .int v5_5, .int v5_6, .int 1, .int v5_8, .int v5_9])), (a5_1, .inl (cyI, 400, .inl (upd g5_1 (Int32.toNatClampNeg l2) 0)))] H := hP
          have hD : va_D A [(o5, .inr (5, [.ref o7, .ref a5_1, .int v5_2, .int v5_3, .int v5_4, .int v5_5, .int v5_6, .int 1, .int v5_8, .int v5_9])), (a5_1, .inl (cyI, 400, .inl (upd g5_1 (Int32.toNatClampNeg l2) 0)))] := hD
          refine lv_aload_n hx hb dX5_forget_32 rfl (lv_at hl 0 rfl) ?_
          refine lv_aload_n hx hb dX5_forget_33 rfl (lv_at hl 0 rfl) ?_
          refine va_get (D := (dC, dI)) (ci := 5) (v := .int v5_6) (C := RX5) (T := TX5) (N := 10) hx hb hts i_X5_forget_X5 hown hK hP 0 rfl rfl 6 (by decide) k_4 (fun _ h9 => h9) rfl dX5_forget_34 ?_
          refine lv_if_ne (tgt := 48) hx hb dX5_forget_37 (by decide) (fun c_5 => ?_) (fun c_5 => ?_)
          · replace hf := x_in c_5 hf
            refine lv_iconst (v := 1) hx hb dX5_forget_48 (by decide) ?_
            refine lv_goto (tgt := 53) hx hb dX5_forget_49 (by decide) ?_
            refine va_put (D := (dC, dI)) (ci := 5) (v := .int 1) (ty := .boolean) (C := RX5) (T := TX5) (N := 10) hx hb hts i_X5_forget_X5 tyX5 tyX5_ok nmX5 hown hK hP hD hS 0 rfl rfl 6 (by decide) k_4 (fun _ h9 => h9) rfl (by decide +kernel) rfl rfl (Nat.le_of_ble_eq_true rfl) dX5_forget_53 (fun H locs hP hD hS => ?_)
            have hP : va_P (dC, dI) vwCl [(o5, .inr (5, [.ref o7, .ref a5_1, .int v5_2, .int v5_3, .int v5_4, .int v5_5, .int 1, .int 1, .int v5_8, .int v5_9])), (a5_1, .inl (cyI, 400, .inl (upd g5_1 (Int32.toNatClampNeg l2) 0)))] H := hP
            have hD : va_D A [(o5, .inr (5, [.ref o7, .ref a5_1, .int v5_2, .int v5_3, .int v5_4, .int v5_5, .int 1, .int 1, .int v5_8, .int v5_9])), (a5_1, .inl (cyI, 400, .inl (upd g5_1 (Int32.toNatClampNeg l2) 0)))] := hD
            refine lv_iinc (v := (l2 + 1)) (lv' := [(2, .int (l2 + 1)), (0, .ref o5), (1, .int l1)]) hx hb dX5_forget_56 hl (k := 2) rfl rfl (by decide) rfl (fun ls hl => ?_)
            refine lv_goto (tgt := 2) hx hb dX5_forget_59 (by decide) ?_
            exact (hWW _ _ _ _ _).mpr ((ih (0, l2 + 1, 1, 1, upd g5_1 (Int32.toNatClampNeg l2) 0) _ hf rfl _ _ _ _ _ rfl) rfl H locs ls hP hD hS (lv_sub hl [1, 2, 0] rfl))
          · replace hf := x_ip c_5 hf
            refine lv_iload_n hx hb dX5_forget_40 rfl (lv_at hl 2 rfl) ?_
            refine lv_aload_n hx hb dX5_forget_41 rfl (lv_at hl 0 rfl) ?_
            refine va_get (D := (dC, dI)) (ci := 5) (v := .int v5_2) (C := RX5) (T := TX5) (N := 10) hx hb hts i_X5_forget_X5 hown hK hP 0 rfl rfl 2 (by decide) k_5 (fun _ h9 => h9) rfl dX5_forget_42 ?_
            refine lv_icmp_lt (tgt := 52) hx hb dX5_forget_45 (by decide) (fun c_6 => ?_) (fun c_6 => ?_)
            · replace hf := x_ip c_6 hf
              refine lv_iconst (v := 0) hx hb dX5_forget_52 (by decide) ?_
              refine va_put (D := (dC, dI)) (ci := 5) (v := .int 0) (ty := .boolean) (C := RX5) (T := TX5) (N := 10) hx hb hts i_X5_forget_X5 tyX5 tyX5_ok nmX5 hown hK hP hD hS 0 rfl rfl 6 (by decide) k_4 (fun _ h9 => h9) rfl (by decide +kernel) rfl rfl (Nat.le_of_ble_eq_true rfl) dX5_forget_53 (fun H locs hP hD hS => ?_)
              have hP : va_P (dC, dI) vwCl [(o5, .inr (5, [.ref o7, .ref a5_1, .int v5_2, .int v5_3, .int v5_4, .int v5_5, .int 0, .int 1, .int v5_8, .int v5_9])), (a5_1, .inl (cyI, 400, .inl (upd g5_1 (Int32.toNatClampNeg l2) 0)))] H := hP
              have hD : va_D A [(o5, .inr (5, [.ref o7, .ref a5_1, .int v5_2, .int v5_3, .int v5_4, .int v5_5, .int 0, .int 1, .int v5_8, .int v5_9])), (a5_1, .inl (cyI, 400, .inl (upd g5_1 (Int32.toNatClampNeg l2) 0)))] := hD
              refine lv_iinc (v := (l2 + 1)) (lv' := [(2, .int (l2 + 1)), (0, .ref o5), (1, .int l1)]) hx hb dX5_forget_56 hl (k := 2) rfl rfl (by decide) rfl (fun ls hl => ?_)
              refine lv_goto (tgt := 2) hx hb dX5_forget_59 (by decide) ?_
              exact (hWW _ _ _ _ _).mpr ((ih (0, l2 + 1, 0, 1, upd g5_1 (Int32.toNatClampNeg l2) 0) _ hf rfl _ _ _ _ _ rfl) rfl H locs ls hP hD hS (lv_sub hl [1, 2, 0] rfl))
            · replace hf := x_in c_6 hf
              refine lv_iconst (v := 1) hx hb dX5_forget_48 (by decide) ?_
              refine lv_goto (tgt := 53) hx hb dX5_forget_49 (by decide) ?_
              refine va_put (D := (dC, dI)) (ci := 5) (v := .int 1) (ty := .boolean) (C := RX5) (T := TX5) (N := 10) hx hb hts i_X5_forget_X5 tyX5 tyX5_ok nmX5 hown hK hP hD hS 0 rfl rfl 6 (by decide) k_4 (fun _ h9 => h9) rfl (by decide +kernel) rfl rfl (Nat.le_of_ble_eq_true rfl) dX5_forget_53 (fun H locs hP hD hS => ?_)
              have hP : va_P (dC, dI) vwCl [(o5, .inr (5, [.ref o7, .ref a5_1, .int v5_2, .int v5_3, .int v5_4, .int v5_5, .int 1, .int 1, .int v5_8, .int v5_9])), (a5_1, .inl (cyI, 400, .inl (upd g5_1 (Int32.toNatClampNeg l2) 0)))] H := hP
              have hD : va_D A [(o5, .inr (5, [.ref o7, .ref a5_1, .int v5_2, .int v5_3, .int v5_4, .int v5_5, .int 1, .int 1, .int v5_8, .int v5_9])), (a5_1, .inl (cyI, 400, .inl (upd g5_1 (Int32.toNatClampNeg l2) 0)))] := hD
              refine lv_iinc (v := (l2 + 1)) (lv' := [(2, .int (l2 + 1)), (0, .ref o5), (1, .int l1)]) hx hb dX5_forget_56 hl (k := 2) rfl rfl (by decide) rfl (fun ls hl => ?_)
              refine lv_goto (tgt := 2) hx hb dX5_forget_59 (by decide) ?_
              exact (hWW _ _ _ _ _).mpr ((ih (0, l2 + 1, 1, 1, upd g5_1 (Int32.toNatClampNeg l2) 0) _ hf rfl _ _ _ _ _ rfl) rfl H locs ls hP hD hS (lv_sub hl [1, 2, 0] rfl)))
  refine lv_iconst (v := 0) hx hb dX5_forget_0 (by decide) ?_
  refine lv_istore_n (lv' := [(2, .int 0), (0, .ref o5), (1, .int p1)]) hx hb dX5_forget_1 rfl hl (by decide) rfl (fun ls hl => ?_)
  exact (hWW _ _ _ _ _).mpr ((J p1 (0, 0, v5_6, v5_7, g5_1) _ hf rfl _ _ _ _ _ rfl) rfl H locs ls hP hD hS (lv_sub hl [1, 2, 0] rfl))

