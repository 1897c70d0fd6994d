def f_X9_argument (v9_0 : Int32) (v9_1 : Int32) (v9_18 : Int32) (g9_19 : Nat → Int32) (p1 : Int32) : Option (Int32 × Int32 × Int32 × (Nat → Int32)) := (f_X9_isType v9_1 p1) >>= (fun r_1 => if r_1 = (0 : Int32) then (f_X9_bad 0) >>= (fun r_6 => some (r_6.1, r_6.2, v9_18, g9_19)) else if v9_18 = (20 : Int32) then (f_X9_full 0) >>= (fun r_5 => some (r_5.1, r_5.2, v9_18, g9_19)) else if x_gd v9_18 20 = true then some (v9_18 + (1 : Int32), 0, v9_18 + (1 : Int32), upd g9_19 (Int32.toNatClampNeg v9_18) p1) else none)
theorem i_X9_argument_X9 : ∀ w ∈ wsX90, w ∈ wsX9_argument := fun _ h => List.mem_cons_of_mem _ (List.mem_append_right _ h)
set_option maxHeartbeats 4000000 in
set_option maxRecDepth 100000 in
theorem c_X9_argument (l : Launch) (dC : Nat → ClassId) (dI : Nat → Nat → Nat) (cyI cyZ cyJ : ClassId) (sz : Nat) (o9 : Nat) (v9_0 : Int32) (v9_1 : Int32) (v9_2 : Int32) (v9_3 : Int32) (a9_4 : Nat) (a9_5 : Nat) (a9_6 : Nat) (a9_7 : Nat) (a9_8 : Nat) (a9_9 : Nat) (a9_10 : Nat) (a9_11 : Nat) (a9_12 : Nat) (v9_13 : Int32) (v9_14 : Int32) (v9_15 : Int32) (v9_16 : Int32) (v9_17 : Int32) (v9_18 : Int32) (a9_19 : Nat) (v9_20 : Int32) (v9_21 : Int32) (v9_22 : Int32) (a9_23 : Nat) (a9_24 : Nat) (a9_25 : Nat) (a9_26 : Nat) (a9_27 : Nat) (a9_28 : Nat) (a9_29 : Nat) (a9_30 : Nat) (a9_31 : Nat) (a9_32 : Nat) (a9_33 : Nat) (a9_34 : Nat) (v9_35 : Int32) (v9_36 : Int32) (a9_37 : Nat) (a9_38 : Nat) (a9_39 : Nat) (a9_40 : Nat) (a9_41 : Nat) (v9_42 : Int32) (a9_43 : Nat) (a9_44 : Nat) (a9_45 : Nat) (a9_46 : Nat) (a9_47 : Nat) (v9_48 : Int32) (v9_49 : Int32) (v9_50 : Int32) (v9_51 : Int32) (a9_52 : Nat) (a9_53 : Nat) (v9_54 : Int32) (v9_55 : Int32) (a9_56 : Nat) (a9_57 : Nat) (v9_58 : Int32) (a9_59 : Nat) (a9_60 : Nat) (a9_61 : Nat) (g9_19 : Nat → Int32) (p1 : Int32) (R : Int32 × Int32 × Int32 × (Nat → Int32)) (hf : f_X9_argument v9_0 v9_1 v9_18 g9_19 p1 = some R) : Met l yX9_argument wsX9_argument ({ frames := 2, cells := 0, slots := 0, locals := 42 }) (va_Pc [.ref o9, .int p1] (x_PreD (dC, dI) (x_T cyI cyZ cyJ) [(o9, .inr (9, x_O9 v9_0 v9_1 v9_2 v9_3 a9_4 a9_5 a9_6 a9_7 a9_8 a9_9 a9_10 a9_11 a9_12 v9_13 v9_14 v9_15 v9_16 v9_17 v9_18 a9_19 v9_20 v9_21 v9_22 a9_23 a9_24 a9_25 a9_26 a9_27 a9_28 a9_29 a9_30 a9_31 a9_32 a9_33 a9_34 v9_35 v9_36 a9_37 a9_38 a9_39 a9_40 a9_41 v9_42 a9_43 a9_44 a9_45 a9_46 a9_47 v9_48 v9_49 v9_50 v9_51 a9_52 a9_53 v9_54 v9_55 a9_56 a9_57 v9_58 a9_59 a9_60 a9_61)), (a9_19, .inl (cyI, 20, .inl g9_19))] sz)) (va_Qi (fun (r : Int32) (_ : Unit) => r = R.1) (fun (_ : Unit) (t : State) => va_P (dC, dI) vwCl [(o9, .inr (9, x_O9 (R.2.1) v9_1 v9_2 v9_3 a9_4 a9_5 a9_6 a9_7 a9_8 a9_9 a9_10 a9_11 a9_12 v9_13 v9_14 v9_15 v9_16 v9_17 (R.2.2.1) a9_19 v9_20 v9_21 v9_22 a9_23 a9_24 a9_25 a9_26 a9_27 a9_28 a9_29 a9_30 a9_31 a9_32 a9_33 a9_34 v9_35 v9_36 a9_37 a9_38 a9_39 a9_40 a9_41 v9_42 a9_43 a9_44 a9_45 a9_46 a9_47 v9_48 v9_49 v9_50 v9_51 a9_52 a9_53 v9_54 v9_55 a9_56 a9_57 v9_58 a9_59 a9_60 a9_61)), (a9_19, .inl (cyI, 20, .inl R.2.2.2))] t.heap ∧ va_K (dC, dI) vwCl (x_T cyI cyZ cyJ) t ∧ va_D (va_A [(o9, .inr (9, x_O9 v9_0 v9_1 v9_2 v9_3 a9_4 a9_5 a9_6 a9_7 a9_8 a9_9 a9_10 a9_11 a9_12 v9_13 v9_14 v9_15 v9_16 v9_17 v9_18 a9_19 v9_20 v9_21 v9_22 a9_23 a9_24 a9_25 a9_26 a9_27 a9_28 a9_29 a9_30 a9_31 a9_32 a9_33 a9_34 v9_35 v9_36 a9_37 a9_38 a9_39 a9_40 a9_41 v9_42 a9_43 a9_44 a9_45 a9_46 a9_47 v9_48 v9_49 v9_50 v9_51 a9_52 a9_53 v9_54 v9_55 a9_56 a9_57 v9_58 a9_59 a9_60 a9_61)), (a9_19, .inl (cyI, 20, .inl g9_19))] sz) [(o9, .inr (9, x_O9 (R.2.1) v9_1 v9_2 v9_3 a9_4 a9_5 a9_6 a9_7 a9_8 a9_9 a9_10 a9_11 a9_12 v9_13 v9_14 v9_15 v9_16 v9_17 (R.2.2.1) a9_19 v9_20 v9_21 v9_22 a9_23 a9_24 a9_25 a9_26 a9_27 a9_28 a9_29 a9_30 a9_31 a9_32 a9_33 a9_34 v9_35 v9_36 a9_37 a9_38 a9_39 a9_40 a9_41 v9_42 a9_43 a9_44 a9_45 a9_46 a9_47 v9_48 v9_49 v9_50 v9_51 a9_52 a9_53 v9_54 v9_55 a9_56 a9_57 v9_58 a9_59 a9_60 a9_61)), (a9_19, .inl (cyI, 20, .inl R.2.2.2))]) (va_A [(o9, .inr (9, x_O9 v9_0 v9_1 v9_2 v9_3 a9_4 a9_5 a9_6 a9_7 a9_8 a9_9 a9_10 a9_11 a9_12 v9_13 v9_14 v9_15 v9_16 v9_17 v9_18 a9_19 v9_20 v9_21 v9_22 a9_23 a9_24 a9_25 a9_26 a9_27 a9_28 a9_29 a9_30 a9_31 a9_32 a9_33 a9_34 v9_35 v9_36 a9_37 a9_38 a9_39 a9_40 a9_41 v9_42 a9_43 a9_44 a9_45 a9_46 a9_47 v9_48 v9_49 v9_50 v9_51 a9_52 a9_53 v9_54 v9_55 a9_56 a9_57 v9_58 a9_59 a9_60 a9_61)), (a9_19, .inl (cyI, 20, .inl g9_19))] sz)) 0 0 (va_A [(o9, .inr (9, x_O9 v9_0 v9_1 v9_2 v9_3 a9_4 a9_5 a9_6 a9_7 a9_8 a9_9 a9_10 a9_11 a9_12 v9_13 v9_14 v9_15 v9_16 v9_17 v9_18 a9_19 v9_20 v9_21 v9_22 a9_23 a9_24 a9_25 a9_26 a9_27 a9_28 a9_29 a9_30 a9_31 a9_32 a9_33 a9_34 v9_35 v9_36 a9_37 a9_38 a9_39 a9_40 a9_41 v9_42 a9_43 a9_44 a9_45 a9_46 a9_47 v9_48 v9_49 v9_50 v9_51 a9_52 a9_53 v9_54 v9_55 a9_56 a9_57 v9_58 a9_59 a9_60 a9_61)), (a9_19, .inl (cyI, 20, .inl g9_19))] sz) := by
  refine Met.ofW (cc := cX9_argument) (maxL := 2) (ret := (some .int)) (by decide) rfl ?_
  intro p e s m args below meth c s₁ B hml hv
  obtain ⟨rfl, ⟨hsz, hP, hK, hN⟩, hD0⟩ := hv
  have hx := B.exec
  have hb := B.bytes
  have hr := B.returns
  have hts := atoms_spec (ws := wsX9_argument) B.pre
  have hown : s.vm.findClass RX9 = some m.cls := findClass_of_methodNamed B.named
  have k_1 := hts (.fieldLink RX9 1 "FlowJudgeModel" "thrown" "I") (by decide +kernel)
  have k_2 := hts (.fieldLink RX9 176 "FlowJudgeModel" "mArgs" "I") (by decide +kernel)
  have k_3 := hts (.fieldLink RX9 48 "FlowJudgeModel" "mArg" "[I") (by decide +kernel)
  subst hsz
  have hD := hD0.self (sz := s.heap.size)
  generalize hAe : va_A [(o9, .inr (9, x_O9 v9_0 v9_1 v9_2 v9_3 a9_4 a9_5 a9_6 a9_7 a9_8 a9_9 a9_10 a9_11 a9_12 v9_13 v9_14 v9_15 v9_16 v9_17 v9_18 a9_19 v9_20 v9_21 v9_22 a9_23 a9_24 a9_25 a9_26 a9_27 a9_28 a9_29 a9_30 a9_31 a9_32 a9_33 a9_34 v9_35 v9_36 a9_37 a9_38 a9_39 a9_40 a9_41 v9_42 a9_43 a9_44 a9_45 a9_46 a9_47 v9_48 v9_49 v9_50 v9_51 a9_52 a9_53 v9_54 v9_55 a9_56 a9_57 v9_58 a9_59 a9_60 a9_61)), (a9_19, .inl (cyI, 20, .inl g9_19))] s.heap.size = A at hD ⊢
  have hA : ∀ q : Nat, s.heap.size ≤ q → A q := fun q h => by rw [← hAe]; exact Or.inr h
  have hP : va_P (dC, dI) vwCl [(o9, .inr (9, x_O9 v9_0 v9_1 v9_2 v9_3 a9_4 a9_5 a9_6 a9_7 a9_8 a9_9 a9_10 a9_11 a9_12 v9_13 v9_14 v9_15 v9_16 v9_17 v9_18 a9_19 v9_20 v9_21 v9_22 a9_23 a9_24 a9_25 a9_26 a9_27 a9_28 a9_29 a9_30 a9_31 a9_32 a9_33 a9_34 v9_35 v9_36 a9_37 a9_38 a9_39 a9_40 a9_41 v9_42 a9_43 a9_44 a9_45 a9_46 a9_47 v9_48 v9_49 v9_50 v9_51 a9_52 a9_53 v9_54 v9_55 a9_56 a9_57 v9_58 a9_59 a9_60 a9_61)), (a9_19, .inl (cyI, 20, .inl g9_19))] s.heap := hP
  have hl := lv_entry ([.ref o9, .int p1]) (n := 2) (Nat.le_of_ble_eq_true rfl)
  rw [lg_entry_eq]
  generalize (lg_sl ([.ref o9, .int p1]) ++ List.replicate (2 - (lg_sl ([.ref o9, .int p1])).length) Slot.unset).toArray = ls at hl ⊢
  have hl : lv_has ls 2 [(0, .ref o9), (1, .int p1)] := hl
  obtain ⟨H, hH⟩ : ∃ z, z = s.heap := ⟨_, rfl⟩
  refine x_here hH ?_
  have hP : va_P (dC, dI) vwCl [(o9, .inr (9, x_O9 v9_0 v9_1 v9_2 v9_3 a9_4 a9_5 a9_6 a9_7 a9_8 a9_9 a9_10 a9_11 a9_12 v9_13 v9_14 v9_15 v9_16 v9_17 v9_18 a9_19 v9_20 v9_21 v9_22 a9_23 a9_24 a9_25 a9_26 a9_27 a9_28 a9_29 a9_30 a9_31 a9_32 a9_33 a9_34 v9_35 v9_36 a9_37 a9_38 a9_39 a9_40 a9_41 v9_42 a9_43 a9_44 a9_45 a9_46 a9_47 v9_48 v9_49 v9_50 v9_51 a9_52 a9_53 v9_54 v9_55 a9_56 a9_57 v9_58 a9_59 a9_60 a9_61)), (a9_19, .inl (cyI, 20, .inl g9_19))] H := by rw [hH]; exact hP
  have hS : va_S A s.heap H [] := by rw [hH]; exact va_S.rf
  clear hH
  obtain ⟨locs, hlo⟩ : ∃ z : List Loc, z = [] := ⟨_, rfl⟩
  refine x_herl hlo ?_
  have hS : va_S A s.heap H locs := by rw [hlo]; exact hS
  clear hlo
  unfold f_X9_argument at hf
  refine lv_aload_n hx hb dX9_argument_0 rfl (lv_at hl 0 rfl) ?_
  refine lv_iconst (v := 0) hx hb dX9_argument_1 (by decide) ?_
  refine va_put (D := (dC, dI)) (ci := 9) (v := .int 0) (ty := .int) (C := RX9) (T := TX9) (N := 62) hx hb hts i_X9_argument_X9 tyX9 tyX9_ok nmX9 hown hK hP hD hS 0 rfl rfl 0 (by decide) k_1 (fun _ h9 => h9) rfl (by decide +kernel) rfl rfl (Nat.le_of_ble_eq_true rfl) dX9_argument_2 (fun H locs hP hD hS => ?_)
  have hP : va_P (dC, dI) vwCl [(o9, .inr (9, x_O9 0 v9_1 v9_2 v9_3 a9_4 a9_5 a9_6 a9_7 a9_8 a9_9 a9_10 a9_11 a9_12 v9_13 v9_14 v9_15 v9_16 v9_17 v9_18 a9_19 v9_20 v9_21 v9_22 a9_23 a9_24 a9_25 a9_26 a9_27 a9_28 a9_29 a9_30 a9_31 a9_32 a9_33 a9_34 v9_35 v9_36 a9_37 a9_38 a9_39 a9_40 a9_41 v9_42 a9_43 a9_44 a9_45 a9_46 a9_47 v9_48 v9_49 v9_50 v9_51 a9_52 a9_53 v9_54 v9_55 a9_56 a9_57 v9_58 a9_59 a9_60 a9_61)), (a9_19, .inl (cyI, 20, .inl g9_19))] H := hP
  have hD : va_D A [(o9, .inr (9, x_O9 0 v9_1 v9_2 v9_3 a9_4 a9_5 a9_6 a9_7 a9_8 a9_9 a9_10 a9_11 a9_12 v9_13 v9_14 v9_15 v9_16 v9_17 v9_18 a9_19 v9_20 v9_21 v9_22 a9_23 a9_24 a9_25 a9_26 a9_27 a9_28 a9_29 a9_30 a9_31 a9_32 a9_33 a9_34 v9_35 v9_36 a9_37 a9_38 a9_39 a9_40 a9_41 v9_42 a9_43 a9_44 a9_45 a9_46 a9_47 v9_48 v9_49 v9_50 v9_51 a9_52 a9_53 v9_54 v9_55 a9_56 a9_57 v9_58 a9_59 a9_60 a9_61)), (a9_19, .inl (cyI, 20, .inl g9_19))] := hD
  refine lv_aload_n hx hb dX9_argument_5 rfl (lv_at hl 0 rfl) ?_
  refine lv_iload_n hx hb dX9_argument_6 rfl (lv_at hl 1 rfl) ?_
  obtain ⟨r_1, h_1, hf⟩ := x_bi hf
  have hPc := hP.sub (ws' := [(o9, .inr (9, x_O9 0 v9_1 v9_2 v9_3 a9_4 a9_5 a9_6 a9_7 a9_8 a9_9 a9_10 a9_11 a9_12 v9_13 v9_14 v9_15 v9_16 v9_17 v9_18 a9_19 v9_20 v9_21 v9_22 a9_23 a9_24 a9_25 a9_26 a9_27 a9_28 a9_29 a9_30 a9_31 a9_32 a9_33 a9_34 v9_35 v9_36 a9_37 a9_38 a9_39 a9_40 a9_41 v9_42 a9_43 a9_44 a9_45 a9_46 a9_47 v9_48 v9_49 v9_50 v9_51 a9_52 a9_53 v9_54 v9_55 a9_56 a9_57 v9_58 a9_59 a9_60 a9_61))]) [0] rfl
  refine va_calli (va_runV (As := [.int p1]) (rest := []) ⟨hx, hb, hml, hown, hts⟩ (c_X9_isType l dC dI cyI cyZ cyJ H.size o9 0 v9_1 v9_2 v9_3 a9_4 a9_5 a9_6 a9_7 a9_8 a9_9 a9_10 a9_11 a9_12 v9_13 v9_14 v9_15 v9_16 v9_17 v9_18 a9_19 v9_20 v9_21 v9_22 a9_23 a9_24 a9_25 a9_26 a9_27 a9_28 a9_29 a9_30 a9_31 a9_32 a9_33 a9_34 v9_35 v9_36 a9_37 a9_38 a9_39 a9_40 a9_41 v9_42 a9_43 a9_44 a9_45 a9_46 a9_47 v9_48 v9_49 v9_50 v9_51 a9_52 a9_53 v9_54 v9_55 a9_56 a9_57 v9_58 a9_59 a9_60 a9_61 p1 r_1 h_1) (cwV 1 hts gX9_argument_X9_isType rfl rfl rfl (by decide +kernel) ⟨Nat.le_of_ble_eq_true rfl, Nat.le_of_ble_eq_true rfl⟩) (x_pV hN hK hPc (ci := 9) (q0 := 0) rfl rfl) rfl rfl hl.1 rfl (lv_room (Nat.le_of_ble_eq_true rfl)) dX9_argument_7 ⟨Nat.le_of_ble_eq_true rfl, Nat.le_of_ble_eq_true rfl⟩) hS x_nA (x_nf hA hS) (fun q_1 u t H1 locs ht hvm hw hB hz1 hk1 hS => ?_)
  have hP := x_kp hP hk1
  clear ht hvm hB hz1 hk1 t u hPc
  generalize H1 = H at hP hS ⊢
  obtain ⟨hw, b_1⟩ := hw
  obtain rfl := hw.symm
  refine lv_if_ne (tgt := 18) hx hb dX9_argument_10 (by decide) (fun c_2 => ?_) (fun c_2 => ?_)
  · replace hf := x_in c_2 hf
    refine lv_aload_n hx hb dX9_argument_18 rfl (lv_at hl 0 rfl) ?_
    refine va_get (D := (dC, dI)) (ci := 9) (v := .int v9_18) (C := RX9) (T := TX9) (N := 62) hx hb hts i_X9_argument_X9 hown hK hP 0 rfl rfl 18 (by decide) k_2 (fun _ h9 => h9) rfl dX9_argument_19 ?_
    refine lv_bipush (v := 20) hx hb dX9_argument_22 (by decide) ?_
    refine lv_icmp_ne (tgt := 32) hx hb dX9_argument_24 (by decide) (fun c_3 => ?_) (fun c_3 => ?_)
    · replace hf := x_in c_3 hf
      refine lv_aload_n hx hb dX9_argument_32 rfl (lv_at hl 0 rfl) ?_
      refine va_get (D := (dC, dI)) (ci := 9) (v := .ref a9_19) (C := RX9) (T := TX9) (N := 62) hx hb hts i_X9_argument_X9 hown hK hP 0 rfl rfl 19 (by decide) k_3 (fun _ h9 => h9) rfl dX9_argument_33 ?_
      refine lv_aload_n hx hb dX9_argument_36 rfl (lv_at hl 0 rfl) ?_
      refine lv_dup hx hb dX9_argument_37 rfl ?_
      refine va_get (D := (dC, dI)) (ci := 9) (v := .int v9_18) (C := RX9) (T := TX9) (N := 62) hx hb hts i_X9_argument_X9 hown hK hP 0 rfl rfl 18 (by decide) k_2 (fun _ h9 => h9) rfl dX9_argument_38 ?_
      refine lv_dup_x1 hx hb dX9_argument_41 rfl rfl ?_
      refine lv_iconst (v := 1) hx hb dX9_argument_42 (by decide) ?_
      refine lv_iadd hx hb dX9_argument_43 ?_
      refine va_put (D := (dC, dI)) (ci := 9) (v := .int (v9_18 + (1 : Int32))) (ty := .int) (C := RX9) (T := TX9) (N := 62) hx hb hts i_X9_argument_X9 tyX9 tyX9_ok nmX9 hown hK hP hD hS 0 rfl rfl 18 (by decide) k_2 (fun _ h9 => h9) rfl (by decide +kernel) rfl rfl (Nat.le_of_ble_eq_true rfl) dX9_argument_44 (fun H locs hP hD hS => ?_)
      have hP : va_P (dC, dI) vwCl [(o9, .inr (9, x_O9 0 v9_1 v9_2 v9_3 a9_4 a9_5 a9_6 a9_7 a9_8 a9_9 a9_10 a9_11 a9_12 v9_13 v9_14 v9_15 v9_16 v9_17 (v9_18 + (1 : Int32)) a9_19 v9_20 v9_21 v9_22 a9_23 a9_24 a9_25 a9_26 a9_27 a9_28 a9_29 a9_30 a9_31 a9_32 a9_33 a9_34 v9_35 v9_36 a9_37 a9_38 a9_39 a9_40 a9_41 v9_42 a9_43 a9_44 a9_45 a9_46 a9_47 v9_48 v9_49 v9_50 v9_51 a9_52 a9_53 v9_54 v9_55 a9_56 a9_57 v9_58 a9_59 a9_60 a9_61)), (a9_19, .inl (cyI, 20, .inl g9_19))] H := hP
      have hD : va_D A [(o9, .inr (9, x_O9 0 v9_1 v9_2 v9_3 a9_4 a9_5 a9_6 a9_7 a9_8 a9_9 a9_10 a9_11 a9_12 v9_13 v9_14 v9_15 v9_16 v9_17 (v9_18 + (1 : Int32)) a9_19 v9_20 v9_21 v9_22 a9_23 a9_24 a9_25 a9_26 a9_27 a9_28 a9_29 a9_30 a9_31 a9_32 a9_33 a9_34 v9_35 v9_36 a9_37 a9_38 a9_39 a9_40 a9_41 v9_42 a9_43 a9_44 a9_45 a9_46 a9_47 v9_48 v9_49 v9_50 v9_51 a9_52 a9_53 v9_54 v9_55 a9_56 a9_57 v9_58 a9_59 a9_60 a9_61)), (a9_19, .inl (cyI, 20, .inl g9_19))] := hD
      refine lv_iload_n hx hb dX9_argument_47 rfl (lv_at hl 1 rfl) ?_
      obtain ⟨g_4, hf⟩ := x_gu hf
      refine va_iast hx hb hK hP hD hS 1 0 rfl rfl (x_gdin g_4) dX9_argument_48 (fun H locs hP hD hS => ?_)
      have hP : va_P (dC, dI) vwCl [(o9, .inr (9, x_O9 0 v9_1 v9_2 v9_3 a9_4 a9_5 a9_6 a9_7 a9_8 a9_9 a9_10 a9_11 a9_12 v9_13 v9_14 v9_15 v9_16 v9_17 (v9_18 + (1 : Int32)) a9_19 v9_20 v9_21 v9_22 a9_23 a9_24 a9_25 a9_26 a9_27 a9_28 a9_29 a9_30 a9_31 a9_32 a9_33 a9_34 v9_35 v9_36 a9_37 a9_38 a9_39 a9_40 a9_41 v9_42 a9_43 a9_44 a9_45 a9_46 a9_47 v9_48 v9_49 v9_50 v9_51 a9_52 a9_53 v9_54 v9_55 a9_56 a9_57 v9_58 a9_59 a9_60 a9_61)), (a9_19, .inl (cyI, 20, .inl (upd g9_19 (Int32.toNatClampNeg v9_18) p1)))] H := hP
      have hD : va_D A [(o9, .inr (9, x_O9 0 v9_1 v9_2 v9_3 a9_4 a9_5 a9_6 a9_7 a9_8 a9_9 a9_10 a9_11 a9_12 v9_13 v9_14 v9_15 v9_16 v9_17 (v9_18 + (1 : Int32)) a9_19 v9_20 v9_21 v9_22 a9_23 a9_24 a9_25 a9_26 a9_27 a9_28 a9_29 a9_30 a9_31 a9_32 a9_33 a9_34 v9_35 v9_36 a9_37 a9_38 a9_39 a9_40 a9_41 v9_42 a9_43 a9_44 a9_45 a9_46 a9_47 v9_48 v9_49 v9_50 v9_51 a9_52 a9_53 v9_54 v9_55 a9_56 a9_57 v9_58 a9_59 a9_60 a9_61)), (a9_19, .inl (cyI, 20, .inl (upd g9_19 (Int32.toNatClampNeg v9_18) p1)))] := hD
      refine lv_aload_n hx hb dX9_argument_49 rfl (lv_at hl 0 rfl) ?_
      refine va_get (D := (dC, dI)) (ci := 9) (v := .int (v9_18 + (1 : Int32))) (C := RX9) (T := TX9) (N := 62) hx hb hts i_X9_argument_X9 hown hK hP 0 rfl rfl 18 (by decide) k_2 (fun _ h9 => h9) rfl dX9_argument_50 ?_
      obtain rfl := Option.some.inj hf
      have hP9 := hP.sub (ws' := [(o9, .inr (9, x_O9 0 v9_1 v9_2 v9_3 a9_4 a9_5 a9_6 a9_7 a9_8 a9_9 a9_10 a9_11 a9_12 v9_13 v9_14 v9_15 v9_16 v9_17 (v9_18 + (1 : Int32)) a9_19 v9_20 v9_21 v9_22 a9_23 a9_24 a9_25 a9_26 a9_27 a9_28 a9_29 a9_30 a9_31 a9_32 a9_33 a9_34 v9_35 v9_36 a9_37 a9_38 a9_39 a9_40 a9_41 v9_42 a9_43 a9_44 a9_45 a9_46 a9_47 v9_48 v9_49 v9_50 v9_51 a9_52 a9_53 v9_54 v9_55 a9_56 a9_57 v9_58 a9_59 a9_60 a9_61)), (a9_19, .inl (cyI, 20, .inl (upd g9_19 (Int32.toNatClampNeg v9_18) p1)))]) [0, 1] rfl
      have hD9 := hD.sub (ws' := [(o9, .inr (9, x_O9 0 v9_1 v9_2 v9_3 a9_4 a9_5 a9_6 a9_7 a9_8 a9_9 a9_10 a9_11 a9_12 v9_13 v9_14 v9_15 v9_16 v9_17 (v9_18 + (1 : Int32)) a9_19 v9_20 v9_21 v9_22 a9_23 a9_24 a9_25 a9_26 a9_27 a9_28 a9_29 a9_30 a9_31 a9_32 a9_33 a9_34 v9_35 v9_36 a9_37 a9_38 a9_39 a9_40 a9_41 v9_42 a9_43 a9_44 a9_45 a9_46 a9_47 v9_48 v9_49 v9_50 v9_51 a9_52 a9_53 v9_54 v9_55 a9_56 a9_57 v9_58 a9_59 a9_60 a9_61)), (a9_19, .inl (cyI, 20, .inl (upd g9_19 (Int32.toNatClampNeg v9_18) p1)))]) [0, 1] (by decide) rfl
      exact W.iret hx hb hr (fun t ht hW => ⟨⟨_, (), rfl, rfl, by rw [ht]; exact hP9, va_K.moved hW.alike hK, hD9⟩, hS.F ht⟩) hS.2.2 dX9_argument_53
    · replace hf := x_ip c_3 hf
      refine lv_aload_n hx hb dX9_argument_27 rfl (lv_at hl 0 rfl) ?_
      obtain ⟨r_5, h_5, hf⟩ := x_bi hf
      have hPc := hP.sub (ws' := [(o9, .inr (9, x_O9 0 v9_1 v9_2 v9_3 a9_4 a9_5 a9_6 a9_7 a9_8 a9_9 a9_10 a9_11 a9_12 v9_13 v9_14 v9_15 v9_16 v9_17 v9_18 a9_19 v9_20 v9_21 v9_22 a9_23 a9_24 a9_25 a9_26 a9_27 a9_28 a9_29 a9_30 a9_31 a9_32 a9_33 a9_34 v9_35 v9_36 a9_37 a9_38 a9_39 a9_40 a9_41 v9_42 a9_43 a9_44 a9_45 a9_46 a9_47 v9_48 v9_49 v9_50 v9_51 a9_52 a9_53 v9_54 v9_55 a9_56 a9_57 v9_58 a9_59 a9_60 a9_61))]) [0] rfl
      have hDc := hD.sub (ws' := [(o9, .inr (9, x_O9 0 v9_1 v9_2 v9_3 a9_4 a9_5 a9_6 a9_7 a9_8 a9_9 a9_10 a9_11 a9_12 v9_13 v9_14 v9_15 v9_16 v9_17 v9_18 a9_19 v9_20 v9_21 v9_22 a9_23 a9_24 a9_25 a9_26 a9_27 a9_28 a9_29 a9_30 a9_31 a9_32 a9_33 a9_34 v9_35 v9_36 a9_37 a9_38 a9_39 a9_40 a9_41 v9_42 a9_43 a9_44 a9_45 a9_46 a9_47 v9_48 v9_49 v9_50 v9_51 a9_52 a9_53 v9_54 v9_55 a9_56 a9_57 v9_58 a9_59 a9_60 a9_61))]) [0] (by decide) rfl
      have hFc := va_free (wc := [(o9, .inr (9, x_O9 0 v9_1 v9_2 v9_3 a9_4 a9_5 a9_6 a9_7 a9_8 a9_9 a9_10 a9_11 a9_12 v9_13 v9_14 v9_15 v9_16 v9_17 v9_18 a9_19 v9_20 v9_21 v9_22 a9_23 a9_24 a9_25 a9_26 a9_27 a9_28 a9_29 a9_30 a9_31 a9_32 a9_33 a9_34 v9_35 v9_36 a9_37 a9_38 a9_39 a9_40 a9_41 v9_42 a9_43 a9_44 a9_45 a9_46 a9_47 v9_48 v9_49 v9_50 v9_51 a9_52 a9_53 v9_54 v9_55 a9_56 a9_57 v9_58 a9_59 a9_60 a9_61))]) hD hS hA [0] rfl
      refine va_calli (va_runV (As := []) (rest := []) ⟨hx, hb, hml, hown, hts⟩ (c_X9_full l dC dI cyI cyZ cyJ H.size o9 0 v9_1 v9_2 v9_3 a9_4 a9_5 a9_6 a9_7 a9_8 a9_9 a9_10 a9_11 a9_12 v9_13 v9_14 v9_15 v9_16 v9_17 v9_18 a9_19 v9_20 v9_21 v9_22 a9_23 a9_24 a9_25 a9_26 a9_27 a9_28 a9_29 a9_30 a9_31 a9_32 a9_33 a9_34 v9_35 v9_36 a9_37 a9_38 a9_39 a9_40 a9_41 v9_42 a9_43 a9_44 a9_45 a9_46 a9_47 v9_48 v9_49 v9_50 v9_51 a9_52 a9_53 v9_54 v9_55 a9_56 a9_57 v9_58 a9_59 a9_60 a9_61 r_5 h_5) (cwV 0 hts gX9_argument_X9_full rfl rfl rfl (by decide +kernel) ⟨Nat.le_of_ble_eq_true rfl, Nat.le_of_ble_eq_true rfl⟩) (x_pVD hN hK hPc hDc (ci := 9) (q0 := 0) rfl rfl) rfl rfl hl.1 rfl (lv_room (Nat.le_of_ble_eq_true rfl)) dX9_argument_28 ⟨Nat.le_of_ble_eq_true rfl, Nat.le_of_ble_eq_true rfl⟩) hS (fun q _ h => hFc q h) hFc (fun q_5 u t H1 locs ht hvm hw hB hz1 hk1 hS => ?_)
      obtain ⟨hP1, hK1, hD1⟩ := hB
      rw [ht] at hP1
      obtain ⟨hP, hD⟩ := va_join (wr := [(a9_19, .inl (cyI, 20, .inl g9_19))]) (w1 := [(o9, .inr (9, x_O9 (r_5.2) v9_1 v9_2 v9_3 a9_4 a9_5 a9_6 a9_7 a9_8 a9_9 a9_10 a9_11 a9_12 v9_13 v9_14 v9_15 v9_16 v9_17 v9_18 a9_19 v9_20 v9_21 v9_22 a9_23 a9_24 a9_25 a9_26 a9_27 a9_28 a9_29 a9_30 a9_31 a9_32 a9_33 a9_34 v9_35 v9_36 a9_37 a9_38 a9_39 a9_40 a9_41 v9_42 a9_43 a9_44 a9_45 a9_46 a9_47 v9_48 v9_49 v9_50 v9_51 a9_52 a9_53 v9_54 v9_55 a9_56 a9_57 v9_58 a9_59 a9_60 a9_61))]) hP hD [0] [1] rfl rfl (by decide) (by decide) hk1 hFc hP1 hD1
      clear hz1 hk1 hPc hDc hFc hP1 hK1 hD1 ht hvm t u
      generalize H1 = H at hP hS ⊢
      have hP : va_P (dC, dI) vwCl [(a9_19, .inl (cyI, 20, .inl g9_19)), (o9, .inr (9, x_O9 (r_5.2) v9_1 v9_2 v9_3 a9_4 a9_5 a9_6 a9_7 a9_8 a9_9 a9_10 a9_11 a9_12 v9_13 v9_14 v9_15 v9_16 v9_17 v9_18 a9_19 v9_20 v9_21 v9_22 a9_23 a9_24 a9_25 a9_26 a9_27 a9_28 a9_29 a9_30 a9_31 a9_32 a9_33 a9_34 v9_35 v9_36 a9_37 a9_38 a9_39 a9_40 a9_41 v9_42 a9_43 a9_44 a9_45 a9_46 a9_47 v9_48 v9_49 v9_50 v9_51 a9_52 a9_53 v9_54 v9_55 a9_56 a9_57 v9_58 a9_59 a9_60 a9_61))] H := hP
      have hD : va_D A [(a9_19, .inl (cyI, 20, .inl g9_19)), (o9, .inr (9, x_O9 (r_5.2) v9_1 v9_2 v9_3 a9_4 a9_5 a9_6 a9_7 a9_8 a9_9 a9_10 a9_11 a9_12 v9_13 v9_14 v9_15 v9_16 v9_17 v9_18 a9_19 v9_20 v9_21 v9_22 a9_23 a9_24 a9_25 a9_26 a9_27 a9_28 a9_29 a9_30 a9_31 a9_32 a9_33 a9_34 v9_35 v9_36 a9_37 a9_38 a9_39 a9_40 a9_41 v9_42 a9_43 a9_44 a9_45 a9_46 a9_47 v9_48 v9_49 v9_50 v9_51 a9_52 a9_53 v9_54 v9_55 a9_56 a9_57 v9_58 a9_59 a9_60 a9_61))] := hD
      obtain rfl := hw.symm
      obtain rfl := Option.some.inj hf
      have hP9 := hP.sub (ws' := [(o9, .inr (9, x_O9 (r_5.2) v9_1 v9_2 v9_3 a9_4 a9_5 a9_6 a9_7 a9_8 a9_9 a9_10 a9_11 a9_12 v9_13 v9_14 v9_15 v9_16 v9_17 v9_18 a9_19 v9_20 v9_21 v9_22 a9_23 a9_24 a9_25 a9_26 a9_27 a9_28 a9_29 a9_30 a9_31 a9_32 a9_33 a9_34 v9_35 v9_36 a9_37 a9_38 a9_39 a9_40 a9_41 v9_42 a9_43 a9_44 a9_45 a9_46 a9_47 v9_48 v9_49 v9_50 v9_51 a9_52 a9_53 v9_54 v9_55 a9_56 a9_57 v9_58 a9_59 a9_60 a9_61)), (a9_19, .inl (cyI, 20, .inl g9_19))]) [1, 0] rfl
      have hD9 := hD.sub (ws' := [(o9, .inr (9, x_O9 (r_5.2) v9_1 v9_2 v9_3 a9_4 a9_5 a9_6 a9_7 a9_8 a9_9 a9_10 a9_11 a9_12 v9_13 v9_14 v9_15 v9_16 v9_17 v9_18 a9_19 v9_20 v9_21 v9_22 a9_23 a9_24 a9_25 a9_26 a9_27 a9_28 a9_29 a9_30 a9_31 a9_32 a9_33 a9_34 v9_35 v9_36 a9_37 a9_38 a9_39 a9_40 a9_41 v9_42 a9_43 a9_44 a9_45 a9_46 a9_47 v9_48 v9_49 v9_50 v9_51 a9_52 a9_53 v9_54 v9_55 a9_56 a9_57 v9_58 a9_59 a9_60 a9_61)), (a9_19, .inl (cyI, 20, .inl g9_19))]) [1, 0] (by decide) rfl
      exact W.iret hx hb hr (fun t ht hW => ⟨⟨_, (), rfl, rfl, by rw [ht]; exact hP9, va_K.moved hW.alike hK, hD9⟩, hS.F ht⟩) hS.2.2 dX9_argument_31
  · replace hf := x_ip c_2 hf
    refine lv_aload_n hx hb dX9_argument_13 rfl (lv_at hl 0 rfl) ?_
    obtain ⟨r_6, h_6, hf⟩ := x_bi hf
    have hPc := hP.sub (ws' := [(o9, .inr (9, x_O9 0 v9_1 v9_2 v9_3 a9_4 a9_5 a9_6 a9_7 a9_8 a9_9 a9_10 a9_11 a9_12 v9_13 v9_14 v9_15 v9_16 v9_17 v9_18 a9_19 v9_20 v9_21 v9_22 a9_23 a9_24 a9_25 a9_26 a9_27 a9_28 a9_29 a9_30 a9_31 a9_32 a9_33 a9_34 v9_35 v9_36 a9_37 a9_38 a9_39 a9_40 a9_41 v9_42 a9_43 a9_44 a9_45 a9_46 a9_47 v9_48 v9_49 v9_50 v9_51 a9_52 a9_53 v9_54 v9_55 a9_56 a9_57 v9_58 a9_59 a9_60 a9_61))]) [0] rfl
    have hDc := hD.sub (ws' := [(o9, .inr (9, x_O9 0 v9_1 v9_2 v9_3 a9_4 a9_5 a9_6 a9_7 a9_8 a9_9 a9_10 a9_11 a9_12 v9_13 v9_14 v9_15 v9_16 v9_17 v9_18 a9_19 v9_20 v9_21 v9_22 a9_23 a9_24 a9_25 a9_26 a9_27 a9_28 a9_29 a9_30 a9_31 a9_32 a9_33 a9_34 v9_35 v9_36 a9_37 a9_38 a9_39 a9_40 a9_41 v9_42 a9_43 a9_44 a9_45 a9_46 a9_47 v9_48 v9_49 v9_50 v9_51 a9_52 a9_53 v9_54 v9_55 a9_56 a9_57 v9_58 a9_59 a9_60 a9_61))]) [0] (by decide) rfl
    have hFc := va_free (wc := [(o9, .inr (9, x_O9 0 v9_1 v9_2 v9_3 a9_4 a9_5 a9_6 a9_7 a9_8 a9_9 a9_10 a9_11 a9_12 v9_13 v9_14 v9_15 v9_16 v9_17 v9_18 a9_19 v9_20 v9_21 v9_22 a9_23 a9_24 a9_25 a9_26 a9_27 a9_28 a9_29 a9_30 a9_31 a9_32 a9_33 a9_34 v9_35 v9_36 a9_37 a9_38 a9_39 a9_40 a9_41 v9_42 a9_43 a9_44 a9_45 a9_46 a9_47 v9_48 v9_49 v9_50 v9_51 a9_52 a9_53 v9_54 v9_55 a9_56 a9_57 v9_58 a9_59 a9_60 a9_61))]) hD hS hA [0] rfl
    refine va_calli (va_runV (As := []) (rest := []) ⟨hx, hb, hml, hown, hts⟩ (c_X9_bad l dC dI cyI cyZ cyJ H.size o9 0 v9_1 v9_2 v9_3 a9_4 a9_5 a9_6 a9_7 a9_8 a9_9 a9_10 a9_11 a9_12 v9_13 v9_14 v9_15 v9_16 v9_17 v9_18 a9_19 v9_20 v9_21 v9_22 a9_23 a9_24 a9_25 a9_26 a9_27 a9_28 a9_29 a9_30 a9_31 a9_32 a9_33 a9_34 v9_35 v9_36 a9_37 a9_38 a9_39 a9_40 a9_41 v9_42 a9_43 a9_44 a9_45 a9_46 a9_47 v9_48 v9_49 v9_50 v9_51 a9_52 a9_53 v9_54 v9_55 a9_56 a9_57 v9_58 a9_59 a9_60 a9_61 r_6 h_6) (cwV 0 hts gX9_argument_X9_bad rfl rfl rfl (by decide +kernel) ⟨Nat.le_of_ble_eq_true rfl, Nat.le_of_ble_eq_true rfl⟩) (x_pVD hN hK hPc hDc (ci := 9) (q0 := 0) rfl rfl) rfl rfl hl.1 rfl (lv_room (Nat.le_of_ble_eq_true rfl)) dX9_argument_14 ⟨Nat.le_of_ble_eq_true rfl, Nat.le_of_ble_eq_true rfl⟩) hS (fun q _ h => hFc q h) hFc (fun q_6 u t H1 locs ht hvm hw hB hz1 hk1 hS => ?_)
    obtain ⟨hP1, hK1, hD1⟩ := hB
    rw [ht] at hP1
    obtain ⟨hP, hD⟩ := va_join (wr := [(a9_19, .inl (cyI, 20, .inl g9_19))]) (w1 := [(o9, .inr (9, x_O9 (r_6.2) v9_1 v9_2 v9_3 a9_4 a9_5 a9_6 a9_7 a9_8 a9_9 a9_10 a9_11 a9_12 v9_13 v9_14 v9_15 v9_16 v9_17 v9_18 a9_19 v9_20 v9_21 v9_22 a9_23 a9_24 a9_25 a9_26 a9_27 a9_28 a9_29 a9_30 a9_31 a9_32 a9_33 a9_34 v9_35 v9_36 a9_37 a9_38 a9_39 a9_40 a9_41 v9_42 a9_43 a9_44 a9_45 a9_46 a9_47 v9_48 v9_49 v9_50 v9_51 a9_52 a9_53 v9_54 v9_55 a9_56 a9_57 v9_58 a9_59 a9_60 a9_61))]) hP hD [0] [1] rfl rfl (by decide) (by decide) hk1 hFc hP1 hD1
    clear hz1 hk1 hPc hDc hFc hP1 hK1 hD1 ht hvm t u
    generalize H1 = H at hP hS ⊢
    have hP : va_P (dC, dI) vwCl [(a9_19, .inl (cyI, 20, .inl g9_19)), (o9, .inr (9, x_O9 (r_6.2) v9_1 v9_2 v9_3 a9_4 a9_5 a9_6 a9_7 a9_8 a9_9 a9_10 a9_11 a9_12 v9_13 v9_14 v9_15 v9_16 v9_17 v9_18 a9_19 v9_20 v9_21 v9_22 a9_23 a9_24 a9_25 a9_26 a9_27 a9_28 a9_29 a9_30 a9_31 a9_32 a9_33 a9_34 v9_35 v9_36 a9_37 a9_38 a9_39 a9_40 a9_41 v9_42 a9_43 a9_44 a9_45 a9_46 a9_47 v9_48 v9_49 v9_50 v9_51 a9_52 a9_53 v9_54 v9_55 a9_56 a9_57 v9_58 a9_59 a9_60 a9_61))] H := hP
    have hD : va_D A [(a9_19, .inl (cyI, 20, .inl g9_19)), (o9, .inr (9, x_O9 (r_6.2) v9_1 v9_2 v9_3 a9_4 a9_5 a9_6 a9_7 a9_8 a9_9 a9_10 a9_11 a9_12 v9_13 v9_14 v9_15 v9_16 v9_17 v9_18 a9_19 v9_20 v9_21 v9_22 a9_23 a9_24 a9_25 a9_26 a9_27 a9_28 a9_29 a9_30 a9_31 a9_32 a9_33 a9_34 v9_35 v9_36 a9_37 a9_38 a9_39 a9_40 a9_41 v9_42 a9_43 a9_44 a9_45 a9_46 a9_47 v9_48 v9_49 v9_50 v9_51 a9_52 a9_53 v9_54 v9_55 a9_56 a9_57 v9_58 a9_59 a9_60 a9_61))] := hD
    obtain rfl := hw.symm
    obtain rfl := Option.some.inj hf
    have hP9 := hP.sub (ws' := [(o9, .inr (9, x_O9 (r_6.2) v9_1 v9_2 v9_3 a9_4 a9_5 a9_6 a9_7 a9_8 a9_9 a9_10 a9_11 a9_12 v9_13 v9_14 v9_15 v9_16 v9_17 v9_18 a9_19 v9_20 v9_21 v9_22 a9_23 a9_24 a9_25 a9_26 a9_27 a9_28 a9_29 a9_30 a9_31 a9_32 a9_33 a9_34 v9_35 v9_36 a9_37 a9_38 a9_39 a9_40 a9_41 v9_42 a9_43 a9_44 a9_45 a9_46 a9_47 v9_48 v9_49 v9_50 v9_51 a9_52 a9_53 v9_54 v9_55 a9_56 a9_57 v9_58 a9_59 a9_60 a9_61)), (a9_19, .inl (cyI, 20, .inl g9_19))]) [1, 0] rfl
    have hD9 := hD.sub (ws' := [(o9, .inr (9, x_O9 (r_6.2) v9_1 v9_2 v9_3 a9_4 a9_5 a9_6 a9_7 a9_8 a9_9 a9_10 a9_11 a9_12 v9_13 v9_14 v9_15 v9_16 v9_17 v9_18 a9_19 v9_20 v9_21 v9_22 a9_23 a9_24 a9_25 a9_26 a9_27 a9_28 a9_29 a9_30 a9_31 a9_32 a9_33 a9_34 v9_35 v9_36 a9_37 a9_38 a9_39 a9_40 a9_41 v9_42 a9_43 a9_44 a9_45 a9_46 a9_47 v9_48 v9_49 v9_50 v9_51 a9_52 a9_53 v9_54 v9_55 a9_56 a9_57 v9_58 a9_59 a9_60 a9_61)), (a9_19, .inl (cyI, 20, .inl g9_19))]) [1, 0] (by decide) rfl
    exact W.iret hx hb hr (fun t ht hW => ⟨⟨_, (), rfl, rfl, by rw [ht]; exact hP9, va_K.moved hW.alike hK, hD9⟩, hS.F ht⟩) hS.2.2 dX9_argument_17

def f_X9_fits_L (v9_1 : Int32) (v9_2 : Int32) (v9_3 : Int32) (l2 : Int32) (z : Nat × Int32 × Int32) : Option (Int32) := match z with
  | (q, l1, l3) => if q = 0 then if l1 < (46 : Int32) then (f_X9_fits_L v9_1 v9_2 v9_3 l2 (1, l1, l3)) else if l1 ≤ (53 : Int32) then (f_X9_fits_L v9_1 v9_2 v9_3 l2 (5, 0, l3)) else (f_X9_fits_L v9_1 v9_2 v9_3 l2 (1, l1, l3)) else if q = 1 then if l1 < (79 : Int32) then (f_X9_fits_L v9_1 v9_2 v9_3 l2 (2, l1, l3)) else if l1 ≤ (131 : Int32) then (f_X9_fits_L v9_1 v9_2 v9_3 l2 (5, 0, l3)) else (f_X9_fits_L v9_1 v9_2 v9_3 l2 (2, l1, l3)) else if q = 2 then if l1 < (133 : Int32) then (f_X9_fits_L v9_1 v9_2 v9_3 l2 (3, l1, l3)) else if l1 ≤ (152 : Int32) then (f_X9_fits_L v9_1 v9_2 v9_3 l2 (5, 0, l3)) else (f_X9_fits_L v9_1 v9_2 v9_3 l2 (3, l1, l3)) else if q = 3 then if l1 < (170 : Int32) then (f_X9_fits_L v9_1 v9_2 v9_3 l2 (4, l1, l3)) else if l1 ≤ (177 : Int32) then (f_X9_fits_L v9_1 v9_2 v9_3 l2 (5, 0, l3)) else (f_X9_fits_L v9_1 v9_2 v9_3 l2 (4, l1, l3)) else if q = 4 then if l1 = (190 : Int32) then (f_X9_fits_L v9_1 v9_2 v9_3 l2 (5, 0, l3)) else if l1 = (191 : Int32) then (f_X9_fits_L v9_1 v9_2 v9_3 l2 (5, 0, l3)) else if l1 = (194 : Int32) then (f_X9_fits_L v9_1 v9_2 v9_3 l2 (5, 0, l3)) else if l1 = (195 : Int32) then (f_X9_fits_L v9_1 v9_2 v9_3 l2 (5, 0, l3)) else if l1 = (132 : Int32) then if l2 < (0 : Int32) then some 0 else some 1 else if l1 = (197 : Int32) then (f_X9_isType v9_1 l2) >>= (fun r_27 => if r_27 = (0 : Int32) then some 0 else if l3 < (1 : Int32) then some 0 else if (l2 >>> (16 &&& 31)) < l3 then some 0 else some 1) else if l3 = (0 : Int32) then if l1 = (16 : Int32) then some 1 else if l1 = (17 : Int32) then some 1 else if l1 = (18 : Int32) then (f_X9_isType v9_1 l2) >>= (fun r_23 => if r_23 = (0 : Int32) then some 0 else (f_X9_isWide l2) >>= (fun r_25 => if r_25 = (0 : Int32) then some 1 else some 0)) else if l1 = (20 : Int32) then (f_X9_isWide l2) >>= (fun r_22 => some r_22) else if l1 < (21 : Int32) then (f_X9_fits_L v9_1 v9_2 v9_3 l2 (6, l1, 0)) else if l1 ≤ (25 : Int32) then (f_X9_fits_L v9_1 v9_2 v9_3 l2 (9, 0, 0)) else (f_X9_fits_L v9_1 v9_2 v9_3 l2 (6, l1, 0)) else some 0 else if q = 5 then if l2 = (0 : Int32) then if l3 = (0 : Int32) then some 1 else some 0 else some 0 else if q = 6 then if l1 < (54 : Int32) then (f_X9_fits_L v9_1 v9_2 v9_3 l2 (7, l1, 0)) else if l1 ≤ (58 : Int32) then (f_X9_fits_L v9_1 v9_2 v9_3 l2 (9, 0, 0)) else (f_X9_fits_L v9_1 v9_2 v9_3 l2 (7, l1, 0)) else if q = 7 then if l1 = (169 : Int32) then (f_X9_fits_L v9_1 v9_2 v9_3 l2 (9, 0, 0)) else if l1 < (153 : Int32) then (f_X9_fits_L v9_1 v9_2 v9_3 l2 (8, l1, 0)) else if l1 ≤ (168 : Int32) then (f_X9_fits_L v9_1 v9_2 v9_3 l2 (9, 0, 0)) else (f_X9_fits_L v9_1 v9_2 v9_3 l2 (8, l1, 0)) else if q = 8 then if l1 = (198 : Int32) then (f_X9_fits_L v9_1 v9_2 v9_3 l2 (9, 0, 0)) else if l1 = (199 : Int32) then (f_X9_fits_L v9_1 v9_2 v9_3 l2 (9, 0, 0)) else if l1 < (178 : Int32) then (f_X9_fits_L v9_1 v9_2 v9_3 l2 (10, l1, 0)) else if (181 : Int32) < l1 then (f_X9_fits_L v9_1 v9_2 v9_3 l2 (10, l1, 0)) else if l2 < (0 : Int32) then some 0 else if v9_2 ≤ l2 then some 0 else some 1 else if q = 9 then if l2 < (0 : Int32) then some 0 else some 1 else if q = 10 then if l1 < (182 : Int32) then (f_X9_fits_L v9_1 v9_2 v9_3 l2 (11, l1, 0)) else if (186 : Int32) < l1 then (f_X9_fits_L v9_1 v9_2 v9_3 l2 (11, l1, 0)) else if l2 < (0 : Int32) then some 0 else if v9_3 ≤ l2 then some 0 else some 1 else if q = 11 then if l1 = (187 : Int32) then (f_X9_isClass v9_1 l2) >>= (fun r_62 => some r_62) else if l1 = (188 : Int32) then if l2 < (0 : Int32) then some 0 else if (7 : Int32) < l2 then some 0 else some 1 else if l1 = (189 : Int32) then (f_X9_isType v9_1 l2) >>= (fun r_55 => if r_55 = (0 : Int32) then some 0 else (f_X9_isPrimitive l2) >>= (fun r_57 => if r_57 = (0 : Int32) then if (255 : Int32) ≤ (l2 >>> (16 &&& 31)) then some 0 else some 1 else some 0)) else if l1 = (192 : Int32) then (f_X9_fits_L v9_1 v9_2 v9_3 l2 (12, 0, 0)) else if l1 = (193 : Int32) then (f_X9_fits_L v9_1 v9_2 v9_3 l2 (12, 0, 0)) else some 0 else if q = 12 then (f_X9_isType v9_1 l2) >>= (fun r_63 => if r_63 = (0 : Int32) then some 0 else (f_X9_isPrimitive l2) >>= (fun r_65 => if r_65 = (0 : Int32) then some 1 else some 0)) else none
partial_fixpoint
def f_X9_fits (v9_1 : Int32) (v9_2 : Int32) (v9_3 : Int32) (p1 : Int32) (p2 : Int32) (p3 : Int32) : Option (Int32) := if p1 < (0 : Int32) then (f_X9_fits_L v9_1 v9_2 v9_3 p2 (0, p1, p3)) else if p1 ≤ (15 : Int32) then (f_X9_fits_L v9_1 v9_2 v9_3 p2 (5, 0, p3)) else (f_X9_fits_L v9_1 v9_2 v9_3 p2 (0, p1, p3))
theorem i_X9_fits_X9 : ∀ w ∈ wsX90, w ∈ wsX9_fits := fun _ h => List.mem_cons_of_mem _ (List.mem_append_right _ h)
set_option maxHeartbeats 4000000 in
set_option maxRecDepth 100000 in
theorem c_X9_fits (l : Launch) (dC : Nat → ClassId) (dI : Nat → Nat → Nat) (cyI cyZ cyJ : ClassId) (sz : Nat) (o9 : Nat) (v9_0 : Int32) (v9_1 : Int32) (v9_2 : Int32) (v9_3 : Int32) (a9_4 : Nat) (a9_5 : Nat) (a9_6 : Nat) (a9_7 : Nat) (a9_8 : Nat) (a9_9 : Nat) (a9_10 : Nat) (a9_11 : Nat) (a9_12 : Nat) (v9_13 : Int32) (v9_14 : Int32) (v9_15 : Int32) (v9_16 : Int32) (v9_17 : Int32) (v9_18 : Int32) (a9_19 : Nat) (v9_20 : Int32) (v9_21 : Int32) (v9_22 : Int32) (a9_23 : Nat) (a9_24 : Nat) (a9_25 : Nat) (a9_26 : Nat) (a9_27 : Nat) (a9_28 : Nat) (a9_29 : Nat) (a9_30 : Nat) (a9_31 : Nat) (a9_32 : Nat) (a9_33 : Nat) (a9_34 : Nat) (v9_35 : Int32) (v9_36 : Int32) (a9_37 : Nat) (a9_38 : Nat) (a9_39 : Nat) (a9_40 : Nat) (a9_41 : Nat) (v9_42 : Int32) (a9_43 : Nat) (a9_44 : Nat) (a9_45 : Nat) (a9_46 : Nat) (a9_47 : Nat) (v9_48 : Int32) (v9_49 : Int32) (v9_50 : Int32) (v9_51 : Int32) (a9_52 : Nat) (a9_53 : Nat) (v9_54 : Int32) (v9_55 : Int32) (a9_56 : Nat) (a9_57 : Nat) (v9_58 : Int32) (a9_59 : Nat) (a9_60 : Nat) (a9_61 : Nat) (p1 : Int32) (p2 : Int32) (p3 : Int32) (R : Int32) (hf : f_X9_fits v9_1 v9_2 v9_3 p1 p2 p3 = some R) : Met l yX9_fits wsX9_fits ({ frames := 2, cells := 0, slots := 0, locals := 42 }) (va_Pc [.ref o9, .int p1, .int p2, .int p3] (x_Pre (dC, dI) (x_T cyI cyZ cyJ) [(o9, .inr (9, x_O9 v9_0 v9_1 v9_2 v9_3 a9_4 a9_5 a9_6 a9_7 a9_8 a9_9 a9_10 a9_11 a9_12 v9_13 v9_14 v9_15 v9_16 v9_17 v9_18 a9_19 v9_20 v9_21 v9_22 a9_23 a9_24 a9_25 a9_26 a9_27 a9_28 a9_29 a9_30 a9_31 a9_32 a9_33 a9_34 v9_35 v9_36 a9_37 a9_38 a9_39 a9_40 a9_41 v9_42 a9_43 a9_44 a9_45 a9_46 a9_47 v9_48 v9_49 v9_50 v9_51 a9_52 a9_53 v9_54 v9_55 a9_56 a9_57 v9_58 a9_59 a9_60 a9_61))] sz)) (va_Qi (fun (r : Int32) (_ : Unit) => r = R ∧ x_nb r) (fun _ _ => True) (x_new sz)) 0 0 (x_new sz) := by
  refine Met.ofW (cc := cX9_fits) (maxL := 4) (ret := (some .boolean)) (by decide) rfl ?_
  intro p e s m args below meth c s₁ B hml hv
  obtain ⟨rfl, hsz, hP, hK, hN⟩ := hv
  have hx := B.exec
  have hb := B.bytes
  have hr := B.returns
  have hts := atoms_spec (ws := wsX9_fits) B.pre
  have hown : s.vm.findClass RX9 = some m.cls := findClass_of_methodNamed B.named
  have k_1 := hts (.fieldLink RX9 158 "FlowJudgeModel" "fields" "I") (by decide +kernel)
  have k_2 := hts (.fieldLink RX9 161 "FlowJudgeModel" "shapes" "I") (by decide +kernel)
  subst hsz
  have hA : ∀ q : Nat, s.heap.size ≤ q → x_new s.heap.size q := fun _ h => h
  have hS : va_S (x_new s.heap.size) s.heap s.heap [] := va_S.rf
  have hP : va_P (dC, dI) vwCl [(o9, .inr (9, x_O9 v9_0 v9_1 v9_2 v9_3 a9_4 a9_5 a9_6 a9_7 a9_8 a9_9 a9_10 a9_11 a9_12 v9_13 v9_14 v9_15 v9_16 v9_17 v9_18 a9_19 v9_20 v9_21 v9_22 a9_23 a9_24 a9_25 a9_26 a9_27 a9_28 a9_29 a9_30 a9_31 a9_32 a9_33 a9_34 v9_35 v9_36 a9_37 a9_38 a9_39 a9_40 a9_41 v9_42 a9_43 a9_44 a9_45 a9_46 a9_47 v9_48 v9_49 v9_50 v9_51 a9_52 a9_53 v9_54 v9_55 a9_56 a9_57 v9_58 a9_59 a9_60 a9_61))] s.heap := hP
  have hl := lv_entry ([.ref o9, .int p1, .int p2, .int p3]) (n := 4) (Nat.le_of_ble_eq_true rfl)
  rw [lg_entry_eq]
  generalize (lg_sl ([.ref o9, .int p1, .int p2, .int p3]) ++ List.replicate (4 - (lg_sl ([.ref o9, .int p1, .int p2, .int p3])).length) Slot.unset).toArray = ls at hl ⊢
  have hl : lv_has ls 4 [(0, .ref o9), (1, .int p1), (2, .int p2), (3, .int p3)] := hl
  obtain ⟨H, hH⟩ : ∃ z, z = s.heap := ⟨_, rfl⟩
  refine x_here hH ?_
  have hP : va_P (dC, dI) vwCl [(o9, .inr (9, x_O9 v9_0 v9_1 v9_2 v9_3 a9_4 a9_5 a9_6 a9_7 a9_8 a9_9 a9_10 a9_11 a9_12 v9_13 v9_14 v9_15 v9_16 v9_17 v9_18 a9_19 v9_20 v9_21 v9_22 a9_23 a9_24 a9_25 a9_26 a9_27 a9_28 a9_29 a9_30 a9_31 a9_32 a9_33 a9_34 v9_35 v9_36 a9_37 a9_38 a9_39 a9_40 a9_41 v9_42 a9_43 a9_44 a9_45 a9_46 a9_47 v9_48 v9_49 v9_50 v9_51 a9_52 a9_53 v9_54 v9_55 a9_56 a9_57 v9_58 a9_59 a9_60 a9_61))] H := by rw [hH]; exact hP
  have hS : va_S (x_new s.heap.size) s.heap H [] := by rw [hH]; exact va_S.rf
  clear hH
  obtain ⟨locs, hlo⟩ : ∃ z : List Loc, z = [] := ⟨_, rfl⟩
  refine x_herl hlo ?_
  have hS : va_S (x_new s.heap.size) s.heap H locs := by rw [hlo]; exact hS
  clear hlo
  unfold f_X9_fits at hf
  refine x_wn (fun WW hWW => ?_)
  have J := fun (l2 : Int32) => f_X9_fits_L.partial_correctness v9_1 v9_2 v9_3 l2 (fun (z : Nat × Int32 × Int32) (r : Int32) => r = R → ∀ (q : Nat) (l1 : Int32) (l3 : Int32), z = (q, l1, l3) → ((q = 0 → ∀ (H : Heap) (locs : List Loc) (ls : Array Slot), va_P (dC, dI) vwCl [(o9, .inr (9, x_O9 v9_0 v9_1 v9_2 v9_3 a9_4 a9_5 a9_6 a9_7 a9_8 a9_9 a9_10 a9_11 a9_12 v9_13 v9_14 v9_15 v9_16 v9_17 v9_18 a9_19 v9_20 v9_21 v9_22 a9_23 a9_24 a9_25 a9_26 a9_27 a9_28 a9_29 a9_30 a9_31 a9_32 a9_33 a9_34 v9_35 v9_36 a9_37 a9_38 a9_39 a9_40 a9_41 v9_42 a9_43 a9_44 a9_45 a9_46 a9_47 v9_48 v9_49 v9_50 v9_51 a9_52 a9_53 v9_54 v9_55 a9_56 a9_57 v9_58 a9_59 a9_60 a9_61))] H → va_S (x_new s.heap.size) s.heap H locs → lv_has ls 4 [(0, .ref o9), (1, .int l1), (2, .int l2), (3, .int l3)] → WW H locs 0 0 (F0 m 10 ls [])) ∧ (q = 1 → ∀ (H : Heap) (locs : List Loc) (ls : Array Slot), va_P (dC, dI) vwCl [(o9, .inr (9, x_O9 v9_0 v9_1 v9_2 v9_3 a9_4 a9_5 a9_6 a9_7 a9_8 a9_9 a9_10 a9_11 a9_12 v9_13 v9_14 v9_15 v9_16 v9_17 v9_18 a9_19 v9_20 v9_21 v9_22 a9_23 a9_24 a9_25 a9_26 a9_27 a9_28 a9_29 a9_30 a9_31 a9_32 a9_33 a9_34 v9_35 v9_36 a9_37 a9_38 a9_39 a9_40 a9_41 v9_42 a9_43 a9_44 a9_45 a9_46 a9_47 v9_48 v9_49 v9_50 v9_51 a9_52 a9_53 v9_54 v9_55 a9_56 a9_57 v9_58 a9_59 a9_60 a9_61))] H → va_S (x_new s.heap.size) s.heap H locs → lv_has ls 4 [(0, .ref o9), (1, .int l1), (2, .int l2), (3, .int l3)] → WW H locs 0 0 (F0 m 22 ls [])) ∧ (q = 2 → ∀ (H : Heap) (locs : List Loc) (ls : Array Slot), va_P (dC, dI) vwCl [(o9, .inr (9, x_O9 v9_0 v9_1 v9_2 v9_3 a9_4 a9_5 a9_6 a9_7 a9_8 a9_9 a9_10 a9_11 a9_12 v9_13 v9_14 v9_15 v9_16 v9_17 v9_18 a9_19 v9_20 v9_21 v9_22 a9_23 a9_24 a9_25 a9_26 a9_27 a9_28 a9_29 a9_30 a9_31 a9_32 a9_33 a9_34 v9_35 v9_36 a9_37 a9_38 a9_39 a9_40 a9_41 v9_42 a9_43 a9_44 a9_45 a9_46 a9_47 v9_48 v9_49 v9_50 v9_51 a9_52 a9_53 v9_54 v9_55 a9_56 a9_57 v9_58 a9_59 a9_60 a9_61))] H → va_S (x_new s.heap.size) s.heap H locs → lv_has ls 4 [(0, .ref o9), (1, .int l1), (2, .int l2), (3, .int l3)] → WW H locs 0 0 (F0 m 35 ls [])) ∧ (q = 3 → ∀ (H : Heap) (locs : List Loc) (ls : Array Slot), va_P (dC, dI) vwCl [(o9, .inr (9, x_O9 v9_0 v9_1 v9_2 v9_3 a9_4 a9_5 a9_6 a9_7 a9_8 a9_9 a9_10 a9_11 a9_12 v9_13 v9_14 v9_15 v9_16 v9_17 v9_18 a9_19 v9_20 v9_21 v9_22 a9_23 a9_24 a9_25 a9_26 a9_27 a9_28 a9_29 a9_30 a9_31 a9_32 a9_33 a9_34 v9_35 v9_36 a9_37 a9_38 a9_39 a9_40 a9_41 v9_42 a9_43 a9_44 a9_45 a9_46 a9_47 v9_48 v9_49 v9_50 v9_51 a9_52 a9_53 v9_54 v9_55 a9_56 a9_57 v9_58 a9_59 a9_60 a9_61))] H → va_S (x_new s.heap.size) s.heap H locs → lv_has ls 4 [(0, .ref o9), (1, .int l1), (2, .int l2), (3, .int l3)] → WW H locs 0 0 (F0 m 49 ls [])) ∧ (q = 4 → ∀ (H : Heap) (locs : List Loc) (ls : Array Slot), va_P (dC, dI) vwCl [(o9, .inr (9, x_O9 v9_0 v9_1 v9_2 v9_3 a9_4 a9_5 a9_6 a9_7 a9_8 a9_9 a9_10 a9_11 a9_12 v9_13 v9_14 v9_15 v9_16 v9_17 v9_18 a9_19 v9_20 v9_21 v9_22 a9_23 a9_24 a9_25 a9_26 a9_27 a9_28 a9_29 a9_30 a9_31 a9_32 a9_33 a9_34 v9_35 v9_36 a9_37 a9_38 a9_39 a9_40 a9_41 v9_42 a9_43 a9_44 a9_45 a9_46 a9_47 v9_48 v9_49 v9_50 v9_51 a9_52 a9_53 v9_54 v9_55 a9_56 a9_57 v9_58 a9_59 a9_60 a9_61))] H → va_S (x_new s.heap.size) s.heap H locs → lv_has ls 4 [(0, .ref o9), (1, .int l1), (2, .int l2), (3, .int l3)] → WW H locs 0 0 (F0 m 63 ls [])) ∧ (q = 5 → ∀ (H : Heap) (locs : List Loc) (ls : Array Slot), va_P (dC, dI) vwCl [(o9, .inr (9, x_O9 v9_0 v9_1 v9_2 v9_3 a9_4 a9_5 a9_6 a9_7 a9_8 a9_9 a9_10 a9_11 a9_12 v9_13 v9_14 v9_15 v9_16 v9_17 v9_18 a9_19 v9_20 v9_21 v9_22 a9_23 a9_24 a9_25 a9_26 a9_27 a9_28 a9_29 a9_30 a9_31 a9_32 a9_33 a9_34 v9_35 v9_36 a9_37 a9_38 a9_39 a9_40 a9_41 v9_42 a9_43 a9_44 a9_45 a9_46 a9_47 v9_48 v9_49 v9_50 v9_51 a9_52 a9_53 v9_54 v9_55 a9_56 a9_57 v9_58 a9_59 a9_60 a9_61))] H → va_S (x_new s.heap.size) s.heap H locs → lv_has ls 4 [(2, .int l2), (3, .int l3)] → WW H locs 0 0 (F0 m 91 ls [])) ∧ (q = 6 → ∀ (H : Heap) (locs : List Loc) (ls : Array Slot), va_P (dC, dI) vwCl [(o9, .inr (9, x_O9 v9_0 v9_1 v9_2 v9_3 a9_4 a9_5 a9_6 a9_7 a9_8 a9_9 a9_10 a9_11 a9_12 v9_13 v9_14 v9_15 v9_16 v9_17 v9_18 a9_19 v9_20 v9_21 v9_22 a9_23 a9_24 a9_25 a9_26 a9_27 a9_28 a9_29 a9_30 a9_31 a9_32 a9_33 a9_34 v9_35 v9_36 a9_37 a9_38 a9_39 a9_40 a9_41 v9_42 a9_43 a9_44 a9_45 a9_46 a9_47 v9_48 v9_49 v9_50 v9_51 a9_52 a9_53 v9_54 v9_55 a9_56 a9_57 v9_58 a9_59 a9_60 a9_61))] H → va_S (x_new s.heap.size) s.heap H locs → lv_has ls 4 [(0, .ref o9), (1, .int l1), (2, .int l2)] → WW H locs 0 0 (F0 m 228 ls [])) ∧ (q = 7 → ∀ (H : Heap) (locs : List Loc) (ls : Array Slot), va_P (dC, dI) vwCl [(o9, .inr (9, x_O9 v9_0 v9_1 v9_2 v9_3 a9_4 a9_5 a9_6 a9_7 a9_8 a9_9 a9_10 a9_11 a9_12 v9_13 v9_14 v9_15 v9_16 v9_17 v9_18 a9_19 v9_20 v9_21 v9_22 a9_23 a9_24 a9_25 a9_26 a9_27 a9_28 a9_29 a9_30 a9_31 a9_32 a9_33 a9_34 v9_35 v9_36 a9_37 a9_38 a9_39 a9_40 a9_41 v9_42 a9_43 a9_44 a9_45 a9_46 a9_47 v9_48 v9_49 v9_50 v9_51 a9_52 a9_53 v9_54 v9_55 a9_56 a9_57 v9_58 a9_59 a9_60 a9_61))] H → va_S (x_new s.heap.size) s.heap H locs → lv_has ls 4 [(0, .ref o9), (1, .int l1), (2, .int l2)] → WW H locs 0 0 (F0 m 240 ls [])) ∧ (q = 8 → ∀ (H : Heap) (locs : List Loc) (ls : Array Slot), va_P (dC, dI) vwCl [(o9, .inr (9, x_O9 v9_0 v9_1 v9_2 v9_3 a9_4 a9_5 a9_6 a9_7 a9_8 a9_9 a9_10 a9_11 a9_12 v9_13 v9_14 v9_15 v9_16 v9_17 v9_18 a9_19 v9_20 v9_21 v9_22 a9_23 a9_24 a9_25 a9_26 a9_27 a9_28 a9_29 a9_30 a9_31 a9_32 a9_33 a9_34 v9_35 v9_36 a9_37 a9_38 a9_39 a9_40 a9_41 v9_42 a9_43 a9_44 a9_45 a9_46 a9_47 v9_48 v9_49 v9_50 v9_51 a9_52 a9_53 v9_54 v9_55 a9_56 a9_57 v9_58 a9_59 a9_60 a9_61))] H → va_S (x_new s.heap.size) s.heap H locs → lv_has ls 4 [(0, .ref o9), (1, .int l1), (2, .int l2)] → WW H locs 0 0 (F0 m 261 ls [])) ∧ (q = 9 → ∀ (H : Heap) (locs : List Loc) (ls : Array Slot), va_P (dC, dI) vwCl [(o9, .inr (9, x_O9 v9_0 v9_1 v9_2 v9_3 a9_4 a9_5 a9_6 a9_7 a9_8 a9_9 a9_10 a9_11 a9_12 v9_13 v9_14 v9_15 v9_16 v9_17 v9_18 a9_19 v9_20 v9_21 v9_22 a9_23 a9_24 a9_25 a9_26 a9_27 a9_28 a9_29 a9_30 a9_31 a9_32 a9_33 a9_34 v9_35 v9_36 a9_37 a9_38 a9_39 a9_40 a9_41 v9_42 a9_43 a9_44 a9_45 a9_46 a9_47 v9_48 v9_49 v9_50 v9_51 a9_52 a9_53 v9_54 v9_55 a9_56 a9_57 v9_58 a9_59 a9_60 a9_61))] H → va_S (x_new s.heap.size) s.heap H locs → lv_has ls 4 [(2, .int l2)] → WW H locs 0 0 (F0 m 275 ls [])) ∧ (q = 10 → ∀ (H : Heap) (locs : List Loc) (ls : Array Slot), va_P (dC, dI) vwCl [(o9, .inr (9, x_O9 v9_0 v9_1 v9_2 v9_3 a9_4 a9_5 a9_6 a9_7 a9_8 a9_9 a9_10 a9_11 a9_12 v9_13 v9_14 v9_15 v9_16 v9_17 v9_18 a9_19 v9_20 v9_21 v9_22 a9_23 a9_24 a9_25 a9_26 a9_27 a9_28 a9_29 a9_30 a9_31 a9_32 a9_33 a9_34 v9_35 v9_36 a9_37 a9_38 a9_39 a9_40 a9_41 v9_42 a9_43 a9_44 a9_45 a9_46 a9_47 v9_48 v9_49 v9_50 v9_51 a9_52 a9_53 v9_54 v9_55 a9_56 a9_57 v9_58 a9_59 a9_60 a9_61))] H → va_S (x_new s.heap.size) s.heap H locs → lv_has ls 4 [(0, .ref o9), (1, .int l1), (2, .int l2)] → WW H locs 0 0 (F0 m 317 ls [])) ∧ (q = 11 → ∀ (H : Heap) (locs : List Loc) (ls : Array Slot), va_P (dC, dI) vwCl [(o9, .inr (9, x_O9 v9_0 v9_1 v9_2 v9_3 a9_4 a9_5 a9_6 a9_7 a9_8 a9_9 a9_10 a9_11 a9_12 v9_13 v9_14 v9_15 v9_16 v9_17 v9_18 a9_19 v9_20 v9_21 v9_22 a9_23 a9_24 a9_25 a9_26 a9_27 a9_28 a9_29 a9_30 a9_31 a9_32 a9_33 a9_34 v9_35 v9_36 a9_37 a9_38 a9_39 a9_40 a9_41 v9_42 a9_43 a9_44 a9_45 a9_46 a9_47 v9_48 v9_49 v9_50 v9_51 a9_52 a9_53 v9_54 v9_55 a9_56 a9_57 v9_58 a9_59 a9_60 a9_61))] H → va_S (x_new s.heap.size) s.heap H locs → lv_has ls 4 [(0, .ref o9), (1, .int l1), (2, .int l2)] → WW H locs 0 0 (F0 m 349 ls [])) ∧ (q = 12 → ∀ (H : Heap) (locs : List Loc) (ls : Array Slot), va_P (dC, dI) vwCl [(o9, .inr (9, x_O9 v9_0 v9_1 v9_2 v9_3 a9_4 a9_5 a9_6 a9_7 a9_8 a9_9 a9_10 a9_11 a9_12 v9_13 v9_14 v9_15 v9_16 v9_17 v9_18 a9_19 v9_20 v9_21 v9_22 a9_23 a9_24 a9_25 a9_26 a9_27 a9_28 a9_29 a9_30 a9_31 a9_32 a9_33 a9_34 v9_35 v9_36 a9_37 a9_38 a9_39 a9_40 a9_41 v9_42 a9_43 a9_44 a9_45 a9_46 a9_47 v9_48 v9_49 v9_50 v9_51 a9_52 a9_53 v9_54 v9_55 a9_56 a9_57 v9_58 a9_59 a9_60 a9_61))] H → va_S (x_new s.heap.size) s.heap H locs → lv_has ls 4 [(0, .ref o9), (2, .int l2)] → WW H locs 0 0 (F0 m 438 ls [])))) (by
    intro F ih z r hf hr q l1 l3 hz
    subst hz
    obtain rfl := hr
    refine ⟨?_, ?_, ?_, ?_, ?_, ?_, ?_, ?_, ?_, ?_, ?_, ?_, ?_⟩
    · intro hq H locs ls hP hS hl
      subst hq
      refine (hWW _ _ _ _ _).mp ?_
      replace hf := x_ip rfl hf
      refine lv_iload_n hx hb dX9_fits_10 rfl (lv_at hl 1 rfl) ?_
      refine lv_bipush (v := 46) hx hb dX9_fits_11 (by decide) ?_
      refine lv_icmp_lt (tgt := 22) hx hb dX9_fits_13 (by decide) (fun c_1 => ?_) (fun c_1 => ?_)
      · replace hf := x_ip c_1 hf
        exact (hWW _ _ _ _ _).mpr ((ih (1, l1, l3) _ hf rfl _ _ _ rfl).2.1 rfl H locs ls hP hS (lv_sub hl [0, 1, 2, 3] rfl))
      · replace hf := x_in c_1 hf
        refine lv_iload_n hx hb dX9_fits_16 rfl (lv_at hl 1 rfl) ?_
        refine lv_bipush (v := 53) hx hb dX9_fits_17 (by decide) ?_
        refine lv_icmp_le (tgt := 91) hx hb dX9_fits_19 (by decide) (fun c_2 => ?_) (fun c_2 => ?_)
        · replace hf := x_ip c_2 hf
          exact (hWW _ _ _ _ _).mpr ((ih (5, 0, l3) _ hf rfl _ _ _ rfl).2.2.2.2.2.1 rfl H locs ls hP hS (lv_sub hl [2, 3] rfl))
        · replace hf := x_in c_2 hf
          exact (hWW _ _ _ _ _).mpr ((ih (1, l1, l3) _ hf rfl _ _ _ rfl).2.1 rfl H locs ls hP hS (lv_sub hl [0, 1, 2, 3] rfl))
    · intro hq H locs ls hP hS hl
      subst hq
      refine (hWW _ _ _ _ _).mp ?_
      replace hf := x_ip rfl (x_in (by decide) hf)
      refine lv_iload_n hx hb dX9_fits_22 rfl (lv_at hl 1 rfl) ?_
      refine lv_bipush (v := 79) hx hb dX9_fits_23 (by decide) ?_
      refine lv_icmp_lt (tgt := 35) hx hb dX9_fits_25 (by decide) (fun c_3 => ?_) (fun c_3 => ?_)
      · replace hf := x_ip c_3 hf
        exact (hWW _ _ _ _ _).mpr ((ih (2, l1, l3) _ hf rfl _ _ _ rfl).2.2.1 rfl H locs ls hP hS (lv_sub hl [0, 1, 2, 3] rfl))
      · replace hf := x_in c_3 hf
        refine lv_iload_n hx hb dX9_fits_28 rfl (lv_at hl 1 rfl) ?_
        refine lv_sipush (v := 131) hx hb dX9_fits_29 (by decide) ?_
        refine lv_icmp_le (tgt := 91) hx hb dX9_fits_32 (by decide) (fun c_4 => ?_) (fun c_4 => ?_)
        · replace hf := x_ip c_4 hf
          exact (hWW _ _ _ _ _).mpr ((ih (5, 0, l3) _ hf rfl _ _ _ rfl).2.2.2.2.2.1 rfl H locs ls hP hS (lv_sub hl [2, 3] rfl))
        · replace hf := x_in c_4 hf
          exact (hWW _ _ _ _ _).mpr ((ih (2, l1, l3) _ hf rfl _ _ _ rfl).2.2.1 rfl H locs ls hP hS (lv_sub hl [0, 1, 2, 3] rfl))
    · intro hq H locs ls hP hS hl
      subst hq
      refine (hWW _ _ _ _ _).mp ?_
      replace hf := x_ip rfl (x_in (by decide) (x_in (by decide) hf))
      refine lv_iload_n hx hb dX9_fits_35 rfl (lv_at hl 1 rfl) ?_
      refine lv_sipush (v := 133) hx hb dX9_fits_36 (by decide) ?_
      refine lv_icmp_lt (tgt := 49) hx hb dX9_fits_39 (by decide) (fun c_5 => ?_) (fun c_5 => ?_)
      · replace hf := x_ip c_5 hf
        exact (hWW _ _ _ _ _).mpr ((ih (3, l1, l3) _ hf rfl _ _ _ rfl).2.2.2.1 rfl H locs ls hP hS (lv_sub hl [0, 1, 2, 3] rfl))
      · replace hf := x_in c_5 hf
        refine lv_iload_n hx hb dX9_fits_42 rfl (lv_at hl 1 rfl) ?_
        refine lv_sipush (v := 152) hx hb dX9_fits_43 (by decide) ?_
        refine lv_icmp_le (tgt := 91) hx hb dX9_fits_46 (by decide) (fun c_6 => ?_) (fun c_6 => ?_)
        · replace hf := x_ip c_6 hf
          exact (hWW _ _ _ _ _).mpr ((ih (5, 0, l3) _ hf rfl _ _ _ rfl).2.2.2.2.2.1 rfl H locs ls hP hS (lv_sub hl [2, 3] rfl))
        · replace hf := x_in c_6 hf
          exact (hWW _ _ _ _ _).mpr ((ih (3, l1, l3) _ hf rfl _ _ _ rfl).2.2.2.1 rfl H locs ls hP hS (lv_sub hl [0, 1, 2, 3] rfl))
    · intro hq H locs ls hP hS hl
      subst hq
      refine (hWW _ _ _ _ _).mp ?_
      replace hf := x_ip rfl (x_in (by decide) (x_in (by decide) (x_in (by decide) hf)))
      refine lv_iload_n hx hb dX9_fits_49 rfl (lv_at hl 1 rfl) ?_
      refine lv_sipush (v := 170) hx hb dX9_fits_50 (by decide) ?_
      refine lv_icmp_lt (tgt := 63) hx hb dX9_fits_53 (by decide) (fun c_7 => ?_) (fun c_7 => ?_)
      · replace hf := x_ip c_7 hf
        exact (hWW _ _ _ _ _).mpr ((ih (4, l1, l3) _ hf rfl _ _ _ rfl).2.2.2.2.1 rfl H locs ls hP hS (lv_sub hl [0, 1, 2, 3] rfl))
      · replace hf := x_in c_7 hf
        refine lv_iload_n hx hb dX9_fits_56 rfl (lv_at hl 1 rfl) ?_
        refine lv_sipush (v := 177) hx hb dX9_fits_57 (by decide) ?_
        refine lv_icmp_le (tgt := 91) hx hb dX9_fits_60 (by decide) (fun c_8 => ?_) (fun c_8 => ?_)
        · replace hf := x_ip c_8 hf
          exact (hWW _ _ _ _ _).mpr ((ih (5, 0, l3) _ hf rfl _ _ _ rfl).2.2.2.2.2.1 rfl H locs ls hP hS (lv_sub hl [2, 3] rfl))
        · replace hf := x_in c_8 hf
          exact (hWW _ _ _ _ _).mpr ((ih (4, l1, l3) _ hf rfl _ _ _ rfl).2.2.2.2.1 rfl H locs ls hP hS (lv_sub hl [0, 1, 2, 3] rfl))
    · intro hq H locs ls hP hS hl
      subst hq
      refine (hWW _ _ _ _ _).mp ?_
      replace hf := x_ip rfl (x_in (by decide) (x_in (by decide) (x_in (by decide) (x_in (by decide) hf))))
      refine lv_iload_n hx hb dX9_fits_63 rfl (lv_at hl 1 rfl) ?_
      refine lv_sipush (v := 190) hx hb dX9_fits_64 (by decide) ?_
      refine lv_icmp_eq (tgt := 91) hx hb dX9_fits_67 (by decide) (fun c_9 => ?_) (fun c_9 => ?_)
      · replace hf := x_ip c_9 hf
        exact (hWW _ _ _ _ _).mpr ((ih (5, 0, l3) _ hf rfl _ _ _ rfl).2.2.2.2.2.1 rfl H locs ls hP hS (lv_sub hl [2, 3] rfl))
      · replace hf := x_in c_9 hf
        refine lv_iload_n hx hb dX9_fits_70 rfl (lv_at hl 1 rfl) ?_
        refine lv_sipush (v := 191) hx hb dX9_fits_71 (by decide) ?_
        refine lv_icmp_eq (tgt := 91) hx hb dX9_fits_74 (by decide) (fun c_10 => ?_) (fun c_10 => ?_)
        · replace hf := x_ip c_10 hf
          exact (hWW _ _ _ _ _).mpr ((ih (5, 0, l3) _ hf rfl _ _ _ rfl).2.2.2.2.2.1 rfl H locs ls hP hS (lv_sub hl [2, 3] rfl))
        · replace hf := x_in c_10 hf
          refine lv_iload_n hx hb dX9_fits_77 rfl (lv_at hl 1 rfl) ?_
          refine lv_sipush (v := 194) hx hb dX9_fits_78 (by decide) ?_
          refine lv_icmp_eq (tgt := 91) hx hb dX9_fits_81 (by decide) (fun c_11 => ?_) (fun c_11 => ?_)
          · replace hf := x_ip c_11 hf
            exact (hWW _ _ _ _ _).mpr ((ih (5, 0, l3) _ hf rfl _ _ _ rfl).2.2.2.2.2.1 rfl H locs ls hP hS (lv_sub hl [2, 3] rfl))
          · replace hf := x_in c_11 hf
            refine lv_iload_n hx hb dX9_fits_84 rfl (lv_at hl 1 rfl) ?_
            refine lv_sipush (v := 195) hx hb dX9_fits_85 (by decide) ?_
            refine lv_icmp_ne (tgt := 105) hx hb dX9_fits_88 (by decide) (fun c_12 => ?_) (fun c_12 => ?_)
            · replace hf := x_in c_12 hf
              refine lv_iload_n hx hb dX9_fits_105 rfl (lv_at hl 1 rfl) ?_
              refine lv_sipush (v := 132) hx hb dX9_fits_106 (by decide) ?_
              refine lv_icmp_ne (tgt := 122) hx hb dX9_fits_109 (by decide) (fun c_13 => ?_) (fun c_13 => ?_)
              · replace hf := x_in c_13 hf
                refine lv_iload_n hx hb dX9_fits_122 rfl (lv_at hl 1 rfl) ?_
                refine lv_sipush (v := 197) hx hb dX9_fits_123 (by decide) ?_
                refine lv_icmp_ne (tgt := 156) hx hb dX9_fits_126 (by decide) (fun c_14 => ?_) (fun c_14 => ?_)
                · replace hf := x_in c_14 hf
                  refine lv_iload_n hx hb dX9_fits_156 rfl (lv_at hl 3 rfl) ?_
                  refine lv_if_eq (tgt := 162) hx hb dX9_fits_157 (by decide) (fun c_15 => ?_) (fun c_15 => ?_)
                  · replace hf := x_ip c_15 hf
                    refine lv_iload_n hx hb dX9_fits_162 rfl (lv_at hl 1 rfl) ?_
                    refine lv_bipush (v := 16) hx hb dX9_fits_163 (by decide) ?_
                    refine lv_icmp_eq (tgt := 174) hx hb dX9_fits_165 (by decide) (fun c_16 => ?_) (fun c_16 => ?_)
                    · replace hf := x_ip c_16 hf
                      refine lv_iconst (v := 1) hx hb dX9_fits_174 (by decide) ?_
                      obtain rfl := Option.some.inj hf
                      exact W.zret (ty := .boolean) hx hb hr rfl (fun t ht hW => ⟨⟨_, (), rfl, ⟨rfl, rfl⟩, trivial⟩, hS.F ht⟩) hS.2.2 dX9_fits_175
                    · replace hf := x_in c_16 hf
                      refine lv_iload_n hx hb dX9_fits_168 rfl (lv_at hl 1 rfl) ?_
                      refine lv_bipush (v := 17) hx hb dX9_fits_169 (by decide) ?_
                      refine lv_icmp_ne (tgt := 176) hx hb dX9_fits_171 (by decide) (fun c_17 => ?_) (fun c_17 => ?_)
                      · replace hf := x_in c_17 hf
                        refine lv_iload_n hx hb dX9_fits_176 rfl (lv_at hl 1 rfl) ?_
                        refine lv_bipush (v := 18) hx hb dX9_fits_177 (by decide) ?_
                        refine lv_icmp_ne (tgt := 204) hx hb dX9_fits_179 (by decide) (fun c_18 => ?_) (fun c_18 => ?_)
                        · replace hf := x_in c_18 hf
                          refine lv_iload_n hx hb dX9_fits_204 rfl (lv_at hl 1 rfl) ?_
                          refine lv_bipush (v := 20) hx hb dX9_fits_205 (by decide) ?_
                          refine lv_icmp_ne (tgt := 216) hx hb dX9_fits_207 (by decide) (fun c_19 => ?_) (fun c_19 => ?_)
                          · replace hf := x_in c_19 hf
                            refine lv_iload_n hx hb dX9_fits_216 rfl (lv_at hl 1 rfl) ?_
                            refine lv_bipush (v := 21) hx hb dX9_fits_217 (by decide) ?_
                            refine lv_icmp_lt (tgt := 228) hx hb dX9_fits_219 (by decide) (fun c_20 => ?_) (fun c_20 => ?_)
                            · replace hf := x_ip c_20 hf
                              exact (hWW _ _ _ _ _).mpr ((ih (6, l1, 0) _ hf rfl _ _ _ rfl).2.2.2.2.2.2.1 rfl H locs ls hP hS (lv_sub hl [0, 1, 2] rfl))
                            · replace hf := x_in c_20 hf
                              refine lv_iload_n hx hb dX9_fits_222 rfl (lv_at hl 1 rfl) ?_
                              refine lv_bipush (v := 25) hx hb dX9_fits_223 (by decide) ?_
                              refine lv_icmp_le (tgt := 275) hx hb dX9_fits_225 (by decide) (fun c_21 => ?_) (fun c_21 => ?_)
                              · replace hf := x_ip c_21 hf
                                exact (hWW _ _ _ _ _).mpr ((ih (9, 0, 0) _ hf rfl _ _ _ rfl).2.2.2.2.2.2.2.2.2.1 rfl H locs ls hP hS (lv_sub hl [2] rfl))
                              · replace hf := x_in c_21 hf
                                exact (hWW _ _ _ _ _).mpr ((ih (6, l1, 0) _ hf rfl _ _ _ rfl).2.2.2.2.2.2.1 rfl H locs ls hP hS (lv_sub hl [0, 1, 2] rfl))
                          · replace hf := x_ip c_19 hf
                            refine lv_aload_n hx hb dX9_fits_210 rfl (lv_at hl 0 rfl) ?_
                            refine lv_iload_n hx hb dX9_fits_211 rfl (lv_at hl 2 rfl) ?_
                            obtain ⟨r_22, h_22, hf⟩ := x_bi hf
                            have hPc := hP.sub (ws' := [(o9, .inr (9, x_O9 v9_0 v9_1 v9_2 v9_3 a9_4 a9_5 a9_6 a9_7 a9_8 a9_9 a9_10 a9_11 a9_12 v9_13 v9_14 v9_15 v9_16 v9_17 v9_18 a9_19 v9_20 v9_21 v9_22 a9_23 a9_24 a9_25 a9_26 a9_27 a9_28 a9_29 a9_30 a9_31 a9_32 a9_33 a9_34 v9_35 v9_36 a9_37 a9_38 a9_39 a9_40 a9_41 v9_42 a9_43 a9_44 a9_45 a9_46 a9_47 v9_48 v9_49 v9_50 v9_51 a9_52 a9_53 v9_54 v9_55 a9_56 a9_57 v9_58 a9_59 a9_60 a9_61))]) [0] rfl
                            refine va_calli (va_runV (As := [.int l2]) (rest := []) ⟨hx, hb, hml, hown, hts⟩ (c_X9_isWide l dC dI cyI cyZ cyJ H.size o9 v9_0 v9_1 v9_2 v9_3 a9_4 a9_5 a9_6 a9_7 a9_8 a9_9 a9_10 a9_11 a9_12 v9_13 v9_14 v9_15 v9_16 v9_17 v9_18 a9_19 v9_20 v9_21 v9_22 a9_23 a9_24 a9_25 a9_26 a9_27 a9_28 a9_29 a9_30 a9_31 a9_32 a9_33 a9_34 v9_35 v9_36 a9_37 a9_38 a9_39 a9_40 a9_41 v9_42 a9_43 a9_44 a9_45 a9_46 a9_47 v9_48 v9_49 v9_50 v9_51 a9_52 a9_53 v9_54 v9_55 a9_56 a9_57 v9_58 a9_59 a9_60 a9_61 l2 r_22 h_22) (cwV 1 hts gX9_fits_X9_isWide rfl rfl rfl (by decide +kernel) ⟨Nat.le_of_ble_eq_true rfl, Nat.le_of_ble_eq_true rfl⟩) (x_pV hN hK hPc (ci := 9) (q0 := 0) rfl rfl) rfl rfl hl.1 rfl (lv_room (Nat.le_of_ble_eq_true rfl)) dX9_fits_212 ⟨Nat.le_of_ble_eq_true rfl, Nat.le_of_ble_eq_true rfl⟩) hS x_nA (x_nf hA hS) (fun q_22 u t H1 locs ht hvm hw hB hz1 hk1 hS => ?_)
                            have hP := x_kp hP hk1
                            clear ht hvm hB hz1 hk1 t u hPc
                            generalize H1 = H at hP hS ⊢
                            obtain ⟨hw, b_22⟩ := hw
                            obtain rfl := hw.symm
                            obtain rfl := Option.some.inj hf
                            exact W.zret (ty := .boolean) hx hb hr b_22 (fun t ht hW => ⟨⟨_, (), rfl, ⟨rfl, b_22⟩, trivial⟩, hS.F ht⟩) hS.2.2 dX9_fits_215
                        · replace hf := x_ip c_18 hf
                          refine lv_aload_n hx hb dX9_fits_182 rfl (lv_at hl 0 rfl) ?_
                          refine lv_iload_n hx hb dX9_fits_183 rfl (lv_at hl 2 rfl) ?_
                          obtain ⟨r_23, h_23, hf⟩ := x_bi hf
                          have hPc := hP.sub (ws' := [(o9, .inr (9, x_O9 v9_0 v9_1 v9_2 v9_3 a9_4 a9_5 a9_6 a9_7 a9_8 a9_9 a9_10 a9_11 a9_12 v9_13 v9_14 v9_15 v9_16 v9_17 v9_18 a9_19 v9_20 v9_21 v9_22 a9_23 a9_24 a9_25 a9_26 a9_27 a9_28 a9_29 a9_30 a9_31 a9_32 a9_33 a9_34 v9_35 v9_36 a9_37 a9_38 a9_39 a9_40 a9_41 v9_42 a9_43 a9_44 a9_45 a9_46 a9_47 v9_48 v9_49 v9_50 v9_51 a9_52 a9_53 v9_54 v9_55 a9_56 a9_57 v9_58 a9_59 a9_60 a9_61))]) [0] rfl
                          refine va_calli (va_runV (As := [.int l2]) (rest := []) ⟨hx, hb, hml, hown, hts⟩ (c_X9_isType l dC dI cyI cyZ cyJ H.size o9 v9_0 v9_1 v9_2 v9_3 a9_4 a9_5 a9_6 a9_7 a9_8 a9_9 a9_10 a9_11 a9_12 v9_13 v9_14 v9_15 v9_16 v9_17 v9_18 a9_19 v9_20 v9_21 v9_22 a9_23 a9_24 a9_25 a9_26 a9_27 a9_28 a9_29 a9_30 a9_31 a9_32 a9_33 a9_34 v9_35 v9_36 a9_37 a9_38 a9_39 a9_40 a9_41 v9_42 a9_43 a9_44 a9_45 a9_46 a9_47 v9_48 v9_49 v9_50 v9_51 a9_52 a9_53 v9_54 v9_55 a9_56 a9_57 v9_58 a9_59 a9_60 a9_61 l2 r_23 h_23) (cwV 1 hts gX9_fits_X9_isType rfl rfl rfl (by decide +kernel) ⟨Nat.le_of_ble_eq_true rfl, Nat.le_of_ble_eq_true rfl⟩) (x_pV hN hK hPc (ci := 9) (q0 := 0) rfl rfl) rfl rfl hl.1 rfl (lv_room (Nat.le_of_ble_eq_true rfl)) dX9_fits_184 ⟨Nat.le_of_ble_eq_true rfl, Nat.le_of_ble_eq_true rfl⟩) hS x_nA (x_nf hA hS) (fun q_23 u t H1 locs ht hvm hw hB hz1 hk1 hS => ?_)
                          have hP := x_kp hP hk1
                          clear ht hvm hB hz1 hk1 t u hPc
                          generalize H1 = H at hP hS ⊢
                          obtain ⟨hw, b_23⟩ := hw
                          obtain rfl := hw.symm
                          refine lv_if_eq (tgt := 202) hx hb dX9_fits_187 (by decide) (fun c_24 => ?_) (fun c_24 => ?_)
                          · replace hf := x_ip c_24 hf
                            refine lv_iconst (v := 0) hx hb dX9_fits_202 (by decide) ?_
                            obtain rfl := Option.some.inj hf
                            exact W.zret (ty := .boolean) hx hb hr rfl (fun t ht hW => ⟨⟨_, (), rfl, ⟨rfl, rfl⟩, trivial⟩, hS.F ht⟩) hS.2.2 dX9_fits_203
                          · replace hf := x_in c_24 hf
                            refine lv_aload_n hx hb dX9_fits_190 rfl (lv_at hl 0 rfl) ?_
                            refine lv_iload_n hx hb dX9_fits_191 rfl (lv_at hl 2 rfl) ?_
                            obtain ⟨r_25, h_25, hf⟩ := x_bi hf
                            have hPc := hP.sub (ws' := [(o9, .inr (9, x_O9 v9_0 v9_1 v9_2 v9_3 a9_4 a9_5 a9_6 a9_7 a9_8 a9_9 a9_10 a9_11 a9_12 v9_13 v9_14 v9_15 v9_16 v9_17 v9_18 a9_19 v9_20 v9_21 v9_22 a9_23 a9_24 a9_25 a9_26 a9_27 a9_28 a9_29 a9_30 a9_31 a9_32 a9_33 a9_34 v9_35 v9_36 a9_37 a9_38 a9_39 a9_40 a9_41 v9_42 a9_43 a9_44 a9_45 a9_46 a9_47 v9_48 v9_49 v9_50 v9_51 a9_52 a9_53 v9_54 v9_55 a9_56 a9_57 v9_58 a9_59 a9_60 a9_61))]) [0] rfl
                            refine va_calli (va_runV (As := [.int l2]) (rest := []) ⟨hx, hb, hml, hown, hts⟩ (c_X9_isWide l dC dI cyI cyZ cyJ H.size o9 v9_0 v9_1 v9_2 v9_3 a9_4 a9_5 a9_6 a9_7 a9_8 a9_9 a9_10 a9_11 a9_12 v9_13 v9_14 v9_15 v9_16 v9_17 v9_18 a9_19 v9_20 v9_21 v9_22 a9_23 a9_24 a9_25 a9_26 a9_27 a9_28 a9_29 a9_30 a9_31 a9_32 a9_33 a9_34 v9_35 v9_36 a9_37 a9_38 a9_39 a9_40 a9_41 v9_42 a9_43 a9_44 a9_45 a9_46 a9_47 v9_48 v9_49 v9_50 v9_51 a9_52 a9_53 v9_54 v9_55 a9_56 a9_57 v9_58 a9_59 a9_60 a9_61 l2 r_25 h_25) (cwV 1 hts gX9_fits_X9_isWide rfl rfl rfl (by decide +kernel) ⟨Nat.le_of_ble_eq_true rfl, Nat.le_of_ble_eq_true rfl⟩) (x_pV hN hK hPc (ci := 9) (q0 := 0) rfl rfl) rfl rfl hl.1 rfl (lv_room (Nat.le_of_ble_eq_true rfl)) dX9_fits_192 ⟨Nat.le_of_ble_eq_true rfl, Nat.le_of_ble_eq_true rfl⟩) hS x_nA (x_nf hA hS) (fun q_25 u t H1 locs ht hvm hw hB hz1 hk1 hS => ?_)
                            have hP := x_kp hP hk1
                            clear ht hvm hB hz1 hk1 t u hPc
                            generalize H1 = H at hP hS ⊢
                            obtain ⟨hw, b_25⟩ := hw
                            obtain rfl := hw.symm
                            refine lv_if_ne (tgt := 202) hx hb dX9_fits_195 (by decide) (fun c_26 => ?_) (fun c_26 => ?_)
                            · replace hf := x_in c_26 hf
                              refine lv_iconst (v := 0) hx hb dX9_fits_202 (by decide) ?_
                              obtain rfl := Option.some.inj hf
                              exact W.zret (ty := .boolean) hx hb hr rfl (fun t ht hW => ⟨⟨_, (), rfl, ⟨rfl, rfl⟩, trivial⟩, hS.F ht⟩) hS.2.2 dX9_fits_203
                            · replace hf := x_ip c_26 hf
                              refine lv_iconst (v := 1) hx hb dX9_fits_198 (by decide) ?_
                              refine lv_goto (tgt := 203) hx hb dX9_fits_199 (by decide) ?_
                              obtain rfl := Option.some.inj hf
                              exact W.zret (ty := .boolean) hx hb hr rfl (fun t ht hW => ⟨⟨_, (), rfl, ⟨rfl, rfl⟩, trivial⟩, hS.F ht⟩) hS.2.2 dX9_fits_203
                      · replace hf := x_ip c_17 hf
                        refine lv_iconst (v := 1) hx hb dX9_fits_174 (by decide) ?_
                        obtain rfl := Option.some.inj hf
                        exact W.zret (ty := .boolean) hx hb hr rfl (fun t ht hW => ⟨⟨_, (), rfl, ⟨rfl, rfl⟩, trivial⟩, hS.F ht⟩) hS.2.2 dX9_fits_175
                  · replace hf := x_in c_15 hf
                    refine lv_iconst (v := 0) hx hb dX9_fits_160 (by decide) ?_
                    obtain rfl := Option.some.inj hf
                    exact W.zret (ty := .boolean) hx hb hr rfl (fun t ht hW => ⟨⟨_, (), rfl, ⟨rfl, rfl⟩, trivial⟩, hS.F ht⟩) hS.2.2 dX9_fits_161
                · replace hf := x_ip c_14 hf
                  refine lv_aload_n hx hb dX9_fits_129 rfl (lv_at hl 0 rfl) ?_
                  refine lv_iload_n hx hb dX9_fits_130 rfl (lv_at hl 2 rfl) ?_
                  obtain ⟨r_27, h_27, hf⟩ := x_bi hf
                  have hPc := hP.sub (ws' := [(o9, .inr (9, x_O9 v9_0 v9_1 v9_2 v9_3 a9_4 a9_5 a9_6 a9_7 a9_8 a9_9 a9_10 a9_11 a9_12 v9_13 v9_14 v9_15 v9_16 v9_17 v9_18 a9_19 v9_20 v9_21 v9_22 a9_23 a9_24 a9_25 a9_26 a9_27 a9_28 a9_29 a9_30 a9_31 a9_32 a9_33 a9_34 v9_35 v9_36 a9_37 a9_38 a9_39 a9_40 a9_41 v9_42 a9_43 a9_44 a9_45 a9_46 a9_47 v9_48 v9_49 v9_50 v9_51 a9_52 a9_53 v9_54 v9_55 a9_56 a9_57 v9_58 a9_59 a9_60 a9_61))]) [0] rfl
                  refine va_calli (va_runV (As := [.int l2]) (rest := []) ⟨hx, hb, hml, hown, hts⟩ (c_X9_isType l dC dI cyI cyZ cyJ H.size o9 v9_0 v9_1 v9_2 v9_3 a9_4 a9_5 a9_6 a9_7 a9_8 a9_9 a9_10 a9_11 a9_12 v9_13 v9_14 v9_15 v9_16 v9_17 v9_18 a9_19 v9_20 v9_21 v9_22 a9_23 a9_24 a9_25 a9_26 a9_27 a9_28 a9_29 a9_30 a9_31 a9_32 a9_33 a9_34 v9_35 v9_36 a9_37 a9_38 a9_39 a9_40 a9_41 v9_42 a9_43 a9_44 a9_45 a9_46 a9_47 v9_48 v9_49 v9_50 v9_51 a9_52 a9_53 v9_54 v9_55 a9_56 a9_57 v9_58 a9_59 a9_60 a9_61 l2 r_27 h_27) (cwV 1 hts gX9_fits_X9_isType rfl rfl rfl (by decide +kernel) ⟨Nat.le_of_ble_eq_true rfl, Nat.le_of_ble_eq_true rfl⟩) (x_pV hN hK hPc (ci := 9) (q0 := 0) rfl rfl) rfl rfl hl.1 rfl (lv_room (Nat.le_of_ble_eq_true rfl)) dX9_fits_131 ⟨Nat.le_of_ble_eq_true rfl, Nat.le_of_ble_eq_true rfl⟩) hS x_nA (x_nf hA hS) (fun q_27 u t H1 locs ht hvm hw hB hz1 hk1 hS => ?_)
                  have hP := x_kp hP hk1
                  clear ht hvm hB hz1 hk1 t u hPc
                  generalize H1 = H at hP hS ⊢
                  obtain ⟨hw, b_27⟩ := hw
                  obtain rfl := hw.symm
                  refine lv_if_eq (tgt := 154) hx hb dX9_fits_134 (by decide) (fun c_28 => ?_) (fun c_28 => ?_)
                  · replace hf := x_ip c_28 hf
                    refine lv_iconst (v := 0) hx hb dX9_fits_154 (by decide) ?_
                    obtain rfl := Option.some.inj hf
                    exact W.zret (ty := .boolean) hx hb hr rfl (fun t ht hW => ⟨⟨_, (), rfl, ⟨rfl, rfl⟩, trivial⟩, hS.F ht⟩) hS.2.2 dX9_fits_155
                  · replace hf := x_in c_28 hf
                    refine lv_iload_n hx hb dX9_fits_137 rfl (lv_at hl 3 rfl) ?_
                    refine lv_iconst (v := 1) hx hb dX9_fits_138 (by decide) ?_
                    refine lv_icmp_lt (tgt := 154) hx hb dX9_fits_139 (by decide) (fun c_29 => ?_) (fun c_29 => ?_)
                    · replace hf := x_ip c_29 hf
                      refine lv_iconst (v := 0) hx hb dX9_fits_154 (by decide) ?_
                      obtain rfl := Option.some.inj hf
                      exact W.zret (ty := .boolean) hx hb hr rfl (fun t ht hW => ⟨⟨_, (), rfl, ⟨rfl, rfl⟩, trivial⟩, hS.F ht⟩) hS.2.2 dX9_fits_155
                    · replace hf := x_in c_29 hf
                      refine lv_iload_n hx hb dX9_fits_142 rfl (lv_at hl 3 rfl) ?_
                      refine lv_iload_n hx hb dX9_fits_143 rfl (lv_at hl 2 rfl) ?_
                      refine lv_bipush (v := 16) hx hb dX9_fits_144 (by decide) ?_
                      refine lv_ishr hx hb dX9_fits_146 ?_
                      refine lv_icmp_gt (tgt := 154) hx hb dX9_fits_147 (by decide) (fun c_30 => ?_) (fun c_30 => ?_)
                      · replace hf := x_ip c_30 hf
                        refine lv_iconst (v := 0) hx hb dX9_fits_154 (by decide) ?_
                        obtain rfl := Option.some.inj hf
                        exact W.zret (ty := .boolean) hx hb hr rfl (fun t ht hW => ⟨⟨_, (), rfl, ⟨rfl, rfl⟩, trivial⟩, hS.F ht⟩) hS.2.2 dX9_fits_155
                      · replace hf := x_in c_30 hf
                        refine lv_iconst (v := 1) hx hb dX9_fits_150 (by decide) ?_
                        refine lv_goto (tgt := 155) hx hb dX9_fits_151 (by decide) ?_
                        obtain rfl := Option.some.inj hf
                        exact W.zret (ty := .boolean) hx hb hr rfl (fun t ht hW => ⟨⟨_, (), rfl, ⟨rfl, rfl⟩, trivial⟩, hS.F ht⟩) hS.2.2 dX9_fits_155
              · replace hf := x_ip c_13 hf
                refine lv_iload_n hx hb dX9_fits_112 rfl (lv_at hl 2 rfl) ?_
                refine lv_if_lt (tgt := 120) hx hb dX9_fits_113 (by decide) (fun c_31 => ?_) (fun c_31 => ?_)
                · replace hf := x_ip c_31 hf
                  refine lv_iconst (v := 0) hx hb dX9_fits_120 (by decide) ?_
                  obtain rfl := Option.some.inj hf
                  exact W.zret (ty := .boolean) hx hb hr rfl (fun t ht hW => ⟨⟨_, (), rfl, ⟨rfl, rfl⟩, trivial⟩, hS.F ht⟩) hS.2.2 dX9_fits_121
                · replace hf := x_in c_31 hf
                  refine lv_iconst (v := 1) hx hb dX9_fits_116 (by decide) ?_
                  refine lv_goto (tgt := 121) hx hb dX9_fits_117 (by decide) ?_
                  obtain rfl := Option.some.inj hf
                  exact W.zret (ty := .boolean) hx hb hr rfl (fun t ht hW => ⟨⟨_, (), rfl, ⟨rfl, rfl⟩, trivial⟩, hS.F ht⟩) hS.2.2 dX9_fits_121
            · replace hf := x_ip c_12 hf
              exact (hWW _ _ _ _ _).mpr ((ih (5, 0, l3) _ hf rfl _ _ _ rfl).2.2.2.2.2.1 rfl H locs ls hP hS (lv_sub hl [2, 3] rfl))
    · intro hq H locs ls hP hS hl
      subst hq
      refine (hWW _ _ _ _ _).mp ?_
      replace hf := x_ip rfl (x_in (by decide) (x_in (by decide) (x_in (by decide) (x_in (by decide) (x_in (by decide) hf)))))
      refine lv_iload_n hx hb dX9_fits_91 rfl (lv_at hl 0 rfl) ?_
      refine lv_if_ne (tgt := 103) hx hb dX9_fits_92 (by decide) (fun c_32 => ?_) (fun c_32 => ?_)
      · replace hf := x_in c_32 hf
        refine lv_iconst (v := 0) hx hb dX9_fits_103 (by decide) ?_
        obtain rfl := Option.some.inj hf
        exact W.zret (ty := .boolean) hx hb hr rfl (fun t ht hW => ⟨⟨_, (), rfl, ⟨rfl, rfl⟩, trivial⟩, hS.F ht⟩) hS.2.2 dX9_fits_104
      · replace hf := x_ip c_32 hf
        refine lv_iload_n hx hb dX9_fits_95 rfl (lv_at hl 1 rfl) ?_
        refine lv_if_ne (tgt := 103) hx hb dX9_fits_96 (by decide) (fun c_33 => ?_) (fun c_33 => ?_)
        · replace hf := x_in c_33 hf
          refine lv_iconst (v := 0) hx hb dX9_fits_103 (by decide) ?_
          obtain rfl := Option.some.inj hf
          exact W.zret (ty := .boolean) hx hb hr rfl (fun t ht hW => ⟨⟨_, (), rfl, ⟨rfl, rfl⟩, trivial⟩, hS.F ht⟩) hS.2.2 dX9_fits_104
        · replace hf := x_ip c_33 hf
          refine lv_iconst (v := 1) hx hb dX9_fits_99 (by decide) ?_
          refine lv_goto (tgt := 104) hx hb dX9_fits_100 (by decide) ?_
          obtain rfl := Option.some.inj hf
          exact W.zret (ty := .boolean) hx hb hr rfl (fun t ht hW => ⟨⟨_, (), rfl, ⟨rfl, rfl⟩, trivial⟩, hS.F ht⟩) hS.2.2 dX9_fits_104
    · intro hq H locs ls hP hS hl
      subst hq
      refine (hWW _ _ _ _ _).mp ?_
      replace hf := x_ip rfl (x_in (by decide) (x_in (by decide) (x_in (by decide) (x_in (by decide) (x_in (by decide) (x_in (by decide) hf))))))
      refine lv_iload_n hx hb dX9_fits_228 rfl (lv_at hl 1 rfl) ?_
      refine lv_bipush (v := 54) hx hb dX9_fits_229 (by decide) ?_
      refine lv_icmp_lt (tgt := 240) hx hb dX9_fits_231 (by decide) (fun c_34 => ?_) (fun c_34 => ?_)
      · replace hf := x_ip c_34 hf
        exact (hWW _ _ _ _ _).mpr ((ih (7, l1, 0) _ hf rfl _ _ _ rfl).2.2.2.2.2.2.2.1 rfl H locs ls hP hS (lv_sub hl [0, 1, 2] rfl))
      · replace hf := x_in c_34 hf
        refine lv_iload_n hx hb dX9_fits_234 rfl (lv_at hl 1 rfl) ?_
        refine lv_bipush (v := 58) hx hb dX9_fits_235 (by decide) ?_
        refine lv_icmp_le (tgt := 275) hx hb dX9_fits_237 (by decide) (fun c_35 => ?_) (fun c_35 => ?_)
        · replace hf := x_ip c_35 hf
          exact (hWW _ _ _ _ _).mpr ((ih (9, 0, 0) _ hf rfl _ _ _ rfl).2.2.2.2.2.2.2.2.2.1 rfl H locs ls hP hS (lv_sub hl [2] rfl))
        · replace hf := x_in c_35 hf
          exact (hWW _ _ _ _ _).mpr ((ih (7, l1, 0) _ hf rfl _ _ _ rfl).2.2.2.2.2.2.2.1 rfl H locs ls hP hS (lv_sub hl [0, 1, 2] rfl))
    · intro hq H locs ls hP hS hl
      subst hq
      refine (hWW _ _ _ _ _).mp ?_
      replace hf := x_ip rfl (x_in (by decide) (x_in (by decide) (x_in (by decide) (x_in (by decide) (x_in (by decide) (x_in (by decide) (x_in (by decide) hf)))))))
      refine lv_iload_n hx hb dX9_fits_240 rfl (lv_at hl 1 rfl) ?_
      refine lv_sipush (v := 169) hx hb dX9_fits_241 (by decide) ?_
      refine lv_icmp_eq (tgt := 275) hx hb dX9_fits_244 (by decide) (fun c_36 => ?_) (fun c_36 => ?_)
      · replace hf := x_ip c_36 hf
        exact (hWW _ _ _ _ _).mpr ((ih (9, 0, 0) _ hf rfl _ _ _ rfl).2.2.2.2.2.2.2.2.2.1 rfl H locs ls hP hS (lv_sub hl [2] rfl))
      · replace hf := x_in c_36 hf
        refine lv_iload_n hx hb dX9_fits_247 rfl (lv_at hl 1 rfl) ?_
        refine lv_sipush (v := 153) hx hb dX9_fits_248 (by decide) ?_
        refine lv_icmp_lt (tgt := 261) hx hb dX9_fits_251 (by decide) (fun c_37 => ?_) (fun c_37 => ?_)
        · replace hf := x_ip c_37 hf
          exact (hWW _ _ _ _ _).mpr ((ih (8, l1, 0) _ hf rfl _ _ _ rfl).2.2.2.2.2.2.2.2.1 rfl H locs ls hP hS (lv_sub hl [0, 1, 2] rfl))
        · replace hf := x_in c_37 hf
          refine lv_iload_n hx hb dX9_fits_254 rfl (lv_at hl 1 rfl) ?_
          refine lv_sipush (v := 168) hx hb dX9_fits_255 (by decide) ?_
          refine lv_icmp_le (tgt := 275) hx hb dX9_fits_258 (by decide) (fun c_38 => ?_) (fun c_38 => ?_)
          · replace hf := x_ip c_38 hf
            exact (hWW _ _ _ _ _).mpr ((ih (9, 0, 0) _ hf rfl _ _ _ rfl).2.2.2.2.2.2.2.2.2.1 rfl H locs ls hP hS (lv_sub hl [2] rfl))
          · replace hf := x_in c_38 hf
            exact (hWW _ _ _ _ _).mpr ((ih (8, l1, 0) _ hf rfl _ _ _ rfl).2.2.2.2.2.2.2.2.1 rfl H locs ls hP hS (lv_sub hl [0, 1, 2] rfl))
    · intro hq H locs ls hP hS hl
      subst hq
      refine (hWW _ _ _ _ _).mp ?_
      replace hf := x_ip rfl (x_in (by decide) (x_in (by decide) (x_in (by decide) (x_in (by decide) (x_in (by decide) (x_in (by decide) (x_in (by decide) (x_in (by decide) hf))))))))
      refine lv_iload_n hx hb dX9_fits_261 rfl (lv_at hl 1 rfl) ?_
      refine lv_sipush (v := 198) hx hb dX9_fits_262 (by decide) ?_
      refine lv_icmp_eq (tgt := 275) hx hb dX9_fits_265 (by decide) (fun c_39 => ?_) (fun c_39 => ?_)
      · replace hf := x_ip c_39 hf
        exact (hWW _ _ _ _ _).mpr ((ih (9, 0, 0) _ hf rfl _ _ _ rfl).2.2.2.2.2.2.2.2.2.1 rfl H locs ls hP hS (lv_sub hl [2] rfl))
      · replace hf := x_in c_39 hf
        refine lv_iload_n hx hb dX9_fits_268 rfl (lv_at hl 1 rfl) ?_
        refine lv_sipush (v := 199) hx hb dX9_fits_269 (by decide) ?_
        refine lv_icmp_ne (tgt := 285) hx hb dX9_fits_272 (by decide) (fun c_40 => ?_) (fun c_40 => ?_)
        · replace hf := x_in c_40 hf
          refine lv_iload_n hx hb dX9_fits_285 rfl (lv_at hl 1 rfl) ?_
          refine lv_sipush (v := 178) hx hb dX9_fits_286 (by decide) ?_
          refine lv_icmp_lt (tgt := 317) hx hb dX9_fits_289 (by decide) (fun c_41 => ?_) (fun c_41 => ?_)
          · replace hf := x_ip c_41 hf
            exact (hWW _ _ _ _ _).mpr ((ih (10, l1, 0) _ hf rfl _ _ _ rfl).2.2.2.2.2.2.2.2.2.2.1 rfl H locs ls hP hS (lv_sub hl [0, 1, 2] rfl))
          · replace hf := x_in c_41 hf
            refine lv_iload_n hx hb dX9_fits_292 rfl (lv_at hl 1 rfl) ?_
            refine lv_sipush (v := 181) hx hb dX9_fits_293 (by decide) ?_
            refine lv_icmp_gt (tgt := 317) hx hb dX9_fits_296 (by decide) (fun c_42 => ?_) (fun c_42 => ?_)
            · replace hf := x_ip c_42 hf
              exact (hWW _ _ _ _ _).mpr ((ih (10, l1, 0) _ hf rfl _ _ _ rfl).2.2.2.2.2.2.2.2.2.2.1 rfl H locs ls hP hS (lv_sub hl [0, 1, 2] rfl))
            · replace hf := x_in c_42 hf
              refine lv_iload_n hx hb dX9_fits_299 rfl (lv_at hl 2 rfl) ?_
              refine lv_if_lt (tgt := 315) hx hb dX9_fits_300 (by decide) (fun c_43 => ?_) (fun c_43 => ?_)
              · replace hf := x_ip c_43 hf
                refine lv_iconst (v := 0) hx hb dX9_fits_315 (by decide) ?_
                obtain rfl := Option.some.inj hf
                exact W.zret (ty := .boolean) hx hb hr rfl (fun t ht hW => ⟨⟨_, (), rfl, ⟨rfl, rfl⟩, trivial⟩, hS.F ht⟩) hS.2.2 dX9_fits_316
              · replace hf := x_in c_43 hf
                refine lv_iload_n hx hb dX9_fits_303 rfl (lv_at hl 2 rfl) ?_
                refine lv_aload_n hx hb dX9_fits_304 rfl (lv_at hl 0 rfl) ?_
                refine va_get (D := (dC, dI)) (ci := 9) (v := .int v9_2) (C := RX9) (T := TX9) (N := 62) hx hb hts i_X9_fits_X9 hown hK hP 0 rfl rfl 2 (by decide) k_1 (fun _ h9 => h9) rfl dX9_fits_305 ?_
                refine lv_icmp_ge (tgt := 315) hx hb dX9_fits_308 (by decide) (fun c_44 => ?_) (fun c_44 => ?_)
                · replace hf := x_ip c_44 hf
                  refine lv_iconst (v := 0) hx hb dX9_fits_315 (by decide) ?_
                  obtain rfl := Option.some.inj hf
                  exact W.zret (ty := .boolean) hx hb hr rfl (fun t ht hW => ⟨⟨_, (), rfl, ⟨rfl, rfl⟩, trivial⟩, hS.F ht⟩) hS.2.2 dX9_fits_316
                · replace hf := x_in c_44 hf
                  refine lv_iconst (v := 1) hx hb dX9_fits_311 (by decide) ?_
                  refine lv_goto (tgt := 316) hx hb dX9_fits_312 (by decide) ?_
                  obtain rfl := Option.some.inj hf
                  exact W.zret (ty := .boolean) hx hb hr rfl (fun t ht hW => ⟨⟨_, (), rfl, ⟨rfl, rfl⟩, trivial⟩, hS.F ht⟩) hS.2.2 dX9_fits_316
        · replace hf := x_ip c_40 hf
          exact (hWW _ _ _ _ _).mpr ((ih (9, 0, 0) _ hf rfl _ _ _ rfl).2.2.2.2.2.2.2.2.2.1 rfl H locs ls hP hS (lv_sub hl [2] rfl))
    · intro hq H locs ls hP hS hl
      subst hq
      refine (hWW _ _ _ _ _).mp ?_
      replace hf := x_ip rfl (x_in (by decide) (x_in (by decide) (x_in (by decide) (x_in (by decide) (x_in (by decide) (x_in (by decide) (x_in (by decide) (x_in (by decide) (x_in (by decide) hf)))))))))
      refine lv_iload_n hx hb dX9_fits_275 rfl (lv_at hl 0 rfl) ?_
      refine lv_if_lt (tgt := 283) hx hb dX9_fits_276 (by decide) (fun c_45 => ?_) (fun c_45 => ?_)
      · replace hf := x_ip c_45 hf
        refine lv_iconst (v := 0) hx hb dX9_fits_283 (by decide) ?_
        obtain rfl := Option.some.inj hf
        exact W.zret (ty := .boolean) hx hb hr rfl (fun t ht hW => ⟨⟨_, (), rfl, ⟨rfl, rfl⟩, trivial⟩, hS.F ht⟩) hS.2.2 dX9_fits_284
      · replace hf := x_in c_45 hf
        refine lv_iconst (v := 1) hx hb dX9_fits_279 (by decide) ?_
        refine lv_goto (tgt := 284) hx hb dX9_fits_280 (by decide) ?_
        obtain rfl := Option.some.inj hf
        exact W.zret (ty := .boolean) hx hb hr rfl (fun t ht hW => ⟨⟨_, (), rfl, ⟨rfl, rfl⟩, trivial⟩, hS.F ht⟩) hS.2.2 dX9_fits_284
    · intro hq H locs ls hP hS hl
      subst hq
      refine (hWW _ _ _ _ _).mp ?_
      replace hf := x_ip rfl (x_in (by decide) (x_in (by decide) (x_in (by decide) (x_in (by decide) (x_in (by decide) (x_in (by decide) (x_in (by decide) (x_in (by decide) (x_in (by decide) (x_in (by decide) hf))))))))))
      refine lv_iload_n hx hb dX9_fits_317 rfl (lv_at hl 1 rfl) ?_
      refine lv_sipush (v := 182) hx hb dX9_fits_318 (by decide) ?_
      refine lv_icmp_lt (tgt := 349) hx hb dX9_fits_321 (by decide) (fun c_46 => ?_) (fun c_46 => ?_)
      · replace hf := x_ip c_46 hf
        exact (hWW _ _ _ _ _).mpr ((ih (11, l1, 0) _ hf rfl _ _ _ rfl).2.2.2.2.2.2.2.2.2.2.2.1 rfl H locs ls hP hS (lv_sub hl [0, 1, 2] rfl))
      · replace hf := x_in c_46 hf
        refine lv_iload_n hx hb dX9_fits_324 rfl (lv_at hl 1 rfl) ?_
        refine lv_sipush (v := 186) hx hb dX9_fits_325 (by decide) ?_
        refine lv_icmp_gt (tgt := 349) hx hb dX9_fits_328 (by decide) (fun c_47 => ?_) (fun c_47 => ?_)
        · replace hf := x_ip c_47 hf
          exact (hWW _ _ _ _ _).mpr ((ih (11, l1, 0) _ hf rfl _ _ _ rfl).2.2.2.2.2.2.2.2.2.2.2.1 rfl H locs ls hP hS (lv_sub hl [0, 1, 2] rfl))
        · replace hf := x_in c_47 hf
          refine lv_iload_n hx hb dX9_fits_331 rfl (lv_at hl 2 rfl) ?_
          refine lv_if_lt (tgt := 347) hx hb dX9_fits_332 (by decide) (fun c_48 => ?_) (fun c_48 => ?_)
          · replace hf := x_ip c_48 hf
            refine lv_iconst (v := 0) hx hb dX9_fits_347 (by decide) ?_
            obtain rfl := Option.some.inj hf
            exact W.zret (ty := .boolean) hx hb hr rfl (fun t ht hW => ⟨⟨_, (), rfl, ⟨rfl, rfl⟩, trivial⟩, hS.F ht⟩) hS.2.2 dX9_fits_348
          · replace hf := x_in c_48 hf
            refine lv_iload_n hx hb dX9_fits_335 rfl (lv_at hl 2 rfl) ?_
            refine lv_aload_n hx hb dX9_fits_336 rfl (lv_at hl 0 rfl) ?_
            refine va_get (D := (dC, dI)) (ci := 9) (v := .int v9_3) (C := RX9) (T := TX9) (N := 62) hx hb hts i_X9_fits_X9 hown hK hP 0 rfl rfl 3 (by decide) k_2 (fun _ h9 => h9) rfl dX9_fits_337 ?_
            refine lv_icmp_ge (tgt := 347) hx hb dX9_fits_340 (by decide) (fun c_49 => ?_) (fun c_49 => ?_)
            · replace hf := x_ip c_49 hf
              refine lv_iconst (v := 0) hx hb dX9_fits_347 (by decide) ?_
              obtain rfl := Option.some.inj hf
              exact W.zret (ty := .boolean) hx hb hr rfl (fun t ht hW => ⟨⟨_, (), rfl, ⟨rfl, rfl⟩, trivial⟩, hS.F ht⟩) hS.2.2 dX9_fits_348
            · replace hf := x_in c_49 hf
              refine lv_iconst (v := 1) hx hb dX9_fits_343 (by decide) ?_
              refine lv_goto (tgt := 348) hx hb dX9_fits_344 (by decide) ?_
              obtain rfl := Option.some.inj hf
              exact W.zret (ty := .boolean) hx hb hr rfl (fun t ht hW => ⟨⟨_, (), rfl, ⟨rfl, rfl⟩, trivial⟩, hS.F ht⟩) hS.2.2 dX9_fits_348
    · intro hq H locs ls hP hS hl
      subst hq
      refine (hWW _ _ _ _ _).mp ?_
      replace hf := x_ip rfl (x_in (by decide) (x_in (by decide) (x_in (by decide) (x_in (by decide) (x_in (by decide) (x_in (by decide) (x_in (by decide) (x_in (by decide) (x_in (by decide) (x_in (by decide) (x_in (by decide) hf)))))))))))
      refine lv_iload_n hx hb dX9_fits_349 rfl (lv_at hl 1 rfl) ?_
      refine lv_sipush (v := 187) hx hb dX9_fits_350 (by decide) ?_
      refine lv_icmp_ne (tgt := 362) hx hb dX9_fits_353 (by decide) (fun c_50 => ?_) (fun c_50 => ?_)
      · replace hf := x_in c_50 hf
        refine lv_iload_n hx hb dX9_fits_362 rfl (lv_at hl 1 rfl) ?_
        refine lv_sipush (v := 188) hx hb dX9_fits_363 (by decide) ?_
        refine lv_icmp_ne (tgt := 385) hx hb dX9_fits_366 (by decide) (fun c_51 => ?_) (fun c_51 => ?_)
        · replace hf := x_in c_51 hf
          refine lv_iload_n hx hb dX9_fits_385 rfl (lv_at hl 1 rfl) ?_
          refine lv_sipush (v := 189) hx hb dX9_fits_386 (by decide) ?_
          refine lv_icmp_ne (tgt := 424) hx hb dX9_fits_389 (by decide) (fun c_52 => ?_) (fun c_52 => ?_)
          · replace hf := x_in c_52 hf
            refine lv_iload_n hx hb dX9_fits_424 rfl (lv_at hl 1 rfl) ?_
            refine lv_sipush (v := 192) hx hb dX9_fits_425 (by decide) ?_
            refine lv_icmp_eq (tgt := 438) hx hb dX9_fits_428 (by decide) (fun c_53 => ?_) (fun c_53 => ?_)
            · replace hf := x_ip c_53 hf
              exact (hWW _ _ _ _ _).mpr ((ih (12, 0, 0) _ hf rfl _ _ _ rfl).2.2.2.2.2.2.2.2.2.2.2.2 rfl H locs ls hP hS (lv_sub hl [0, 2] rfl))
            · replace hf := x_in c_53 hf
              refine lv_iload_n hx hb dX9_fits_431 rfl (lv_at hl 1 rfl) ?_
              refine lv_sipush (v := 193) hx hb dX9_fits_432 (by decide) ?_
              refine lv_icmp_ne (tgt := 458) hx hb dX9_fits_435 (by decide) (fun c_54 => ?_) (fun c_54 => ?_)
              · replace hf := x_in c_54 hf
                refine lv_iconst (v := 0) hx hb dX9_fits_458 (by decide) ?_
                obtain rfl := Option.some.inj hf
                exact W.zret (ty := .boolean) hx hb hr rfl (fun t ht hW => ⟨⟨_, (), rfl, ⟨rfl, rfl⟩, trivial⟩, hS.F ht⟩) hS.2.2 dX9_fits_459
              · replace hf := x_ip c_54 hf
                exact (hWW _ _ _ _ _).mpr ((ih (12, 0, 0) _ hf rfl _ _ _ rfl).2.2.2.2.2.2.2.2.2.2.2.2 rfl H locs ls hP hS (lv_sub hl [0, 2] rfl))
          · replace hf := x_ip c_52 hf
            refine lv_aload_n hx hb dX9_fits_392 rfl (lv_at hl 0 rfl) ?_
            refine lv_iload_n hx hb dX9_fits_393 rfl (lv_at hl 2 rfl) ?_
            obtain ⟨r_55, h_55, hf⟩ := x_bi hf
            have hPc := hP.sub (ws' := [(o9, .inr (9, x_O9 v9_0 v9_1 v9_2 v9_3 a9_4 a9_5 a9_6 a9_7 a9_8 a9_9 a9_10 a9_11 a9_12 v9_13 v9_14 v9_15 v9_16 v9_17 v9_18 a9_19 v9_20 v9_21 v9_22 a9_23 a9_24 a9_25 a9_26 a9_27 a9_28 a9_29 a9_30 a9_31 a9_32 a9_33 a9_34 v9_35 v9_36 a9_37 a9_38 a9_39 a9_40 a9_41 v9_42 a9_43 a9_44 a9_45 a9_46 a9_47 v9_48 v9_49 v9_50 v9_51 a9_52 a9_53 v9_54 v9_55 a9_56 a9_57 v9_58 a9_59 a9_60 a9_61))]) [0] rfl
            refine va_calli (va_runV (As := [.int l2]) (rest := []) ⟨hx, hb, hml, hown, hts⟩ (c_X9_isType l dC dI cyI cyZ cyJ H.size o9 v9_0 v9_1 v9_2 v9_3 a9_4 a9_5 a9_6 a9_7 a9_8 a9_9 a9_10 a9_11 a9_12 v9_13 v9_14 v9_15 v9_16 v9_17 v9_18 a9_19 v9_20 v9_21 v9_22 a9_23 a9_24 a9_25 a9_26 a9_27 a9_28 a9_29 a9_30 a9_31 a9_32 a9_33 a9_34 v9_35 v9_36 a9_37 a9_38 a9_39 a9_40 a9_41 v9_42 a9_43 a9_44 a9_45 a9_46 a9_47 v9_48 v9_49 v9_50 v9_51 a9_52 a9_53 v9_54 v9_55 a9_56 a9_57 v9_58 a9_59 a9_60 a9_61 l2 r_55 h_55) (cwV 1 hts gX9_fits_X9_isType rfl rfl rfl (by decide +kernel) ⟨Nat.le_of_ble_eq_true rfl, Nat.le_of_ble_eq_true rfl⟩) (x_pV hN hK hPc (ci := 9) (q0 := 0) rfl rfl) rfl rfl hl.1 rfl (lv_room (Nat.le_of_ble_eq_true rfl)) dX9_fits_394 ⟨Nat.le_of_ble_eq_true rfl, Nat.le_of_ble_eq_true rfl⟩) hS x_nA (x_nf hA hS) (fun q_55 u t H1 locs ht hvm hw hB hz1 hk1 hS => ?_)
            have hP := x_kp hP hk1
            clear ht hvm hB hz1 hk1 t u hPc
            generalize H1 = H at hP hS ⊢
            obtain ⟨hw, b_55⟩ := hw
            obtain rfl := hw.symm
            refine lv_if_eq (tgt := 422) hx hb dX9_fits_397 (by decide) (fun c_56 => ?_) (fun c_56 => ?_)
            · replace hf := x_ip c_56 hf
              refine lv_iconst (v := 0) hx hb dX9_fits_422 (by decide) ?_
              obtain rfl := Option.some.inj hf
              exact W.zret (ty := .boolean) hx hb hr rfl (fun t ht hW => ⟨⟨_, (), rfl, ⟨rfl, rfl⟩, trivial⟩, hS.F ht⟩) hS.2.2 dX9_fits_423
            · replace hf := x_in c_56 hf
              refine lv_aload_n hx hb dX9_fits_400 rfl (lv_at hl 0 rfl) ?_
              refine lv_iload_n hx hb dX9_fits_401 rfl (lv_at hl 2 rfl) ?_
              obtain ⟨r_57, h_57, hf⟩ := x_bi hf
              have hPc := hP.sub (ws' := [(o9, .inr (9, x_O9 v9_0 v9_1 v9_2 v9_3 a9_4 a9_5 a9_6 a9_7 a9_8 a9_9 a9_10 a9_11 a9_12 v9_13 v9_14 v9_15 v9_16 v9_17 v9_18 a9_19 v9_20 v9_21 v9_22 a9_23 a9_24 a9_25 a9_26 a9_27 a9_28 a9_29 a9_30 a9_31 a9_32 a9_33 a9_34 v9_35 v9_36 a9_37 a9_38 a9_39 a9_40 a9_41 v9_42 a9_43 a9_44 a9_45 a9_46 a9_47 v9_48 v9_49 v9_50 v9_51 a9_52 a9_53 v9_54 v9_55 a9_56 a9_57 v9_58 a9_59 a9_60 a9_61))]) [0] rfl
              refine va_calli (va_runV (As := [.int l2]) (rest := []) ⟨hx, hb, hml, hown, hts⟩ (c_X9_isPrimitive l dC dI cyI cyZ cyJ H.size o9 v9_0 v9_1 v9_2 v9_3 a9_4 a9_5 a9_6 a9_7 a9_8 a9_9 a9_10 a9_11 a9_12 v9_13 v9_14 v9_15 v9_16 v9_17 v9_18 a9_19 v9_20 v9_21 v9_22 a9_23 a9_24 a9_25 a9_26 a9_27 a9_28 a9_29 a9_30 a9_31 a9_32 a9_33 a9_34 v9_35 v9_36 a9_37 a9_38 a9_39 a9_40 a9_41 v9_42 a9_43 a9_44 a9_45 a9_46 a9_47 v9_48 v9_49 v9_50 v9_51 a9_52 a9_53 v9_54 v9_55 a9_56 a9_57 v9_58 a9_59 a9_60 a9_61 l2 r_57 h_57) (cwV 1 hts gX9_fits_X9_isPrimitive rfl rfl rfl (by decide +kernel) ⟨Nat.le_of_ble_eq_true rfl, Nat.le_of_ble_eq_true rfl⟩) (x_pV hN hK hPc (ci := 9) (q0 := 0) rfl rfl) rfl rfl hl.1 rfl (lv_room (Nat.le_of_ble_eq_true rfl)) dX9_fits_402 ⟨Nat.le_of_ble_eq_true rfl, Nat.le_of_ble_eq_true rfl⟩) hS x_nA (x_nf hA hS) (fun q_57 u t H1 locs ht hvm hw hB hz1 hk1 hS => ?_)
              have hP := x_kp hP hk1
              clear ht hvm hB hz1 hk1 t u hPc
              generalize H1 = H at hP hS ⊢
              obtain ⟨hw, b_57⟩ := hw
              obtain rfl := hw.symm
              refine lv_if_ne (tgt := 422) hx hb dX9_fits_405 (by decide) (fun c_58 => ?_) (fun c_58 => ?_)
              · replace hf := x_in c_58 hf
                refine lv_iconst (v := 0) hx hb dX9_fits_422 (by decide) ?_
                obtain rfl := Option.some.inj hf
                exact W.zret (ty := .boolean) hx hb hr rfl (fun t ht hW => ⟨⟨_, (), rfl, ⟨rfl, rfl⟩, trivial⟩, hS.F ht⟩) hS.2.2 dX9_fits_423
              · replace hf := x_ip c_58 hf
                refine lv_iload_n hx hb dX9_fits_408 rfl (lv_at hl 2 rfl) ?_
                refine lv_bipush (v := 16) hx hb dX9_fits_409 (by decide) ?_
                refine lv_ishr hx hb dX9_fits_411 ?_
                refine lv_sipush (v := 255) hx hb dX9_fits_412 (by decide) ?_
                refine lv_icmp_ge (tgt := 422) hx hb dX9_fits_415 (by decide) (fun c_59 => ?_) (fun c_59 => ?_)
                · replace hf := x_ip c_59 hf
                  refine lv_iconst (v := 0) hx hb dX9_fits_422 (by decide) ?_
                  obtain rfl := Option.some.inj hf
                  exact W.zret (ty := .boolean) hx hb hr rfl (fun t ht hW => ⟨⟨_, (), rfl, ⟨rfl, rfl⟩, trivial⟩, hS.F ht⟩) hS.2.2 dX9_fits_423
                · replace hf := x_in c_59 hf
                  refine lv_iconst (v := 1) hx hb dX9_fits_418 (by decide) ?_
                  refine lv_goto (tgt := 423) hx hb dX9_fits_419 (by decide) ?_
                  obtain rfl := Option.some.inj hf
                  exact W.zret (ty := .boolean) hx hb hr rfl (fun t ht hW => ⟨⟨_, (), rfl, ⟨rfl, rfl⟩, trivial⟩, hS.F ht⟩) hS.2.2 dX9_fits_423
        · replace hf := x_ip c_51 hf
          refine lv_iload_n hx hb dX9_fits_369 rfl (lv_at hl 2 rfl) ?_
          refine lv_if_lt (tgt := 383) hx hb dX9_fits_370 (by decide) (fun c_60 => ?_) (fun c_60 => ?_)
          · replace hf := x_ip c_60 hf
            refine lv_iconst (v := 0) hx hb dX9_fits_383 (by decide) ?_
            obtain rfl := Option.some.inj hf
            exact W.zret (ty := .boolean) hx hb hr rfl (fun t ht hW => ⟨⟨_, (), rfl, ⟨rfl, rfl⟩, trivial⟩, hS.F ht⟩) hS.2.2 dX9_fits_384
          · replace hf := x_in c_60 hf
            refine lv_iload_n hx hb dX9_fits_373 rfl (lv_at hl 2 rfl) ?_
            refine lv_bipush (v := 7) hx hb dX9_fits_374 (by decide) ?_
            refine lv_icmp_gt (tgt := 383) hx hb dX9_fits_376 (by decide) (fun c_61 => ?_) (fun c_61 => ?_)
            · replace hf := x_ip c_61 hf
              refine lv_iconst (v := 0) hx hb dX9_fits_383 (by decide) ?_
              obtain rfl := Option.some.inj hf
              exact W.zret (ty := .boolean) hx hb hr rfl (fun t ht hW => ⟨⟨_, (), rfl, ⟨rfl, rfl⟩, trivial⟩, hS.F ht⟩) hS.2.2 dX9_fits_384
            · replace hf := x_in c_61 hf
              refine lv_iconst (v := 1) hx hb dX9_fits_379 (by decide) ?_
              refine lv_goto (tgt := 384) hx hb dX9_fits_380 (by decide) ?_
              obtain rfl := Option.some.inj hf
              exact W.zret (ty := .boolean) hx hb hr rfl (fun t ht hW => ⟨⟨_, (), rfl, ⟨rfl, rfl⟩, trivial⟩, hS.F ht⟩) hS.2.2 dX9_fits_384
      · replace hf := x_ip c_50 hf
        refine lv_aload_n hx hb dX9_fits_356 rfl (lv_at hl 0 rfl) ?_
        refine lv_iload_n hx hb dX9_fits_357 rfl (lv_at hl 2 rfl) ?_
        obtain ⟨r_62, h_62, hf⟩ := x_bi hf
        have hPc := hP.sub (ws' := [(o9, .inr (9, x_O9 v9_0 v9_1 v9_2 v9_3 a9_4 a9_5 a9_6 a9_7 a9_8 a9_9 a9_10 a9_11 a9_12 v9_13 v9_14 v9_15 v9_16 v9_17 v9_18 a9_19 v9_20 v9_21 v9_22 a9_23 a9_24 a9_25 a9_26 a9_27 a9_28 a9_29 a9_30 a9_31 a9_32 a9_33 a9_34 v9_35 v9_36 a9_37 a9_38 a9_39 a9_40 a9_41 v9_42 a9_43 a9_44 a9_45 a9_46 a9_47 v9_48 v9_49 v9_50 v9_51 a9_52 a9_53 v9_54 v9_55 a9_56 a9_57 v9_58 a9_59 a9_60 a9_61))]) [0] rfl
        refine va_calli (va_runV (As := [.int l2]) (rest := []) ⟨hx, hb, hml, hown, hts⟩ (c_X9_isClass l dC dI cyI cyZ cyJ H.size o9 v9_0 v9_1 v9_2 v9_3 a9_4 a9_5 a9_6 a9_7 a9_8 a9_9 a9_10 a9_11 a9_12 v9_13 v9_14 v9_15 v9_16 v9_17 v9_18 a9_19 v9_20 v9_21 v9_22 a9_23 a9_24 a9_25 a9_26 a9_27 a9_28 a9_29 a9_30 a9_31 a9_32 a9_33 a9_34 v9_35 v9_36 a9_37 a9_38 a9_39 a9_40 a9_41 v9_42 a9_43 a9_44 a9_45 a9_46 a9_47 v9_48 v9_49 v9_50 v9_51 a9_52 a9_53 v9_54 v9_55 a9_56 a9_57 v9_58 a9_59 a9_60 a9_61 l2 r_62 h_62) (cwV 1 hts gX9_fits_X9_isClass rfl rfl rfl (by decide +kernel) ⟨Nat.le_of_ble_eq_true rfl, Nat.le_of_ble_eq_true rfl⟩) (x_pV hN hK hPc (ci := 9) (q0 := 0) rfl rfl) rfl rfl hl.1 rfl (lv_room (Nat.le_of_ble_eq_true rfl)) dX9_fits_358 ⟨Nat.le_of_ble_eq_true rfl, Nat.le_of_ble_eq_true rfl⟩) hS x_nA (x_nf hA hS) (fun q_62 u t H1 locs ht hvm hw hB hz1 hk1 hS => ?_)
        have hP := x_kp hP hk1
        clear ht hvm hB hz1 hk1 t u hPc
        generalize H1 = H at hP hS ⊢
        obtain ⟨hw, b_62⟩ := hw
        obtain rfl := hw.symm
        obtain rfl := Option.some.inj hf
        exact W.zret (ty := .boolean) hx hb hr b_62 (fun t ht hW => ⟨⟨_, (), rfl, ⟨rfl, b_62⟩, trivial⟩, hS.F ht⟩) hS.2.2 dX9_fits_361
    · intro hq H locs ls hP hS hl
      subst hq
      refine (hWW _ _ _ _ _).mp ?_
      replace hf := x_ip rfl (x_in (by decide) (x_in (by decide) (x_in (by decide) (x_in (by decide) (x_in (by decide) (x_in (by decide) (x_in (by decide) (x_in (by decide) (x_in (by decide) (x_in (by decide) (x_in (by decide) (x_in (by decide) hf))))))))))))
      refine lv_aload_n hx hb dX9_fits_438 rfl (lv_at hl 0 rfl) ?_
      refine lv_iload_n hx hb dX9_fits_439 rfl (lv_at hl 1 rfl) ?_
      obtain ⟨r_63, h_63, hf⟩ := x_bi hf
      have hPc := hP.sub (ws' := [(o9, .inr (9, x_O9 v9_0 v9_1 v9_2 v9_3 a9_4 a9_5 a9_6 a9_7 a9_8 a9_9 a9_10 a9_11 a9_12 v9_13 v9_14 v9_15 v9_16 v9_17 v9_18 a9_19 v9_20 v9_21 v9_22 a9_23 a9_24 a9_25 a9_26 a9_27 a9_28 a9_29 a9_30 a9_31 a9_32 a9_33 a9_34 v9_35 v9_36 a9_37 a9_38 a9_39 a9_40 a9_41 v9_42 a9_43 a9_44 a9_45 a9_46 a9_47 v9_48 v9_49 v9_50 v9_51 a9_52 a9_53 v9_54 v9_55 a9_56 a9_57 v9_58 a9_59 a9_60 a9_61))]) [0] rfl
      refine va_calli (va_runV (As := [.int l2]) (rest := []) ⟨hx, hb, hml, hown, hts⟩ (c_X9_isType l dC dI cyI cyZ cyJ H.size o9 v9_0 v9_1 v9_2 v9_3 a9_4 a9_5 a9_6 a9_7 a9_8 a9_9 a9_10 a9_11 a9_12 v9_13 v9_14 v9_15 v9_16 v9_17 v9_18 a9_19 v9_20 v9_21 v9_22 a9_23 a9_24 a9_25 a9_26 a9_27 a9_28 a9_29 a9_30 a9_31 a9_32 a9_33 a9_34 v9_35 v9_36 a9_37 a9_38 a9_39 a9_40 a9_41 v9_42 a9_43 a9_44 a9_45 a9_46 a9_47 v9_48 v9_49 v9_50 v9_51 a9_52 a9_53 v9_54 v9_55 a9_56 a9_57 v9_58 a9_59 a9_60 a9_61 l2 r_63 h_63) (cwV 1 hts gX9_fits_X9_isType rfl rfl rfl (by decide +kernel) ⟨Nat.le_of_ble_eq_true rfl, Nat.le_of_ble_eq_true rfl⟩) (x_pV hN hK hPc (ci := 9) (q0 := 0) rfl rfl) rfl rfl hl.1 rfl (lv_room (Nat.le_of_ble_eq_true rfl)) dX9_fits_440 ⟨Nat.le_of_ble_eq_true rfl, Nat.le_of_ble_eq_true rfl⟩) hS x_nA (x_nf hA hS) (fun q_63 u t H1 locs ht hvm hw hB hz1 hk1 hS => ?_)
      have hP := x_kp hP hk1
      clear ht hvm hB hz1 hk1 t u hPc
      generalize H1 = H at hP hS ⊢
      obtain ⟨hw, b_63⟩ := hw
      obtain rfl := hw.symm
      refine lv_if_eq (tgt := 458) hx hb dX9_fits_443 (by decide) (fun c_64 => ?_) (fun c_64 => ?_)
      · replace hf := x_ip c_64 hf
        refine lv_iconst (v := 0) hx hb dX9_fits_458 (by decide) ?_
        obtain rfl := Option.some.inj hf
        exact W.zret (ty := .boolean) hx hb hr rfl (fun t ht hW => ⟨⟨_, (), rfl, ⟨rfl, rfl⟩, trivial⟩, hS.F ht⟩) hS.2.2 dX9_fits_459
      · replace hf := x_in c_64 hf
        refine lv_aload_n hx hb dX9_fits_446 rfl (lv_at hl 0 rfl) ?_
        refine lv_iload_n hx hb dX9_fits_447 rfl (lv_at hl 1 rfl) ?_
        obtain ⟨r_65, h_65, hf⟩ := x_bi hf
        have hPc := hP.sub (ws' := [(o9, .inr (9, x_O9 v9_0 v9_1 v9_2 v9_3 a9_4 a9_5 a9_6 a9_7 a9_8 a9_9 a9_10 a9_11 a9_12 v9_13 v9_14 v9_15 v9_16 v9_17 v9_18 a9_19 v9_20 v9_21 v9_22 a9_23 a9_24 a9_25 a9_26 a9_27 a9_28 a9_29 a9_30 a9_31 a9_32 a9_33 a9_34 v9_35 v9_36 a9_37 a9_38 a9_39 a9_40 a9_41 v9_42 a9_43 a9_44 a9_45 a9_46 a9_47 v9_48 v9_49 v9_50 v9_51 a9_52 a9_53 v9_54 v9_55 a9_56 a9_57 v9_58 a9_59 a9_60 a9_61))]) [0] rfl
        refine va_calli (va_runV (As := [.int l2]) (rest := []) ⟨hx, hb, hml, hown, hts⟩ (c_X9_isPrimitive l dC dI cyI cyZ cyJ H.size o9 v9_0 v9_1 v9_2 v9_3 a9_4 a9_5 a9_6 a9_7 a9_8 a9_9 a9_10 a9_11 a9_12 v9_13 v9_14 v9_15 v9_16 v9_17 v9_18 a9_19 v9_20 v9_21 v9_22 a9_23 a9_24 a9_25 a9_26 a9_27 a9_28 a9_29 a9_30 a9_31 a9_32 a9_33 a9_34 v9_35 v9_36 a9_37 a9_38 a9_39 a9_40 a9_41 v9_42 a9_43 a9_44 a9_45 a9_46 a9_47 v9_48 v9_49 v9_50 v9_51 a9_52 a9_53 v9_54 v9_55 a9_56 a9_57 v9_58 a9_59 a9_60 a9_61 l2 r_65 h_65) (cwV 1 hts gX9_fits_X9_isPrimitive rfl rfl rfl (by decide +kernel) ⟨Nat.le_of_ble_eq_true rfl, Nat.le_of_ble_eq_true rfl⟩) (x_pV hN hK hPc (ci := 9) (q0 := 0) rfl rfl) rfl rfl hl.1 rfl (lv_room (Nat.le_of_ble_eq_true rfl)) dX9_fits_448 ⟨Nat.le_of_ble_eq_true rfl, Nat.le_of_ble_eq_true rfl⟩) hS x_nA (x_nf hA hS) (fun q_65 u t H1 locs ht hvm hw hB hz1 hk1 hS => ?_)
        have hP := x_kp hP hk1
        clear ht hvm hB hz1 hk1 t u hPc
        generalize H1 = H at hP hS ⊢
        obtain ⟨hw, b_65⟩ := hw
        obtain rfl := hw.symm
        refine lv_if_ne (tgt := 458) hx hb dX9_fits_451 (by decide) (fun c_66 => ?_) (fun c_66 => ?_)
        · replace hf := x_in c_66 hf
          refine lv_iconst (v := 0) hx hb dX9_fits_458 (by decide) ?_
          obtain rfl := Option.some.inj hf
          exact W.zret (ty := .boolean) hx hb hr rfl (fun t ht hW => ⟨⟨_, (), rfl, ⟨rfl, rfl⟩, trivial⟩, hS.F ht⟩) hS.2.2 dX9_fits_459
        · replace hf := x_ip c_66 hf
          refine lv_iconst (v := 1) hx hb dX9_fits_454 (by decide) ?_
          refine lv_goto (tgt := 459) hx hb dX9_fits_455 (by decide) ?_
          obtain rfl := Option.some.inj hf
          exact W.zret (ty := .boolean) hx hb hr rfl (fun t ht hW => ⟨⟨_, (), rfl, ⟨rfl, rfl⟩, trivial⟩, hS.F ht⟩) hS.2.2 dX9_fits_459)
  refine lv_iload_n hx hb dX9_fits_0 rfl (lv_at hl 1 rfl) ?_
  refine lv_if_lt (tgt := 10) hx hb dX9_fits_1 (by decide) (fun c_67 => ?_) (fun c_67 => ?_)
  · replace hf := x_ip c_67 hf
    exact (hWW _ _ _ _ _).mpr ((J p2 (0, p1, p3) _ hf rfl _ _ _ rfl).1 rfl H locs ls hP hS (lv_sub hl [0, 1, 2, 3] rfl))
  · replace hf := x_in c_67 hf
    refine lv_iload_n hx hb dX9_fits_4 rfl (lv_at hl 1 rfl) ?_
    refine lv_bipush (v := 15) hx hb dX9_fits_5 (by decide) ?_
    refine lv_icmp_le (tgt := 91) hx hb dX9_fits_7 (by decide) (fun c_68 => ?_) (fun c_68 => ?_)
    · replace hf := x_ip c_68 hf
      exact (hWW _ _ _ _ _).mpr ((J p2 (5, 0, p3) _ hf rfl _ _ _ rfl).2.2.2.2.2.1 rfl H locs ls hP hS (lv_sub hl [2, 3] rfl))
    · replace hf := x_in c_68 hf
      exact (hWW _ _ _ _ _).mpr ((J p2 (0, p1, p3) _ hf rfl _ _ _ rfl).1 rfl H locs ls hP hS (lv_sub hl [0, 1, 2, 3] rfl))

def f_X9_put (v9_0 : Int32) (v9_1 : Int32) (v9_2 : Int32) (v9_3 : Int32) (v9_20 : Int32) (v9_22 : Int32) (g9_23 : Nat → Int32) (g9_24 : Nat → Int32) (g9_25 : Nat → Int32) (g9_26 : Nat → Int32) (g9_27 : Nat → Int32) (p1 : Int32) (p2 : Int32) (p3 : Int32) : Option (Int32 × Int32 × Int32 × (Nat → Int32) × (Nat → Int32) × (Nat → Int32) × (Nat → Int32) × (Nat → Int32)) := (f_X9_fits v9_1 v9_2 v9_3 p1 p2 p3) >>= (fun r_1 => if r_1 = (0 : Int32) then (f_X9_bad 0) >>= (fun r_10 => some (r_10.1, r_10.2, v9_20, g9_23, g9_24, g9_25, g9_26, g9_27)) else if v9_20 = (1000 : Int32) then (f_X9_full 0) >>= (fun r_9 => some (r_9.1, r_9.2, v9_20, g9_23, g9_24, g9_25, g9_26, g9_27)) else if x_gd v9_20 1000 = true then if x_gd v9_20 1000 = true then if x_gd v9_20 1000 = true then if x_gd v9_20 1000 = true then if x_gd v9_20 1000 = true then some (v9_20, 0, v9_20 + (1 : Int32), upd g9_23 (Int32.toNatClampNeg v9_20) p1, upd g9_24 (Int32.toNatClampNeg v9_20) p2, upd g9_25 (Int32.toNatClampNeg v9_20) p3, upd g9_26 (Int32.toNatClampNeg v9_20) v9_22, upd g9_27 (Int32.toNatClampNeg v9_20) 0) else none else none else none else none else none)
theorem i_X9_put_X9 : ∀ w ∈ wsX90, w ∈ wsX9_put := fun _ h => List.mem_cons_of_mem _ (List.mem_append_right _ h)
set_option maxHeartbeats 4000000 in
set_option maxRecDepth 100000 in
theorem c_X9_put (l : Launch) (dC : Nat → ClassId) (dI : Nat → Nat → Nat) (cyI cyZ cyJ : ClassId) (sz : Nat) (o9 : Nat) (v9_0 : Int32) (v9_1 : Int32) (v9_2 : Int32) (v9_3 : Int32) (a9_4 : Nat) (a9_5 : Nat) (a9_6 : Nat) (a9_7 : Nat) (a9_8 : Nat) (a9_9 : Nat) (a9_10 : Nat) (a9_11 : Nat) (a9_12 : Nat) (v9_13 : Int32) (v9_14 : Int32) (v9_15 : Int32) (v9_16 : Int32) (v9_17 : Int32) (v9_18 : Int32) (a9_19 : Nat) (v9_20 : Int32) (v9_21 : Int32) (v9_22 : Int32) (a9_23 : Nat) (a9_24 : Nat) (a9_25 : Nat) (a9_26 : Nat) (a9_27 : Nat) (a9_28 : Nat) (a9_29 : Nat) (a9_30 : Nat) (a9_31 : Nat) (a9_32 : Nat) (a9_33 : Nat) (a9_34 : Nat) (v9_35 : Int32) (v9_36 : Int32) (a9_37 : Nat) (a9_38 : Nat) (a9_39 : Nat) (a9_40 : Nat) (a9_41 : Nat) (v9_42 : Int32) (a9_43 : Nat) (a9_44 : Nat) (a9_45 : Nat) (a9_46 : Nat) (a9_47 : Nat) (v9_48 : Int32) (v9_49 : Int32) (v9_50 : Int32) (v9_51 : Int32) (a9_52 : Nat) (a9_53 : Nat) (v9_54 : Int32) (v9_55 : Int32) (a9_56 : Nat) (a9_57 : Nat) (v9_58 : Int32) (a9_59 : Nat) (a9_60 : Nat) (a9_61 : Nat) (g9_23 : Nat → Int32) (g9_24 : Nat → Int32) (g9_25 : Nat → Int32) (g9_26 : Nat → Int32) (g9_27 : Nat → Int32) (p1 : Int32) (p2 : Int32) (p3 : Int32) (R : Int32 × Int32 × Int32 × (Nat → Int32) × (Nat → Int32) × (Nat → Int32) × (Nat → Int32) × (Nat → Int32)) (hf : f_X9_put v9_0 v9_1 v9_2 v9_3 v9_20 v9_22 g9_23 g9_24 g9_25 g9_26 g9_27 p1 p2 p3 = some R) : Met l yX9_put wsX9_put ({ frames := 3, cells := 0, slots := 0, locals := 65 }) (va_Pc [.ref o9, .int p1, .int p2, .int p3] (x_PreD (dC, dI) (x_T cyI cyZ cyJ) [(o9, .inr (9, x_O9 v9_0 v9_1 v9_2 v9_3 a9_4 a9_5 a9_6 a9_7 a9_8 a9_9 a9_10 a9_11 a9_12 v9_13 v9_14 v9_15 v9_16 v9_17 v9_18 a9_19 v9_20 v9_21 v9_22 a9_23 a9_24 a9_25 a9_26 a9_27 a9_28 a9_29 a9_30 a9_31 a9_32 a9_33 a9_34 v9_35 v9_36 a9_37 a9_38 a9_39 a9_40 a9_41 v9_42 a9_43 a9_44 a9_45 a9_46 a9_47 v9_48 v9_49 v9_50 v9_51 a9_52 a9_53 v9_54 v9_55 a9_56 a9_57 v9_58 a9_59 a9_60 a9_61)), (a9_23, .inl (cyI, 1000, .inl g9_23)), (a9_24, .inl (cyI, 1000, .inl g9_24)), (a9_25, .inl (cyI, 1000, .inl g9_25)), (a9_26, .inl (cyI, 1000, .inl g9_26)), (a9_27, .inl (cyI, 1000, .inl g9_27))] sz)) (va_Qi (fun (r : Int32) (_ : Unit) => r = R.1) (fun (_ : Unit) (t : State) => va_P (dC, dI) vwCl [(o9, .inr (9, x_O9 (R.2.1) v9_1 v9_2 v9_3 a9_4 a9_5 a9_6 a9_7 a9_8 a9_9 a9_10 a9_11 a9_12 v9_13 v9_14 v9_15 v9_16 v9_17 v9_18 a9_19 (R.2.2.1) v9_21 v9_22 a9_23 a9_24 a9_25 a9_26 a9_27 a9_28 a9_29 a9_30 a9_31 a9_32 a9_33 a9_34 v9_35 v9_36 a9_37 a9_38 a9_39 a9_40 a9_41 v9_42 a9_43 a9_44 a9_45 a9_46 a9_47 v9_48 v9_49 v9_50 v9_51 a9_52 a9_53 v9_54 v9_55 a9_56 a9_57 v9_58 a9_59 a9_60 a9_61)), (a9_23, .inl (cyI, 1000, .inl R.2.2.2.1)), (a9_24, .inl (cyI, 1000, .inl R.2.2.2.2.1)), (a9_25, .inl (cyI, 1000, .inl R.2.2.2.2.2.1)), (a9_26, .inl (cyI, 1000, .inl R.2.2.2.2.2.2.1)), (a9_27, .inl (cyI, 1000, .inl R.2.2.2.2.2.2.2))] t.heap ∧ va_K (dC, dI) vwCl (x_T cyI cyZ cyJ) t ∧ va_D (va_A [(o9, .inr (9, x_O9 v9_0 v9_1 v9_2 v9_3 a9_4 a9_5 a9_6 a9_7 a9_8 a9_9 a9_10 a9_11 a9_12 v9_13 v9_14 v9_15 v9_16 v9_17 v9_18 a9_19 v9_20 v9_21 v9_22 a9_23 a9_24 a9_25 a9_26 a9_27 a9_28 a9_29 a9_30 a9_31 a9_32 a9_33 a9_34 v9_35 v9_36 a9_37 a9_38 a9_39 a9_40 a9_41 v9_42 a9_43 a9_44 a9_45 a9_46 a9_47 v9_48 v9_49 v9_50 v9_51 a9_52 a9_53 v9_54 v9_55 a9_56 a9_57 v9_58 a9_59 a9_60 a9_61)), (a9_23, .inl (cyI, 1000, .inl g9_23)), (a9_24, .inl (cyI, 1000, .inl g9_24)), (a9_25, .inl (cyI, 1000, .inl g9_25)), (a9_26, .inl (cyI, 1000, .inl g9_26)), (a9_27, .inl (cyI, 1000, .inl g9_27))] sz) [(o9, .inr (9, x_O9 (R.2.1) v9_1 v9_2 v9_3 a9_4 a9_5 a9_6 a9_7 a9_8 a9_9 a9_10 a9_11 a9_12 v9_13 v9_14 v9_15 v9_16 v9_17 v9_18 a9_19 (R.2.2.1) v9_21 v9_22 a9_23 a9_24 a9_25 a9_26 a9_27 a9_28 a9_29 a9_30 a9_31 a9_32 a9_33 a9_34 v9_35 v9_36 a9_37 a9_38 a9_39 a9_40 a9_41 v9_42 a9_43 a9_44 a9_45 a9_46 a9_47 v9_48 v9_49 v9_50 v9_51 a9_52 a9_53 v9_54 v9_55 a9_56 a9_57 v9_58 a9_59 a9_60 a9_61)), (a9_23, .inl (cyI, 1000, .inl R.2.2.2.1)), (a9_24, .inl (cyI, 1000, .inl R.2.2.2.2.1)), (a9_25, .inl (cyI, 1000, .inl R.2.2.2.2.2.1)), (a9_26, .inl (cyI, 1000, .inl R.2.2.2.2.2.2.1)), (a9_27, .inl (cyI, 1000, .inl R.2.2.2.2.2.2.2))]) (va_A [(o9, .inr (9, x_O9 v9_0 v9_1 v9_2 v9_3 a9_4 a9_5 a9_6 a9_7 a9_8 a9_9 a9_10 a9_11 a9_12 v9_13 v9_14 v9_15 v9_16 v9_17 v9_18 a9_19 v9_20 v9_21 v9_22 a9_23 a9_24 a9_25 a9_26 a9_27 a9_28 a9_29 a9_30 a9_31 a9_32 a9_33 a9_34 v9_35 v9_36 a9_37 a9_38 a9_39 a9_40 a9_41 v9_42 a9_43 a9_44 a9_45 a9_46 a9_47 v9_48 v9_49 v9_50 v9_51 a9_52 a9_53 v9_54 v9_55 a9_56 a9_57 v9_58 a9_59 a9_60 a9_61)), (a9_23, .inl (cyI, 1000, .inl g9_23)), (a9_24, .inl (cyI, 1000, .inl g9_24)), (a9_25, .inl (cyI, 1000, .inl g9_25)), (a9_26, .inl (cyI, 1000, .inl g9_26)), (a9_27, .inl (cyI, 1000, .inl g9_27))] sz)) 0 0 (va_A [(o9, .inr (9, x_O9 v9_0 v9_1 v9_2 v9_3 a9_4 a9_5 a9_6 a9_7 a9_8 a9_9 a9_10 a9_11 a9_12 v9_13 v9_14 v9_15 v9_16 v9_17 v9_18 a9_19 v9_20 v9_21 v9_22 a9_23 a9_24 a9_25 a9_26 a9_27 a9_28 a9_29 a9_30 a9_31 a9_32 a9_33 a9_34 v9_35 v9_36 a9_37 a9_38 a9_39 a9_40 a9_41 v9_42 a9_43 a9_44 a9_45 a9_46 a9_47 v9_48 v9_49 v9_50 v9_51 a9_52 a9_53 v9_54 v9_55 a9_56 a9_57 v9_58 a9_59 a9_60 a9_61)), (a9_23, .inl (cyI, 1000, .inl g9_23)), (a9_24, .inl (cyI, 1000, .inl g9_24)), (a9_25, .inl (cyI, 1000, .inl g9_25)), (a9_26, .inl (cyI, 1000, .inl g9_26)), (a9_27, .inl (cyI, 1000, .inl g9_27))] sz) := by
  refine Met.ofW (cc := cX9_put) (maxL := 4) (ret := (some .int)) (by decide) rfl ?_
  intro p e s m args below meth c s₁ B hml hv
  obtain ⟨rfl, ⟨hsz, hP, hK, hN⟩, hD0⟩ := hv
  have hx := B.exec
  have hb := B.bytes
  have hr := B.returns
  have hts := atoms_spec (ws := wsX9_put) B.pre
  have hown : s.vm.findClass RX9 = some m.cls := findClass_of_methodNamed B.named
  have k_1 := hts (.fieldLink RX9 1 "FlowJudgeModel" "thrown" "I") (by decide +kernel)
  have k_2 := hts (.fieldLink RX9 179 "FlowJudgeModel" "many" "I") (by decide +kernel)
  have k_3 := hts (.fieldLink RX9 51 "FlowJudgeModel" "op" "[I") (by decide +kernel)
  have k_4 := hts (.fieldLink RX9 54 "FlowJudgeModel" "one" "[I") (by decide +kernel)
  have k_5 := hts (.fieldLink RX9 57 "FlowJudgeModel" "two" "[I") (by decide +kernel)
  have k_6 := hts (.fieldLink RX9 60 "FlowJudgeModel" "toAt" "[I") (by decide +kernel)
  have k_7 := hts (.fieldLink RX9 185 "FlowJudgeModel" "tos" "I") (by decide +kernel)
  have k_8 := hts (.fieldLink RX9 63 "FlowJudgeModel" "toMany" "[I") (by decide +kernel)
  subst hsz
  have hD := hD0.self (sz := s.heap.size)
  generalize hAe : va_A [(o9, .inr (9, x_O9 v9_0 v9_1 v9_2 v9_3 a9_4 a9_5 a9_6 a9_7 a9_8 a9_9 a9_10 a9_11 a9_12 v9_13 v9_14 v9_15 v9_16 v9_17 v9_18 a9_19 v9_20 v9_21 v9_22 a9_23 a9_24 a9_25 a9_26 a9_27 a9_28 a9_29 a9_30 a9_31 a9_32 a9_33 a9_34 v9_35 v9_36 a9_37 a9_38 a9_39 a9_40 a9_41 v9_42 a9_43 a9_44 a9_45 a9_46 a9_47 v9_48 v9_49 v9_50 v9_51 a9_52 a9_53 v9_54 v9_55 a9_56 a9_57 v9_58 a9_59 a9_60 a9_61)), (a9_23, .inl (cyI, 1000, .inl g9_23)), (a9_24, .inl (cyI, 1000, .inl g9_24)), (a9_25, .inl (cyI, 1000, .inl g9_25)), (a9_26, .inl (cyI, 1000, .inl g9_26)), (a9_27, .inl (cyI, 1000, .inl g9_27))] s.heap.size = A at hD ⊢
  have hA : ∀ q : Nat, s.heap.size ≤ q → A q := fun q h => by rw [← hAe]; exact Or.inr h
  have hP : va_P (dC, dI) vwCl [(o9, .inr (9, x_O9 v9_0 v9_1 v9_2 v9_3 a9_4 a9_5 a9_6 a9_7 a9_8 a9_9 a9_10 a9_11 a9_12 v9_13 v9_14 v9_15 v9_16 v9_17 v9_18 a9_19 v9_20 v9_21 v9_22 a9_23 a9_24 a9_25 a9_26 a9_27 a9_28 a9_29 a9_30 a9_31 a9_32 a9_33 a9_34 v9_35 v9_36 a9_37 a9_38 a9_39 a9_40 a9_41 v9_42 a9_43 a9_44 a9_45 a9_46 a9_47 v9_48 v9_49 v9_50 v9_51 a9_52 a9_53 v9_54 v9_55 a9_56 a9_57 v9_58 a9_59 a9_60 a9_61)), (a9_23, .inl (cyI, 1000, .inl g9_23)), (a9_24, .inl (cyI, 1000, .inl g9_24)), (a9_25, .inl (cyI, 1000, .inl g9_25)), (a9_26, .inl (cyI, 1000, .inl g9_26)), (a9_27, .inl (cyI, 1000, .inl g9_27))] s.heap := hP
  have hl := lv_entry ([.ref o9, .int p1, .int p2, .int p3]) (n := 4) (Nat.le_of_ble_eq_true rfl)
  rw [lg_entry_eq]
  generalize (lg_sl ([.ref o9, .int p1, .int p2, .int p3]) ++ List.replicate (4 - (lg_sl ([.ref o9, .int p1, .int p2, .int p3])).length) Slot.unset).toArray = ls at hl ⊢
  have hl : lv_has ls 4 [(0, .ref o9), (1, .int p1), (2, .int p2), (3, .int p3)] := hl
  obtain ⟨H, hH⟩ : ∃ z, z = s.heap := ⟨_, rfl⟩
  refine x_here hH ?_
  have hP : va_P (dC, dI) vwCl [(o9, .inr (9, x_O9 v9_0 v9_1 v9_2 v9_3 a9_4 a9_5 a9_6 a9_7 a9_8 a9_9 a9_10 a9_11 a9_12 v9_13 v9_14 v9_15 v9_16 v9_17 v9_18 a9_19 v9_20 v9_21 v9_22 a9_23 a9_24 a9_25 a9_26 a9_27 a9_28 a9_29 a9_30 a9_31 a9_32 a9_33 a9_34 v9_35 v9_36 a9_37 a9_38 a9_39 a9_40 a9_41 v9_42 a9_43 a9_44 a9_45 a9_46 a9_47 v9_48 v9_49 v9_50 v9_51 a9_52 a9_53 v9_54 v9_55 a9_56 a9_57 v9_58 a9_59 a9_60 a9_61)), (a9_23, .inl (cyI, 1000, .inl g9_23)), (a9_24, .inl (cyI, 1000, .inl g9_24)), (a9_25, .inl (cyI, 1000, .inl g9_25)), (a9_26, .inl (cyI, 1000, .inl g9_26)), (a9_27, .inl (cyI, 1000, .inl g9_27))] H := by rw [hH]; exact hP
  have hS : va_S A s.heap H [] := by rw [hH]; exact va_S.rf
  clear hH
  obtain ⟨locs, hlo⟩ : ∃ z : List Loc, z = [] := ⟨_, rfl⟩
  refine x_herl hlo ?_
  have hS : va_S A s.heap H locs := by rw [hlo]; exact hS
  clear hlo
  unfold f_X9_put at hf
  refine lv_aload_n hx hb dX9_put_0 rfl (lv_at hl 0 rfl) ?_
  refine lv_iconst (v := 0) hx hb dX9_put_1 (by decide) ?_
  refine va_put (D := (dC, dI)) (ci := 9) (v := .int 0) (ty := .int) (C := RX9) (T := TX9) (N := 62) hx hb hts i_X9_put_X9 tyX9 tyX9_ok nmX9 hown hK hP hD hS 0 rfl rfl 0 (by decide) k_1 (fun _ h9 => h9) rfl (by decide +kernel) rfl rfl (Nat.le_of_ble_eq_true rfl) dX9_put_2 (fun H locs hP hD hS => ?_)
  have hP : va_P (dC, dI) vwCl [(o9, .inr (9, x_O9 0 v9_1 v9_2 v9_3 a9_4 a9_5 a9_6 a9_7 a9_8 a9_9 a9_10 a9_11 a9_12 v9_13 v9_14 v9_15 v9_16 v9_17 v9_18 a9_19 v9_20 v9_21 v9_22 a9_23 a9_24 a9_25 a9_26 a9_27 a9_28 a9_29 a9_30 a9_31 a9_32 a9_33 a9_34 v9_35 v9_36 a9_37 a9_38 a9_39 a9_40 a9_41 v9_42 a9_43 a9_44 a9_45 a9_46 a9_47 v9_48 v9_49 v9_50 v9_51 a9_52 a9_53 v9_54 v9_55 a9_56 a9_57 v9_58 a9_59 a9_60 a9_61)), (a9_23, .inl (cyI, 1000, .inl g9_23)), (a9_24, .inl (cyI, 1000, .inl g9_24)), (a9_25, .inl (cyI, 1000, .inl g9_25)), (a9_26, .inl (cyI, 1000, .inl g9_26)), (a9_27, .inl (cyI, 1000, .inl g9_27))] H := hP
  have hD : va_D A [(o9, .inr (9, x_O9 0 v9_1 v9_2 v9_3 a9_4 a9_5 a9_6 a9_7 a9_8 a9_9 a9_10 a9_11 a9_12 v9_13 v9_14 v9_15 v9_16 v9_17 v9_18 a9_19 v9_20 v9_21 v9_22 a9_23 a9_24 a9_25 a9_26 a9_27 a9_28 a9_29 a9_30 a9_31 a9_32 a9_33 a9_34 v9_35 v9_36 a9_37 a9_38 a9_39 a9_40 a9_41 v9_42 a9_43 a9_44 a9_45 a9_46 a9_47 v9_48 v9_49 v9_50 v9_51 a9_52 a9_53 v9_54 v9_55 a9_56 a9_57 v9_58 a9_59 a9_60 a9_61)), (a9_23, .inl (cyI, 1000, .inl g9_23)), (a9_24, .inl (cyI, 1000, .inl g9_24)), (a9_25, .inl (cyI, 1000, .inl g9_25)), (a9_26, .inl (cyI, 1000, .inl g9_26)), (a9_27, .inl (cyI, 1000, .inl g9_27))] := hD
  refine lv_aload_n hx hb dX9_put_5 rfl (lv_at hl 0 rfl) ?_
  refine lv_iload_n hx hb dX9_put_6 rfl (lv_at hl 1 rfl) ?_
  refine lv_iload_n hx hb dX9_put_7 rfl (lv_at hl 2 rfl) ?_
  refine lv_iload_n hx hb dX9_put_8 rfl (lv_at hl 3 rfl) ?_
  obtain ⟨r_1, h_1, hf⟩ := x_bi hf
  have hPc := hP.sub (ws' := [(o9, .inr (9, x_O9 0 v9_1 v9_2 v9_3 a9_4 a9_5 a9_6 a9_7 a9_8 a9_9 a9_10 a9_11 a9_12 v9_13 v9_14 v9_15 v9_16 v9_17 v9_18 a9_19 v9_20 v9_21 v9_22 a9_23 a9_24 a9_25 a9_26 a9_27 a9_28 a9_29 a9_30 a9_31 a9_32 a9_33 a9_34 v9_35 v9_36 a9_37 a9_38 a9_39 a9_40 a9_41 v9_42 a9_43 a9_44 a9_45 a9_46 a9_47 v9_48 v9_49 v9_50 v9_51 a9_52 a9_53 v9_54 v9_55 a9_56 a9_57 v9_58 a9_59 a9_60 a9_61))]) [0] rfl
  refine va_calli (va_runV (As := [.int p1, .int p2, .int p3]) (rest := []) ⟨hx, hb, hml, hown, hts⟩ (c_X9_fits l dC dI cyI cyZ cyJ H.size o9 0 v9_1 v9_2 v9_3 a9_4 a9_5 a9_6 a9_7 a9_8 a9_9 a9_10 a9_11 a9_12 v9_13 v9_14 v9_15 v9_16 v9_17 v9_18 a9_19 v9_20 v9_21 v9_22 a9_23 a9_24 a9_25 a9_26 a9_27 a9_28 a9_29 a9_30 a9_31 a9_32 a9_33 a9_34 v9_35 v9_36 a9_37 a9_38 a9_39 a9_40 a9_41 v9_42 a9_43 a9_44 a9_45 a9_46 a9_47 v9_48 v9_49 v9_50 v9_51 a9_52 a9_53 v9_54 v9_55 a9_56 a9_57 v9_58 a9_59 a9_60 a9_61 p1 p2 p3 r_1 h_1) (cwV 3 hts gX9_put_X9_fits rfl rfl rfl (by decide +kernel) ⟨Nat.le_of_ble_eq_true rfl, Nat.le_of_ble_eq_true rfl⟩) (x_pV hN hK hPc (ci := 9) (q0 := 0) rfl rfl) rfl rfl hl.1 rfl (lv_room (Nat.le_of_ble_eq_true rfl)) dX9_put_9 ⟨Nat.le_of_ble_eq_true rfl, Nat.le_of_ble_eq_true rfl⟩) hS x_nA (x_nf hA hS) (fun q_1 u t H1 locs ht hvm hw hB hz1 hk1 hS => ?_)
  have hP := x_kp hP hk1
  clear ht hvm hB hz1 hk1 t u hPc
  generalize H1 = H at hP hS ⊢
  obtain ⟨hw, b_1⟩ := hw
  obtain rfl := hw.symm
  refine lv_if_ne (tgt := 20) hx hb dX9_put_12 (by decide) (fun c_2 => ?_) (fun c_2 => ?_)
  · replace hf := x_in c_2 hf
    refine lv_aload_n hx hb dX9_put_20 rfl (lv_at hl 0 rfl) ?_
    refine va_get (D := (dC, dI)) (ci := 9) (v := .int v9_20) (C := RX9) (T := TX9) (N := 62) hx hb hts i_X9_put_X9 hown hK hP 0 rfl rfl 20 (by decide) k_2 (fun _ h9 => h9) rfl dX9_put_21 ?_
    refine lv_sipush (v := 1000) hx hb dX9_put_24 (by decide) ?_
    refine lv_icmp_ne (tgt := 35) hx hb dX9_put_27 (by decide) (fun c_3 => ?_) (fun c_3 => ?_)
    · replace hf := x_in c_3 hf
      refine lv_aload_n hx hb dX9_put_35 rfl (lv_at hl 0 rfl) ?_
      refine va_get (D := (dC, dI)) (ci := 9) (v := .ref a9_23) (C := RX9) (T := TX9) (N := 62) hx hb hts i_X9_put_X9 hown hK hP 0 rfl rfl 23 (by decide) k_3 (fun _ h9 => h9) rfl dX9_put_36 ?_
      refine lv_aload_n hx hb dX9_put_39 rfl (lv_at hl 0 rfl) ?_
      refine va_get (D := (dC, dI)) (ci := 9) (v := .int v9_20) (C := RX9) (T := TX9) (N := 62) hx hb hts i_X9_put_X9 hown hK hP 0 rfl rfl 20 (by decide) k_2 (fun _ h9 => h9) rfl dX9_put_40 ?_
      refine lv_iload_n hx hb dX9_put_43 rfl (lv_at hl 1 rfl) ?_
      obtain ⟨g_4, hf⟩ := x_gu hf
      refine va_iast hx hb hK hP hD hS 1 0 rfl rfl (x_gdin g_4) dX9_put_44 (fun H locs hP hD hS => ?_)
      have hP : va_P (dC, dI) vwCl [(o9, .inr (9, x_O9 0 v9_1 v9_2 v9_3 a9_4 a9_5 a9_6 a9_7 a9_8 a9_9 a9_10 a9_11 a9_12 v9_13 v9_14 v9_15 v9_16 v9_17 v9_18 a9_19 v9_20 v9_21 v9_22 a9_23 a9_24 a9_25 a9_26 a9_27 a9_28 a9_29 a9_30 a9_31 a9_32 a9_33 a9_34 v9_35 v9_36 a9_37 a9_38 a9_39 a9_40 a9_41 v9_42 a9_43 a9_44 a9_45 a9_46 a9_47 v9_48 v9_49 v9_50 v9_51 a9_52 a9_53 v9_54 v9_55 a9_56 a9_57 v9_58 a9_59 a9_60 a9_61)), (a9_23, .inl (cyI, 1000, .inl (upd g9_23 (Int32.toNatClampNeg v9_20) p1))), (a9_24, .inl (cyI, 1000, .inl g9_24)), (a9_25, .inl (cyI, 1000, .inl g9_25)), (a9_26, .inl (cyI, 1000, .inl g9_26)), (a9_27, .inl (cyI, 1000, .inl g9_27))] H := hP
      have hD : va_D A [(o9, .inr (9, x_O9 0 v9_1 v9_2 v9_3 a9_4 a9_5 a9_6 a9_7 a9_8 a9_9 a9_10 a9_11 a9_12 v9_13 v9_14 v9_15 v9_16 v9_17 v9_18 a9_19 v9_20 v9_21 v9_22 a9_23 a9_24 a9_25 a9_26 a9_27 a9_28 a9_29 a9_30 a9_31 a9_32 a9_33 a9_34 v9_35 v9_36 a9_37 a9_38 a9_39 a9_40 a9_41 v9_42 a9_43 a9_44 a9_45 a9_46 a9_47 v9_48 v9_49 v9_50 v9_51 a9_52 a9_53 v9_54 v9_55 a9_56 a9_57 v9_58 a9_59 a9_60 a9_61)), (a9_23, .inl (cyI, 1000, .inl (upd g9_23 (Int32.toNatClampNeg v9_20) p1))), (a9_24, .inl (cyI, 1000, .inl g9_24)), (a9_25, .inl (cyI, 1000, .inl g9_25)), (a9_26, .inl (cyI, 1000, .inl g9_26)), (a9_27, .inl (cyI, 1000, .inl g9_27))] := hD
      refine lv_aload_n hx hb dX9_put_45 rfl (lv_at hl 0 rfl) ?_
      refine va_get (D := (dC, dI)) (ci := 9) (v := .ref a9_24) (C := RX9) (T := TX9) (N := 62) hx hb hts i_X9_put_X9 hown hK hP 0 rfl rfl 24 (by decide) k_4 (fun _ h9 => h9) rfl dX9_put_46 ?_
      refine lv_aload_n hx hb dX9_put_49 rfl (lv_at hl 0 rfl) ?_
      refine va_get (D := (dC, dI)) (ci := 9) (v := .int v9_20) (C := RX9) (T := TX9) (N := 62) hx hb hts i_X9_put_X9 hown hK hP 0 rfl rfl 20 (by decide) k_2 (fun _ h9 => h9) rfl dX9_put_50 ?_
      refine lv_iload_n hx hb dX9_put_53 rfl (lv_at hl 2 rfl) ?_
      obtain ⟨g_5, hf⟩ := x_gu hf
      refine va_iast hx hb hK hP hD hS 2 0 rfl rfl (x_gdin g_5) dX9_put_54 (fun H locs hP hD hS => ?_)
      have hP : va_P (dC, dI) vwCl [(o9, .inr (9, x_O9 0 v9_1 v9_2 v9_3 a9_4 a9_5 a9_6 a9_7 a9_8 a9_9 a9_10 a9_11 a9_12 v9_13 v9_14 v9_15 v9_16 v9_17 v9_18 a9_19 v9_20 v9_21 v9_22 a9_23 a9_24 a9_25 a9_26 a9_27 a9_28 a9_29 a9_30 a9_31 a9_32 a9_33 a9_34 v9_35 v9_36 a9_37 a9_38 a9_39 a9_40 a9_41 v9_42 a9_43 a9_44 a9_45 a9_46 a9_47 v9_48 v9_49 v9_50 v9_51 a9_52 a9_53 v9_54 v9_55 a9_56 a9_57 v9_58 a9_59 a9_60 a9_61)), (a9_23, .inl (cyI, 1000, .inl (upd g9_23 (Int32.toNatClampNeg v9_20) p1))), (a9_24, .inl (cyI, 1000, .inl (upd g9_24 (Int32.toNatClampNeg v9_20) p2))), (a9_25, .inl (cyI, 1000, .inl g9_25)), (a9_26, .inl (cyI, 1000, .inl g9_26)), (a9_27, .inl (cyI, 1000, .inl g9_27))] H := hP
      have hD : va_D A [(o9, .inr (9, x_O9 0 v9_1 v9_2 v9_3 a9_4 a9_5 a9_6 a9_7 a9_8 a9_9 a9_10 a9_11 a9_12 v9_13 v9_14 v9_15 v9_16 v9_17 v9_18 a9_19 v9_20 v9_21 v9_22 a9_23 a9_24 a9_25 a9_26 a9_27 a9_28 a9_29 a9_30 a9_31 a9_32 a9_33 a9_34 v9_35 v9_36 a9_37 a9_38 a9_39 a9_40 a9_41 v9_42 a9_43 a9_44 a9_45 a9_46 a9_47 v9_48 v9_49 v9_50 v9_51 a9_52 a9_53 v9_54 v9_55 a9_56 a9_57 v9_58 a9_59 a9_60 a9_61)), (a9_23, .inl (cyI, 1000, .inl (upd g9_23 (Int32.toNatClampNeg v9_20) p1))), (a9_24, .inl (cyI, 1000, .inl (upd g9_24 (Int32.toNatClampNeg v9_20) p2))), (a9_25, .inl (cyI, 1000, .inl g9_25)), (a9_26, .inl (cyI, 1000, .inl g9_26)), (a9_27, .inl (cyI, 1000, .inl g9_27))] := hD
      refine lv_aload_n hx hb dX9_put_55 rfl (lv_at hl 0 rfl) ?_
      refine va_get (D := (dC, dI)) (ci := 9) (v := .ref a9_25) (C := RX9) (T := TX9) (N := 62) hx hb hts i_X9_put_X9 hown hK hP 0 rfl rfl 25 (by decide) k_5 (fun _ h9 => h9) rfl dX9_put_56 ?_
      refine lv_aload_n hx hb dX9_put_59 rfl (lv_at hl 0 rfl) ?_
      refine va_get (D := (dC, dI)) (ci := 9) (v := .int v9_20) (C := RX9) (T := TX9) (N := 62) hx hb hts i_X9_put_X9 hown hK hP 0 rfl rfl 20 (by decide) k_2 (fun _ h9 => h9) rfl dX9_put_60 ?_
      refine lv_iload_n hx hb dX9_put_63 rfl (lv_at hl 3 rfl) ?_
      obtain ⟨g_6, hf⟩ := x_gu hf
      refine va_iast hx hb hK hP hD hS 3 0 rfl rfl (x_gdin g_6) dX9_put_64 (fun H locs hP hD hS => ?_)
      have hP : va_P (dC, dI) vwCl [(o9, .inr (9, x_O9 0 v9_1 v9_2 v9_3 a9_4 a9_5 a9_6 a9_7 a9_8 a9_9 a9_10 a9_11 a9_12 v9_13 v9_14 v9_15 v9_16 v9_17 v9_18 a9_19 v9_20 v9_21 v9_22 a9_23 a9_24 a9_25 a9_26 a9_27 a9_28 a9_29 a9_30 a9_31 a9_32 a9_33 a9_34 v9_35 v9_36 a9_37 a9_38 a9_39 a9_40 a9_41 v9_42 a9_43 a9_44 a9_45 a9_46 a9_47 v9_48 v9_49 v9_50 v9_51 a9_52 a9_53 v9_54 v9_55 a9_56 a9_57 v9_58 a9_59 a9_60 a9_61)), (a9_23, .inl (cyI, 1000, .inl (upd g9_23 (Int32.toNatClampNeg v9_20) p1))), (a9_24, .inl (cyI, 1000, .inl (upd g9_24 (Int32.toNatClampNeg v9_20) p2))), (a9_25, .inl (cyI, 1000, .inl (upd g9_25 (Int32.toNatClampNeg v9_20) p3))), (a9_26, .inl (cyI, 1000, .inl g9_26)), (a9_27, .inl (cyI, 1000, .inl g9_27))] H := hP
      have hD : va_D A [(o9, .inr (9, x_O9 0 v9_1 v9_2 v9_3 a9_4 a9_5 a9_6 a9_7 a9_8 a9_9 a9_10 a9_11 a9_12 v9_13 v9_14 v9_15 v9_16 v9_17 v9_18 a9_19 v9_20 v9_21 v9_22 a9_23 a9_24 a9_25 a9_26 a9_27 a9_28 a9_29 a9_30 a9_31 a9_32 a9_33 a9_34 v9_35 v9_36 a9_37 a9_38 a9_39 a9_40 a9_41 v9_42 a9_43 a9_44 a9_45 a9_46 a9_47 v9_48 v9_49 v9_50 v9_51 a9_52 a9_53 v9_54 v9_55 a9_56 a9_57 v9_58 a9_59 a9_60 a9_61)), (a9_23, .inl (cyI, 1000, .inl (upd g9_23 (Int32.toNatClampNeg v9_20) p1))), (a9_24, .inl (cyI, 1000, .inl (upd g9_24 (Int32.toNatClampNeg v9_20) p2))), (a9_25, .inl (cyI, 1000, .inl (upd g9_25 (Int32.toNatClampNeg v9_20) p3))), (a9_26, .inl (cyI, 1000, .inl g9_26)), (a9_27, .inl (cyI, 1000, .inl g9_27))] := hD
      refine lv_aload_n hx hb dX9_put_65 rfl (lv_at hl 0 rfl) ?_
      refine va_get (D := (dC, dI)) (ci := 9) (v := .ref a9_26) (C := RX9) (T := TX9) (N := 62) hx hb hts i_X9_put_X9 hown hK hP 0 rfl rfl 26 (by decide) k_6 (fun _ h9 => h9) rfl dX9_put_66 ?_
      refine lv_aload_n hx hb dX9_put_69 rfl (lv_at hl 0 rfl) ?_
      refine va_get (D := (dC, dI)) (ci := 9) (v := .int v9_20) (C := RX9) (T := TX9) (N := 62) hx hb hts i_X9_put_X9 hown hK hP 0 rfl rfl 20 (by decide) k_2 (fun _ h9 => h9) rfl dX9_put_70 ?_
      refine lv_aload_n hx hb dX9_put_73 rfl (lv_at hl 0 rfl) ?_
      refine va_get (D := (dC, dI)) (ci := 9) (v := .int v9_22) (C := RX9) (T := TX9) (N := 62) hx hb hts i_X9_put_X9 hown hK hP 0 rfl rfl 22 (by decide) k_7 (fun _ h9 => h9) rfl dX9_put_74 ?_
      obtain ⟨g_7, hf⟩ := x_gu hf
      refine va_iast hx hb hK hP hD hS 4 0 rfl rfl (x_gdin g_7) dX9_put_77 (fun H locs hP hD hS => ?_)
      have hP : va_P (dC, dI) vwCl [(o9, .inr (9, x_O9 0 v9_1 v9_2 v9_3 a9_4 a9_5 a9_6 a9_7 a9_8 a9_9 a9_10 a9_11 a9_12 v9_13 v9_14 v9_15 v9_16 v9_17 v9_18 a9_19 v9_20 v9_21 v9_22 a9_23 a9_24 a9_25 a9_26 a9_27 a9_28 a9_29 a9_30 a9_31 a9_32 a9_33 a9_34 v9_35 v9_36 a9_37 a9_38 a9_39 a9_40 a9_41 v9_42 a9_43 a9_44 a9_45 a9_46 a9_47 v9_48 v9_49 v9_50 v9_51 a9_52 a9_53 v9_54 v9_55 a9_56 a9_57 v9_58 a9_59 a9_60 a9_61)), (a9_23, .inl (cyI, 1000, .inl (upd g9_23 (Int32.toNatClampNeg v9_20) p1))), (a9_24, .inl (cyI, 1000, .inl (upd g9_24 (Int32.toNatClampNeg v9_20) p2))), (a9_25, .inl (cyI, 1000, .inl (upd g9_25 (Int32.toNatClampNeg v9_20) p3))), (a9_26, .inl (cyI, 1000, .inl (upd g9_26 (Int32.toNatClampNeg v9_20) v9_22))), (a9_27, .inl (cyI, 1000, .inl g9_27))] H := hP
      have hD : va_D A [(o9, .inr (9, x_O9 0 v9_1 v9_2 v9_3 a9_4 a9_5 a9_6 a9_7 a9_8 a9_9 a9_10 a9_11 a9_12 v9_13 v9_14 v9_15 v9_16 v9_17 v9_18 a9_19 v9_20 v9_21 v9_22 a9_23 a9_24 a9_25 a9_26 a9_27 a9_28 a9_29 a9_30 a9_31 a9_32 a9_33 a9_34 v9_35 v9_36 a9_37 a9_38 a9_39 a9_40 a9_41 v9_42 a9_43 a9_44 a9_45 a9_46 a9_47 v9_48 v9_49 v9_50 v9_51 a9_52 a9_53 v9_54 v9_55 a9_56 a9_57 v9_58 a9_59 a9_60 a9_61)), (a9_23, .inl (cyI, 1000, .inl (upd g9_23 (Int32.toNatClampNeg v9_20) p1))), (a9_24, .inl (cyI, 1000, .inl (upd g9_24 (Int32.toNatClampNeg v9_20) p2))), (a9_25, .inl (cyI, 1000, .inl (upd g9_25 (Int32.toNatClampNeg v9_20) p3))), (a9_26, .inl (cyI, 1000, .inl (upd g9_26 (Int32.toNatClampNeg v9_20) v9_22))), (a9_27, .inl (cyI, 1000, .inl g9_27))] := hD
      refine lv_aload_n hx hb dX9_put_78 rfl (lv_at hl 0 rfl) ?_
      refine va_get (D := (dC, dI)) (ci := 9) (v := .ref a9_27) (C := RX9) (T := TX9) (N := 62) hx hb hts i_X9_put_X9 hown hK hP 0 rfl rfl 27 (by decide) k_8 (fun _ h9 => h9) rfl dX9_put_79 ?_
      refine lv_aload_n hx hb dX9_put_82 rfl (lv_at hl 0 rfl) ?_
      refine va_get (D := (dC, dI)) (ci := 9) (v := .int v9_20) (C := RX9) (T := TX9) (N := 62) hx hb hts i_X9_put_X9 hown hK hP 0 rfl rfl 20 (by decide) k_2 (fun _ h9 => h9) rfl dX9_put_83 ?_
      refine lv_iconst (v := 0) hx hb dX9_put_86 (by decide) ?_
      obtain ⟨g_8, hf⟩ := x_gu hf
      refine va_iast hx hb hK hP hD hS 5 0 rfl rfl (x_gdin g_8) dX9_put_87 (fun H locs hP hD hS => ?_)
      have hP : va_P (dC, dI) vwCl [(o9, .inr (9, x_O9 0 v9_1 v9_2 v9_3 a9_4 a9_5 a9_6 a9_7 a9_8 a9_9 a9_10 a9_11 a9_12 v9_13 v9_14 v9_15 v9_16 v9_17 v9_18 a9_19 v9_20 v9_21 v9_22 a9_23 a9_24 a9_25 a9_26 a9_27 a9_28 a9_29 a9_30 a9_31 a9_32 a9_33 a9_34 v9_35 v9_36 a9_37 a9_38 a9_39 a9_40 a9_41 v9_42 a9_43 a9_44 a9_45 a9_46 a9_47 v9_48 v9_49 v9_50 v9_51 a9_52 a9_53 v9_54 v9_55 a9_56 a9_57 v9_58 a9_59 a9_60 a9_61)), (a9_23, .inl (cyI, 1000, .inl (upd g9_23 (Int32.toNatClampNeg v9_20) p1))), (a9_24, .inl (cyI, 1000, .inl (upd g9_24 (Int32.toNatClampNeg v9_20) p2))), (a9_25, .inl (cyI, 1000, .inl (upd g9_25 (Int32.toNatClampNeg v9_20) p3))), (a9_26, .inl (cyI, 1000, .inl (upd g9_26 (Int32.toNatClampNeg v9_20) v9_22))), (a9_27, .inl (cyI, 1000, .inl (upd g9_27 (Int32.toNatClampNeg v9_20) 0)))] H := hP
      have hD : va_D A [(o9, .inr (9, x_O9 0 v9_1 v9_2 v9_3 a9_4 a9_5 a9_6 a9_7 a9_8 a9_9 a9_10 a9_11 a9_12 v9_13 v9_14 v9_15 v9_16 v9_17 v9_18 a9_19 v9_20 v9_21 v9_22 a9_23 a9_24 a9_25 a9_26 a9_27 a9_28 a9_29 a9_30 a9_31 a9_32 a9_33 a9_34 v9_35 v9_36 a9_37 a9_38 a9_39 a9_40 a9_41 v9_42 a9_43 a9_44 a9_45 a9_46 a9_47 v9_48 v9_49 v9_50 v9_51 a9_52 a9_53 v9_54 v9_55 a9_56 a9_57 v9_58 a9_59 a9_60 a9_61)), (a9_23, .inl (cyI, 1000, .inl (upd g9_23 (Int32.toNatClampNeg v9_20) p1))), (a9_24, .inl (cyI, 1000, .inl (upd g9_24 (Int32.toNatClampNeg v9_20) p2))), (a9_25, .inl (cyI, 1000, .inl (upd g9_25 (Int32.toNatClampNeg v9_20) p3))), (a9_26, .inl (cyI, 1000, .inl (upd g9_26 (Int32.toNatClampNeg v9_20) v9_22))), (a9_27, .inl (cyI, 1000, .inl (upd g9_27 (Int32.toNatClampNeg v9_20) 0)))] := hD
      refine lv_aload_n hx hb dX9_put_88 rfl (lv_at hl 0 rfl) ?_
      refine lv_dup hx hb dX9_put_89 rfl ?_
      refine va_get (D := (dC, dI)) (ci := 9) (v := .int v9_20) (C := RX9) (T := TX9) (N := 62) hx hb hts i_X9_put_X9 hown hK hP 0 rfl rfl 20 (by decide) k_2 (fun _ h9 => h9) rfl dX9_put_90 ?_
      refine lv_dup_x1 hx hb dX9_put_93 rfl rfl ?_
      refine lv_iconst (v := 1) hx hb dX9_put_94 (by decide) ?_
      refine lv_iadd hx hb dX9_put_95 ?_
      refine va_put (D := (dC, dI)) (ci := 9) (v := .int (v9_20 + (1 : Int32))) (ty := .int) (C := RX9) (T := TX9) (N := 62) hx hb hts i_X9_put_X9 tyX9 tyX9_ok nmX9 hown hK hP hD hS 0 rfl rfl 20 (by decide) k_2 (fun _ h9 => h9) rfl (by decide +kernel) rfl rfl (Nat.le_of_ble_eq_true rfl) dX9_put_96 (fun H locs hP hD hS => ?_)
      have hP : va_P (dC, dI) vwCl [(o9, .inr (9, x_O9 0 v9_1 v9_2 v9_3 a9_4 a9_5 a9_6 a9_7 a9_8 a9_9 a9_10 a9_11 a9_12 v9_13 v9_14 v9_15 v9_16 v9_17 v9_18 a9_19 (v9_20 + (1 : Int32)) v9_21 v9_22 a9_23 a9_24 a9_25 a9_26 a9_27 a9_28 a9_29 a9_30 a9_31 a9_32 a9_33 a9_34 v9_35 v9_36 a9_37 a9_38 a9_39 a9_40 a9_41 v9_42 a9_43 a9_44 a9_45 a9_46 a9_47 v9_48 v9_49 v9_50 v9_51 a9_52 a9_53 v9_54 v9_55 a9_56 a9_57 v9_58 a9_59 a9_60 a9_61)), (a9_23, .inl (cyI, 1000, .inl (upd g9_23 (Int32.toNatClampNeg v9_20) p1))), (a9_24, .inl (cyI, 1000, .inl (upd g9_24 (Int32.toNatClampNeg v9_20) p2))), (a9_25, .inl (cyI, 1000, .inl (upd g9_25 (Int32.toNatClampNeg v9_20) p3))), (a9_26, .inl (cyI, 1000, .inl (upd g9_26 (Int32.toNatClampNeg v9_20) v9_22))), (a9_27, .inl (cyI, 1000, .inl (upd g9_27 (Int32.toNatClampNeg v9_20) 0)))] H := hP
      have hD : va_D A [(o9, .inr (9, x_O9 0 v9_1 v9_2 v9_3 a9_4 a9_5 a9_6 a9_7 a9_8 a9_9 a9_10 a9_11 a9_12 v9_13 v9_14 v9_15 v9_16 v9_17 v9_18 a9_19 (v9_20 + (1 : Int32)) v9_21 v9_22 a9_23 a9_24 a9_25 a9_26 a9_27 a9_28 a9_29 a9_30 a9_31 a9_32 a9_33 a9_34 v9_35 v9_36 a9_37 a9_38 a9_39 a9_40 a9_41 v9_42 a9_43 a9_44 a9_45 a9_46 a9_47 v9_48 v9_49 v9_50 v9_51 a9_52 a9_53 v9_54 v9_55 a9_56 a9_57 v9_58 a9_59 a9_60 a9_61)), (a9_23, .inl (cyI, 1000, .inl (upd g9_23 (Int32.toNatClampNeg v9_20) p1))), (a9_24, .inl (cyI, 1000, .inl (upd g9_24 (Int32.toNatClampNeg v9_20) p2))), (a9_25, .inl (cyI, 1000, .inl (upd g9_25 (Int32.toNatClampNeg v9_20) p3))), (a9_26, .inl (cyI, 1000, .inl (upd g9_26 (Int32.toNatClampNeg v9_20) v9_22))), (a9_27, .inl (cyI, 1000, .inl (upd g9_27 (Int32.toNatClampNeg v9_20) 0)))] := hD
      obtain rfl := Option.some.inj hf
      have hP9 := hP.sub (ws' := [(o9, .inr (9, x_O9 0 v9_1 v9_2 v9_3 a9_4 a9_5 a9_6 a9_7 a9_8 a9_9 a9_10 a9_11 a9_12 v9_13 v9_14 v9_15 v9_16 v9_17 v9_18 a9_19 (v9_20 + (1 : Int32)) v9_21 v9_22 a9_23 a9_24 a9_25 a9_26 a9_27 a9_28 a9_29 a9_30 a9_31 a9_32 a9_33 a9_34 v9_35 v9_36 a9_37 a9_38 a9_39 a9_40 a9_41 v9_42 a9_43 a9_44 a9_45 a9_46 a9_47 v9_48 v9_49 v9_50 v9_51 a9_52 a9_53 v9_54 v9_55 a9_56 a9_57 v9_58 a9_59 a9_60 a9_61)), (a9_23, .inl (cyI, 1000, .inl (upd g9_23 (Int32.toNatClampNeg v9_20) p1))), (a9_24, .inl (cyI, 1000, .inl (upd g9_24 (Int32.toNatClampNeg v9_20) p2))), (a9_25, .inl (cyI, 1000, .inl (upd g9_25 (Int32.toNatClampNeg v9_20) p3))), (a9_26, .inl (cyI, 1000, .inl (upd g9_26 (Int32.toNatClampNeg v9_20) v9_22))), (a9_27, .inl (cyI, 1000, .inl (upd g9_27 (Int32.toNatClampNeg v9_20) 0)))]) [0, 1, 2, 3, 4, 5] rfl
      have hD9 := hD.sub (ws' := [(o9, .inr (9, x_O9 0 v9_1 v9_2 v9_3 a9_4 a9_5 a9_6 a9_7 a9_8 a9_9 a9_10 a9_11 a9_12 v9_13 v9_14 v9_15 v9_16 v9_17 v9_18 a9_19 (v9_20 + (1 : Int32)) v9_21 v9_22 a9_23 a9_24 a9_25 a9_26 a9_27 a9_28 a9_29 a9_30 a9_31 a9_32 a9_33 a9_34 v9_35 v9_36 a9_37 a9_38 a9_39 a9_40 a9_41 v9_42 a9_43 a9_44 a9_45 a9_46 a9_47 v9_48 v9_49 v9_50 v9_51 a9_52 a9_53 v9_54 v9_55 a9_56 a9_57 v9_58 a9_59 a9_60 a9_61)), (a9_23, .inl (cyI, 1000, .inl (upd g9_23 (Int32.toNatClampNeg v9_20) p1))), (a9_24, .inl (cyI, 1000, .inl (upd g9_24 (Int32.toNatClampNeg v9_20) p2))), (a9_25, .inl (cyI, 1000, .inl (upd g9_25 (Int32.toNatClampNeg v9_20) p3))), (a9_26, .inl (cyI, 1000, .inl (upd g9_26 (Int32.toNatClampNeg v9_20) v9_22))), (a9_27, .inl (cyI, 1000, .inl (upd g9_27 (Int32.toNatClampNeg v9_20) 0)))]) [0, 1, 2, 3, 4, 5] (by decide) rfl
      exact W.iret hx hb hr (fun t ht hW => ⟨⟨_, (), rfl, rfl, by rw [ht]; exact hP9, va_K.moved hW.alike hK, hD9⟩, hS.F ht⟩) hS.2.2 dX9_put_99
    · replace hf := x_ip c_3 hf
      refine lv_aload_n hx hb dX9_put_30 rfl (lv_at hl 0 rfl) ?_
      obtain ⟨r_9, h_9, hf⟩ := x_bi hf
      have hPc := hP.sub (ws' := [(o9, .inr (9, x_O9 0 v9_1 v9_2 v9_3 a9_4 a9_5 a9_6 a9_7 a9_8 a9_9 a9_10 a9_11 a9_12 v9_13 v9_14 v9_15 v9_16 v9_17 v9_18 a9_19 v9_20 v9_21 v9_22 a9_23 a9_24 a9_25 a9_26 a9_27 a9_28 a9_29 a9_30 a9_31 a9_32 a9_33 a9_34 v9_35 v9_36 a9_37 a9_38 a9_39 a9_40 a9_41 v9_42 a9_43 a9_44 a9_45 a9_46 a9_47 v9_48 v9_49 v9_50 v9_51 a9_52 a9_53 v9_54 v9_55 a9_56 a9_57 v9_58 a9_59 a9_60 a9_61))]) [0] rfl
      have hDc := hD.sub (ws' := [(o9, .inr (9, x_O9 0 v9_1 v9_2 v9_3 a9_4 a9_5 a9_6 a9_7 a9_8 a9_9 a9_10 a9_11 a9_12 v9_13 v9_14 v9_15 v9_16 v9_17 v9_18 a9_19 v9_20 v9_21 v9_22 a9_23 a9_24 a9_25 a9_26 a9_27 a9_28 a9_29 a9_30 a9_31 a9_32 a9_33 a9_34 v9_35 v9_36 a9_37 a9_38 a9_39 a9_40 a9_41 v9_42 a9_43 a9_44 a9_45 a9_46 a9_47 v9_48 v9_49 v9_50 v9_51 a9_52 a9_53 v9_54 v9_55 a9_56 a9_57 v9_58 a9_59 a9_60 a9_61))]) [0] (by decide) rfl
      have hFc := va_free (wc := [(o9, .inr (9, x_O9 0 v9_1 v9_2 v9_3 a9_4 a9_5 a9_6 a9_7 a9_8 a9_9 a9_10 a9_11 a9_12 v9_13 v9_14 v9_15 v9_16 v9_17 v9_18 a9_19 v9_20 v9_21 v9_22 a9_23 a9_24 a9_25 a9_26 a9_27 a9_28 a9_29 a9_30 a9_31 a9_32 a9_33 a9_34 v9_35 v9_36 a9_37 a9_38 a9_39 a9_40 a9_41 v9_42 a9_43 a9_44 a9_45 a9_46 a9_47 v9_48 v9_49 v9_50 v9_51 a9_52 a9_53 v9_54 v9_55 a9_56 a9_57 v9_58 a9_59 a9_60 a9_61))]) hD hS hA [0] rfl
      refine va_calli (va_runV (As := []) (rest := []) ⟨hx, hb, hml, hown, hts⟩ (c_X9_full l dC dI cyI cyZ cyJ H.size o9 0 v9_1 v9_2 v9_3 a9_4 a9_5 a9_6 a9_7 a9_8 a9_9 a9_10 a9_11 a9_12 v9_13 v9_14 v9_15 v9_16 v9_17 v9_18 a9_19 v9_20 v9_21 v9_22 a9_23 a9_24 a9_25 a9_26 a9_27 a9_28 a9_29 a9_30 a9_31 a9_32 a9_33 a9_34 v9_35 v9_36 a9_37 a9_38 a9_39 a9_40 a9_41 v9_42 a9_43 a9_44 a9_45 a9_46 a9_47 v9_48 v9_49 v9_50 v9_51 a9_52 a9_53 v9_54 v9_55 a9_56 a9_57 v9_58 a9_59 a9_60 a9_61 r_9 h_9) (cwV 0 hts gX9_put_X9_full rfl rfl rfl (by decide +kernel) ⟨Nat.le_of_ble_eq_true rfl, Nat.le_of_ble_eq_true rfl⟩) (x_pVD hN hK hPc hDc (ci := 9) (q0 := 0) rfl rfl) rfl rfl hl.1 rfl (lv_room (Nat.le_of_ble_eq_true rfl)) dX9_put_31 ⟨Nat.le_of_ble_eq_true rfl, Nat.le_of_ble_eq_true rfl⟩) hS (fun q _ h => hFc q h) hFc (fun q_9 u t H1 locs ht hvm hw hB hz1 hk1 hS => ?_)
      obtain ⟨hP1, hK1, hD1⟩ := hB
      rw [ht] at hP1
      obtain ⟨hP, hD⟩ := va_join (wr := [(a9_23, .inl (cyI, 1000, .inl g9_23)), (a9_24, .inl (cyI, 1000, .inl g9_24)), (a9_25, .inl (cyI, 1000, .inl g9_25)), (a9_26, .inl (cyI, 1000, .inl g9_26)), (a9_27, .inl (cyI, 1000, .inl g9_27))]) (w1 := [(o9, .inr (9, x_O9 (r_9.2) v9_1 v9_2 v9_3 a9_4 a9_5 a9_6 a9_7 a9_8 a9_9 a9_10 a9_11 a9_12 v9_13 v9_14 v9_15 v9_16 v9_17 v9_18 a9_19 v9_20 v9_21 v9_22 a9_23 a9_24 a9_25 a9_26 a9_27 a9_28 a9_29 a9_30 a9_31 a9_32 a9_33 a9_34 v9_35 v9_36 a9_37 a9_38 a9_39 a9_40 a9_41 v9_42 a9_43 a9_44 a9_45 a9_46 a9_47 v9_48 v9_49 v9_50 v9_51 a9_52 a9_53 v9_54 v9_55 a9_56 a9_57 v9_58 a9_59 a9_60 a9_61))]) hP hD [0] [1, 2, 3, 4, 5] rfl rfl (by decide) (by decide) hk1 hFc hP1 hD1
      clear hz1 hk1 hPc hDc hFc hP1 hK1 hD1 ht hvm t u
      generalize H1 = H at hP hS ⊢
      have hP : va_P (dC, dI) vwCl [(a9_23, .inl (cyI, 1000, .inl g9_23)), (a9_24, .inl (cyI, 1000, .inl g9_24)), (a9_25, .inl (cyI, 1000, .inl g9_25)), (a9_26, .inl (cyI, 1000, .inl g9_26)), (a9_27, .inl (cyI, 1000, .inl g9_27)), (o9, .inr (9, x_O9 (r_9.2) v9_1 v9_2 v9_3 a9_4 a9_5 a9_6 a9_7 a9_8 a9_9 a9_10 a9_11 a9_12 v9_13 v9_14 v9_15 v9_16 v9_17 v9_18 a9_19 v9_20 v9_21 v9_22 a9_23 a9_24 a9_25 a9_26 a9_27 a9_28 a9_29 a9_30 a9_31 a9_32 a9_33 a9_34 v9_35 v9_36 a9_37 a9_38 a9_39 a9_40 a9_41 v9_42 a9_43 a9_44 a9_45 a9_46 a9_47 v9_48 v9_49 v9_50 v9_51 a9_52 a9_53 v9_54 v9_55 a9_56 a9_57 v9_58 a9_59 a9_60 a9_61))] H := hP
      have hD : va_D A [(a9_23, .inl (cyI, 1000, .inl g9_23)), (a9_24, .inl (cyI, 1000, .inl g9_24)), (a9_25, .inl (cyI, 1000, .inl g9_25)), (a9_26, .inl (cyI, 1000, .inl g9_26)), (a9_27, .inl (cyI, 1000, .inl g9_27)), (o9, .inr (9, x_O9 (r_9.2) v9_1 v9_2 v9_3 a9_4 a9_5 a9_6 a9_7 a9_8 a9_9 a9_10 a9_11 a9_12 v9_13 v9_14 v9_15 v9_16 v9_17 v9_18 a9_19 v9_20 v9_21 v9_22 a9_23 a9_24 a9_25 a9_26 a9_27 a9_28 a9_29 a9_30 a9_31 a9_32 a9_33 a9_34 v9_35 v9_36 a9_37 a9_38 a9_39 a9_40 a9_41 v9_42 a9_43 a9_44 a9_45 a9_46 a9_47 v9_48 v9_49 v9_50 v9_51 a9_52 a9_53 v9_54 v9_55 a9_56 a9_57 v9_58 a9_59 a9_60 a9_61))] := hD
      obtain rfl := hw.symm
      obtain rfl := Option.some.inj hf
      have hP9 := hP.sub (ws' := [(o9, .inr (9, x_O9 (r_9.2) v9_1 v9_2 v9_3 a9_4 a9_5 a9_6 a9_7 a9_8 a9_9 a9_10 a9_11 a9_12 v9_13 v9_14 v9_15 v9_16 v9_17 v9_18 a9_19 v9_20 v9_21 v9_22 a9_23 a9_24 a9_25 a9_26 a9_27 a9_28 a9_29 a9_30 a9_31 a9_32 a9_33 a9_34 v9_35 v9_36 a9_37 a9_38 a9_39 a9_40 a9_41 v9_42 a9_43 a9_44 a9_45 a9_46 a9_47 v9_48 v9_49 v9_50 v9_51 a9_52 a9_53 v9_54 v9_55 a9_56 a9_57 v9_58 a9_59 a9_60 a9_61)), (a9_23, .inl (cyI, 1000, .inl g9_23)), (a9_24, .inl (cyI, 1000, .inl g9_24)), (a9_25, .inl (cyI, 1000, .inl g9_25)), (a9_26, .inl (cyI, 1000, .inl g9_26)), (a9_27, .inl (cyI, 1000, .inl g9_27))]) [5, 0, 1, 2, 3, 4] rfl
      have hD9 := hD.sub (ws' := [(o9, .inr (9, x_O9 (r_9.2) v9_1 v9_2 v9_3 a9_4 a9_5 a9_6 a9_7 a9_8 a9_9 a9_10 a9_11 a9_12 v9_13 v9_14 v9_15 v9_16 v9_17 v9_18 a9_19 v9_20 v9_21 v9_22 a9_23 a9_24 a9_25 a9_26 a9_27 a9_28 a9_29 a9_30 a9_31 a9_32 a9_33 a9_34 v9_35 v9_36 a9_37 a9_38 a9_39 a9_40 a9_41 v9_42 a9_43 a9_44 a9_45 a9_46 a9_47 v9_48 v9_49 v9_50 v9_51 a9_52 a9_53 v9_54 v9_55 a9_56 a9_57 v9_58 a9_59 a9_60 a9_61)), (a9_23, .inl (cyI, 1000, .inl g9_23)), (a9_24, .inl (cyI, 1000, .inl g9_24)), (a9_25, .inl (cyI, 1000, .inl g9_25)), (a9_26, .inl (cyI, 1000, .inl g9_26)), (a9_27, .inl (cyI, 1000, .inl g9_27))]) [5, 0, 1, 2, 3, 4] (by decide) rfl
      exact W.iret hx hb hr (fun t ht hW => ⟨⟨_, (), rfl, rfl, by rw [ht]; exact hP9, va_K.moved hW.alike hK, hD9⟩, hS.F ht⟩) hS.2.2 dX9_put_34
  · replace hf := x_ip c_2 hf
    refine lv_aload_n hx hb dX9_put_15 rfl (lv_at hl 0 rfl) ?_
    obtain ⟨r_10, h_10, hf⟩ := x_bi hf
    have hPc := hP.sub (ws' := [(o9, .inr (9, x_O9 0 v9_1 v9_2 v9_3 a9_4 a9_5 a9_6 a9_7 a9_8 a9_9 a9_10 a9_11 a9_12 v9_13 v9_14 v9_15 v9_16 v9_17 v9_18 a9_19 v9_20 v9_21 v9_22 a9_23 a9_24 a9_25 a9_26 a9_27 a9_28 a9_29 a9_30 a9_31 a9_32 a9_33 a9_34 v9_35 v9_36 a9_37 a9_38 a9_39 a9_40 a9_41 v9_42 a9_43 a9_44 a9_45 a9_46 a9_47 v9_48 v9_49 v9_50 v9_51 a9_52 a9_53 v9_54 v9_55 a9_56 a9_57 v9_58 a9_59 a9_60 a9_61))]) [0] rfl
    have hDc := hD.sub (ws' := [(o9, .inr (9, x_O9 0 v9_1 v9_2 v9_3 a9_4 a9_5 a9_6 a9_7 a9_8 a9_9 a9_10 a9_11 a9_12 v9_13 v9_14 v9_15 v9_16 v9_17 v9_18 a9_19 v9_20 v9_21 v9_22 a9_23 a9_24 a9_25 a9_26 a9_27 a9_28 a9_29 a9_30 a9_31 a9_32 a9_33 a9_34 v9_35 v9_36 a9_37 a9_38 a9_39 a9_40 a9_41 v9_42 a9_43 a9_44 a9_45 a9_46 a9_47 v9_48 v9_49 v9_50 v9_51 a9_52 a9_53 v9_54 v9_55 a9_56 a9_57 v9_58 a9_59 a9_60 a9_61))]) [0] (by decide) rfl
    have hFc := va_free (wc := [(o9, .inr (9, x_O9 0 v9_1 v9_2 v9_3 a9_4 a9_5 a9_6 a9_7 a9_8 a9_9 a9_10 a9_11 a9_12 v9_13 v9_14 v9_15 v9_16 v9_17 v9_18 a9_19 v9_20 v9_21 v9_22 a9_23 a9_24 a9_25 a9_26 a9_27 a9_28 a9_29 a9_30 a9_31 a9_32 a9_33 a9_34 v9_35 v9_36 a9_37 a9_38 a9_39 a9_40 a9_41 v9_42 a9_43 a9_44 a9_45 a9_46 a9_47 v9_48 v9_49 v9_50 v9_51 a9_52 a9_53 v9_54 v9_55 a9_56 a9_57 v9_58 a9_59 a9_60 a9_61))]) hD hS hA [0] rfl
    refine va_calli (va_runV (As := []) (rest := []) ⟨hx, hb, hml, hown, hts⟩ (c_X9_bad l dC dI cyI cyZ cyJ H.size o9 0 v9_1 v9_2 v9_3 a9_4 a9_5 a9_6 a9_7 a9_8 a9_9 a9_10 a9_11 a9_12 v9_13 v9_14 v9_15 v9_16 v9_17 v9_18 a9_19 v9_20 v9_21 v9_22 a9_23 a9_24 a9_25 a9_26 a9_27 a9_28 a9_29 a9_30 a9_31 a9_32 a9_33 a9_34 v9_35 v9_36 a9_37 a9_38 a9_39 a9_40 a9_41 v9_42 a9_43 a9_44 a9_45 a9_46 a9_47 v9_48 v9_49 v9_50 v9_51 a9_52 a9_53 v9_54 v9_55 a9_56 a9_57 v9_58 a9_59 a9_60 a9_61 r_10 h_10) (cwV 0 hts gX9_put_X9_bad rfl rfl rfl (by decide +kernel) ⟨Nat.le_of_ble_eq_true rfl, Nat.le_of_ble_eq_true rfl⟩) (x_pVD hN hK hPc hDc (ci := 9) (q0 := 0) rfl rfl) rfl rfl hl.1 rfl (lv_room (Nat.le_of_ble_eq_true rfl)) dX9_put_16 ⟨Nat.le_of_ble_eq_true rfl, Nat.le_of_ble_eq_true rfl⟩) hS (fun q _ h => hFc q h) hFc (fun q_10 u t H1 locs ht hvm hw hB hz1 hk1 hS => ?_)
    obtain ⟨hP1, hK1, hD1⟩ := hB
    rw [ht] at hP1
    obtain ⟨hP, hD⟩ := va_join (wr := [(a9_23, .inl (cyI, 1000, .inl g9_23)), (a9_24, .inl (cyI, 1000, .inl g9_24)), (a9_25, .inl (cyI, 1000, .inl g9_25)), (a9_26, .inl (cyI, 1000, .inl g9_26)), (a9_27, .inl (cyI, 1000, .inl g9_27))]) (w1 := [(o9, .inr (9, x_O9 (r_10.2) v9_1 v9_2 v9_3 a9_4 a9_5 a9_6 a9_7 a9_8 a9_9 a9_10 a9_11 a9_12 v9_13 v9_14 v9_15 v9_16 v9_17 v9_18 a9_19 v9_20 v9_21 v9_22 a9_23 a9_24 a9_25 a9_26 a9_27 a9_28 a9_29 a9_30 a9_31 a9_32 a9_33 a9_34 v9_35 v9_36 a9_37 a9_38 a9_39 a9_40 a9_41 v9_42 a9_43 a9_44 a9_45 a9_46 a9_47 v9_48 v9_49 v9_50 v9_51 a9_52 a9_53 v9_54 v9_55 a9_56 a9_57 v9_58 a9_59 a9_60 a9_61))]) hP hD [0] [1, 2, 3, 4, 5] rfl rfl (by decide) (by decide) hk1 hFc hP1 hD1
    clear hz1 hk1 hPc hDc hFc hP1 hK1 hD1 ht hvm t u
    generalize H1 = H at hP hS ⊢
    have hP : va_P (dC, dI) vwCl [(a9_23, .inl (cyI, 1000, .inl g9_23)), (a9_24, .inl (cyI, 1000, .inl g9_24)), (a9_25, .inl (cyI, 1000, .inl g9_25)), (a9_26, .inl (cyI, 1000, .inl g9_26)), (a9_27, .inl (cyI, 1000, .inl g9_27)), (o9, .inr (9, x_O9 (r_10.2) v9_1 v9_2 v9_3 a9_4 a9_5 a9_6 a9_7 a9_8 a9_9 a9_10 a9_11 a9_12 v9_13 v9_14 v9_15 v9_16 v9_17 v9_18 a9_19 v9_20 v9_21 v9_22 a9_23 a9_24 a9_25 a9_26 a9_27 a9_28 a9_29 a9_30 a9_31 a9_32 a9_33 a9_34 v9_35 v9_36 a9_37 a9_38 a9_39 a9_40 a9_41 v9_42 a9_43 a9_44 a9_45 a9_46 a9_47 v9_48 v9_49 v9_50 v9_51 a9_52 a9_53 v9_54 v9_55 a9_56 a9_57 v9_58 a9_59 a9_60 a9_61))] H := hP
    have hD : va_D A [(a9_23, .inl (cyI, 1000, .inl g9_23)), (a9_24, .inl (cyI, 1000, .inl g9_24)), (a9_25, .inl (cyI, 1000, .inl g9_25)), (a9_26, .inl (cyI, 1000, .inl g9_26)), (a9_27, .inl (cyI, 1000, .inl g9_27)), (o9, .inr (9, x_O9 (r_10.2) v9_1 v9_2 v9_3 a9_4 a9_5 a9_6 a9_7 a9_8 a9_9 a9_10 a9_11 a9_12 v9_13 v9_14 v9_15 v9_16 v9_17 v9_18 a9_19 v9_20 v9_21 v9_22 a9_23 a9_24 a9_25 a9_26 a9_27 a9_28 a9_29 a9_30 a9_31 a9_32 a9_33 a9_34 v9_35 v9_36 a9_37 a9_38 a9_39 a9_40 a9_41 v9_42 a9_43 a9_44 a9_45 a9_46 a9_47 v9_48 v9_49 v9_50 v9_51 a9_52 a9_53 v9_54 v9_55 a9_56 a9_57 v9_58 a9_59 a9_60 a9_61))] := hD
    obtain rfl := hw.symm
    obtain rfl := Option.some.inj hf
    have hP9 := hP.sub (ws' := [(o9, .inr (9, x_O9 (r_10.2) v9_1 v9_2 v9_3 a9_4 a9_5 a9_6 a9_7 a9_8 a9_9 a9_10 a9_11 a9_12 v9_13 v9_14 v9_15 v9_16 v9_17 v9_18 a9_19 v9_20 v9_21 v9_22 a9_23 a9_24 a9_25 a9_26 a9_27 a9_28 a9_29 a9_30 a9_31 a9_32 a9_33 a9_34 v9_35 v9_36 a9_37 a9_38 a9_39 a9_40 a9_41 v9_42 a9_43 a9_44 a9_45 a9_46 a9_47 v9_48 v9_49 v9_50 v9_51 a9_52 a9_53 v9_54 v9_55 a9_56 a9_57 v9_58 a9_59 a9_60 a9_61)), (a9_23, .inl (cyI, 1000, .inl g9_23)), (a9_24, .inl (cyI, 1000, .inl g9_24)), (a9_25, .inl (cyI, 1000, .inl g9_25)), (a9_26, .inl (cyI, 1000, .inl g9_26)), (a9_27, .inl (cyI, 1000, .inl g9_27))]) [5, 0, 1, 2, 3, 4] rfl
    have hD9 := hD.sub (ws' := [(o9, .inr (9, x_O9 (r_10.2) v9_1 v9_2 v9_3 a9_4 a9_5 a9_6 a9_7 a9_8 a9_9 a9_10 a9_11 a9_12 v9_13 v9_14 v9_15 v9_16 v9_17 v9_18 a9_19 v9_20 v9_21 v9_22 a9_23 a9_24 a9_25 a9_26 a9_27 a9_28 a9_29 a9_30 a9_31 a9_32 a9_33 a9_34 v9_35 v9_36 a9_37 a9_38 a9_39 a9_40 a9_41 v9_42 a9_43 a9_44 a9_45 a9_46 a9_47 v9_48 v9_49 v9_50 v9_51 a9_52 a9_53 v9_54 v9_55 a9_56 a9_57 v9_58 a9_59 a9_60 a9_61)), (a9_23, .inl (cyI, 1000, .inl g9_23)), (a9_24, .inl (cyI, 1000, .inl g9_24)), (a9_25, .inl (cyI, 1000, .inl g9_25)), (a9_26, .inl (cyI, 1000, .inl g9_26)), (a9_27, .inl (cyI, 1000, .inl g9_27))]) [5, 0, 1, 2, 3, 4] (by decide) rfl
    exact W.iret hx hb hr (fun t ht hW => ⟨⟨_, (), rfl, rfl, by rw [ht]; exact hP9, va_K.moved hW.alike hK, hD9⟩, hS.F ht⟩) hS.2.2 dX9_put_19

def f_X9_to (v9_0 : Int32) (v9_20 : Int32) (v9_22 : Int32) (g9_23 : Nat → Int32) (g9_27 : Nat → Int32) (g9_28 : Nat → Int32) (p1 : Int32) : Option (Int32 × Int32 × Int32 × (Nat → Int32) × (Nat → Int32)) := if (0 : Int32) ≤ p1 then if v9_20 = (0 : Int32) then (f_X9_full 0) >>= (fun r_3 => some (r_3.1, r_3.2, v9_22, g9_27, g9_28)) else if x_gd (v9_20 - (1 : Int32)) 1000 = true then if (g9_23 (Int32.toNatClampNeg (v9_20 - (1 : Int32)))) = (170 : Int32) then if x_gd (v9_20 - (1 : Int32)) 1000 = true then if (g9_27 (Int32.toNatClampNeg (v9_20 - (1 : Int32)))) = (50 : Int32) then (f_X9_full 0) >>= (fun r_11 => some (r_11.1, r_11.2, v9_22, g9_27, g9_28)) else if x_gd v9_22 50000 = true then if x_gd (v9_20 - (1 : Int32)) 1000 = true then if x_gd (v9_20 - (1 : Int32)) 1000 = true then some ((g9_27 (Int32.toNatClampNeg (v9_20 - (1 : Int32)))) + (1 : Int32), 0, v9_22 + (1 : Int32), upd g9_27 (Int32.toNatClampNeg (v9_20 - (1 : Int32))) ((g9_27 (Int32.toNatClampNeg (v9_20 - (1 : Int32)))) + (1 : Int32)), upd g9_28 (Int32.toNatClampNeg v9_22) p1) else none else none else none else none else if x_gd (v9_20 - (1 : Int32)) 1000 = true then if (g9_23 (Int32.toNatClampNeg (v9_20 - (1 : Int32)))) = (171 : Int32) then if x_gd (v9_20 - (1 : Int32)) 1000 = true then if (g9_27 (Int32.toNatClampNeg (v9_20 - (1 : Int32)))) = (50 : Int32) then (f_X9_full 0) >>= (fun r_20 => some (r_20.1, r_20.2, v9_22, g9_27, g9_28)) else if x_gd v9_22 50000 = true then if x_gd (v9_20 - (1 : Int32)) 1000 = true then if x_gd (v9_20 - (1 : Int32)) 1000 = true then some ((g9_27 (Int32.toNatClampNeg (v9_20 - (1 : Int32)))) + (1 : Int32), 0, v9_22 + (1 : Int32), upd g9_27 (Int32.toNatClampNeg (v9_20 - (1 : Int32))) ((g9_27 (Int32.toNatClampNeg (v9_20 - (1 : Int32)))) + (1 : Int32)), upd g9_28 (Int32.toNatClampNeg v9_22) p1) else none else none else none else none else (f_X9_full 0) >>= (fun r_14 => some (r_14.1, r_14.2, v9_22, g9_27, g9_28)) else none else none else (f_X9_bad 0) >>= (fun r_21 => some (r_21.1, r_21.2, v9_22, g9_27, g9_28))
theorem i_X9_to_X9 : ∀ w ∈ wsX90, w ∈ wsX9_to := fun _ h => List.mem_cons_of_mem _ (List.mem_append_right _ h)
set_option maxHeartbeats 4000000 in
set_option maxRecDepth 100000 in
theorem c_X9_to (l : Launch) (dC : Nat → ClassId) (dI : Nat → Nat → Nat) (cyI cyZ cyJ : ClassId) (sz : Nat) (o9 : Nat) (v9_0 : Int32) (v9_1 : Int32) (v9_2 : Int32) (v9_3 : Int32) (a9_4 : Nat) (a9_5 : Nat) (a9_6 : Nat) (a9_7 : Nat) (a9_8 : Nat) (a9_9 : Nat) (a9_10 : Nat) (a9_11 : Nat) (a9_12 : Nat) (v9_13 : Int32) (v9_14 : Int32) (v9_15 : Int32) (v9_16 : Int32) (v9_17 : Int32) (v9_18 : Int32) (a9_19 : Nat) (v9_20 : Int32) (v9_21 : Int32) (v9_22 : Int32) (a9_23 : Nat) (a9_24 : Nat) (a9_25 : Nat) (a9_26 : Nat) (a9_27 : Nat) (a9_28 : Nat) (a9_29 : Nat) (a9_30 : Nat) (a9_31 : Nat) (a9_32 : Nat) (a9_33 : Nat) (a9_34 : Nat) (v9_35 : Int32) (v9_36 : Int32) (a9_37 : Nat) (a9_38 : Nat) (a9_39 : Nat) (a9_40 : Nat) (a9_41 : Nat) (v9_42 : Int32) (a9_43 : Nat) (a9_44 : Nat) (a9_45 : Nat) (a9_46 : Nat) (a9_47 : Nat) (v9_48 : Int32) (v9_49 : Int32) (v9_50 : Int32) (v9_51 : Int32) (a9_52 : Nat) (a9_53 : Nat) (v9_54 : Int32) (v9_55 : Int32) (a9_56 : Nat) (a9_57 : Nat) (v9_58 : Int32) (a9_59 : Nat) (a9_60 : Nat) (a9_61 : Nat) (g9_23 : Nat → Int32) (g9_27 : Nat → Int32) (g9_28 : Nat → Int32) (p1 : Int32) (R : Int32 × Int32 × Int32 × (Nat → Int32) × (Nat → Int32)) (hf : f_X9_to v9_0 v9_20 v9_22 g9_23 g9_27 g9_28 p1 = some R) : Met l yX9_to wsX9_to ({ frames := 1, cells := 0, slots := 0, locals := 20 }) (va_Pc [.ref o9, .int p1] (x_PreD (dC, dI) (x_T cyI cyZ cyJ) [(o9, .inr (9, x_O9 v9_0 v9_1 v9_2 v9_3 a9_4 a9_5 a9_6 a9_7 a9_8 a9_9 a9_10 a9_11 a9_12 v9_13 v9_14 v9_15 v9_16 v9_17 v9_18 a9_19 v9_20 v9_21 v9_22 a9_23 a9_24 a9_25 a9_26 a9_27 a9_28 a9_29 a9_30 a9_31 a9_32 a9_33 a9_34 v9_35 v9_36 a9_37 a9_38 a9_39 a9_40 a9_41 v9_42 a9_43 a9_44 a9_45 a9_46 a9_47 v9_48 v9_49 v9_50 v9_51 a9_52 a9_53 v9_54 v9_55 a9_56 a9_57 v9_58 a9_59 a9_60 a9_61)), (a9_23, .inl (cyI, 1000, .inl g9_23)), (a9_27, .inl (cyI, 1000, .inl g9_27)), (a9_28, .inl (cyI, 50000, .inl g9_28))] sz)) (va_Qi (fun (r : Int32) (_ : Unit) => r = R.1) (fun (_ : Unit) (t : State) => va_P (dC, dI) vwCl [(o9, .inr (9, x_O9 (R.2.1) v9_1 v9_2 v9_3 a9_4 a9_5 a9_6 a9_7 a9_8 a9_9 a9_10 a9_11 a9_12 v9_13 v9_14 v9_15 v9_16 v9_17 v9_18 a9_19 v9_20 v9_21 (R.2.2.1) a9_23 a9_24 a9_25 a9_26 a9_27 a9_28 a9_29 a9_30 a9_31 a9_32 a9_33 a9_34 v9_35 v9_36 a9_37 a9_38 a9_39 a9_40 a9_41 v9_42 a9_43 a9_44 a9_45 a9_46 a9_47 v9_48 v9_49 v9_50 v9_51 a9_52 a9_53 v9_54 v9_55 a9_56 a9_57 v9_58 a9_59 a9_60 a9_61)), (a9_23, .inl (cyI, 1000, .inl g9_23)), (a9_27, .inl (cyI, 1000, .inl R.2.2.2.1)), (a9_28, .inl (cyI, 50000, .inl R.2.2.2.2))] t.heap ∧ va_K (dC, dI) vwCl (x_T cyI cyZ cyJ) t ∧ va_D (va_A [(o9, .inr (9, x_O9 v9_0 v9_1 v9_2 v9_3 a9_4 a9_5 a9_6 a9_7 a9_8 a9_9 a9_10 a9_11 a9_12 v9_13 v9_14 v9_15 v9_16 v9_17 v9_18 a9_19 v9_20 v9_21 v9_22 a9_23 a9_24 a9_25 a9_26 a9_27 a9_28 a9_29 a9_30 a9_31 a9_32 a9_33 a9_34 v9_35 v9_36 a9_37 a9_38 a9_39 a9_40 a9_41 v9_42 a9_43 a9_44 a9_45 a9_46 a9_47 v9_48 v9_49 v9_50 v9_51 a9_52 a9_53 v9_54 v9_55 a9_56 a9_57 v9_58 a9_59 a9_60 a9_61)), (a9_23, .inl (cyI, 1000, .inl g9_23)), (a9_27, .inl (cyI, 1000, .inl g9_27)), (a9_28, .inl (cyI, 50000, .inl g9_28))] sz) [(o9, .inr (9, x_O9 (R.2.1) v9_1 v9_2 v9_3 a9_4 a9_5 a9_6 a9_7 a9_8 a9_9 a9_10 a9_11 a9_12 v9_13 v9_14 v9_15 v9_16 v9_17 v9_18 a9_19 v9_20 v9_21 (R.2.2.1) a9_23 a9_24 a9_25 a9_26 a9_27 a9_28 a9_29 a9_30 a9_31 a9_32 a9_33 a9_34 v9_35 v9_36 a9_37 a9_38 a9_39 a9_40 a9_41 v9_42 a9_43 a9_44 a9_45 a9_46 a9_47 v9_48 v9_49 v9_50 v9_51 a9_52 a9_53 v9_54 v9_55 a9_56 a9_57 v9_58 a9_59 a9_60 a9_61)), (a9_23, .inl (cyI, 1000, .inl g9_23)), (a9_27, .inl (cyI, 1000, .inl R.2.2.2.1)), (a9_28, .inl (cyI, 50000, .inl R.2.2.2.2))]) (va_A [(o9, .inr (9, x_O9 v9_0 v9_1 v9_2 v9_3 a9_4 a9_5 a9_6 a9_7 a9_8 a9_9 a9_10 a9_11 a9_12 v9_13 v9_14 v9_15 v9_16 v9_17 v9_18 a9_19 v9_20 v9_21 v9_22 a9_23 a9_24 a9_25 a9_26 a9_27 a9_28 a9_29 a9_30 a9_31 a9_32 a9_33 a9_34 v9_35 v9_36 a9_37 a9_38 a9_39 a9_40 a9_41 v9_42 a9_43 a9_44 a9_45 a9_46 a9_47 v9_48 v9_49 v9_50 v9_51 a9_52 a9_53 v9_54 v9_55 a9_56 a9_57 v9_58 a9_59 a9_60 a9_61)), (a9_23, .inl (cyI, 1000, .inl g9_23)), (a9_27, .inl (cyI, 1000, .inl g9_27)), (a9_28, .inl (cyI, 50000, .inl g9_28))] sz)) 0 0 (va_A [(o9, .inr (9, x_O9 v9_0 v9_1 v9_2 v9_3 a9_4 a9_5 a9_6 a9_7 a9_8 a9_9 a9_10 a9_11 a9_12 v9_13 v9_14 v9_15 v9_16 v9_17 v9_18 a9_19 v9_20 v9_21 v9_22 a9_23 a9_24 a9_25 a9_26 a9_27 a9_28 a9_29 a9_30 a9_31 a9_32 a9_33 a9_34 v9_35 v9_36 a9_37 a9_38 a9_39 a9_40 a9_41 v9_42 a9_43 a9_44 a9_45 a9_46 a9_47 v9_48 v9_49 v9_50 v9_51 a9_52 a9_53 v9_54 v9_55 a9_56 a9_57 v9_58 a9_59 a9_60 a9_61)), (a9_23, .inl (cyI, 1000, .inl g9_23)), (a9_27, .inl (cyI, 1000, .inl g9_27)), (a9_28, .inl (cyI, 50000, .inl g9_28))] sz) := by
  refine Met.ofW (cc := cX9_to) (maxL := 2) (ret := (some .int)) (by decide) rfl ?_
  intro p e s m args below meth c s₁ B hml hv
  obtain ⟨rfl, ⟨hsz, hP, hK, hN⟩, hD0⟩ := hv
  have hx := B.exec
  have hb := B.bytes
  have hr := B.returns
  have hts := atoms_spec (ws := wsX9_to) B.pre
  have hown : s.vm.findClass RX9 = some m.cls := findClass_of_methodNamed B.named
  have k_1 := hts (.fieldLink RX9 1 "FlowJudgeModel" "thrown" "I") (by decide +kernel)
  have k_2 := hts (.fieldLink RX9 179 "FlowJudgeModel" "many" "I") (by decide +kernel)
  have k_3 := hts (.fieldLink RX9 51 "FlowJudgeModel" "op" "[I") (by decide +kernel)
  have k_4 := hts (.fieldLink RX9 63 "FlowJudgeModel" "toMany" "[I") (by decide +kernel)
  have k_5 := hts (.fieldLink RX9 67 "FlowJudgeModel" "to" "[I") (by decide +kernel)
  have k_6 := hts (.fieldLink RX9 185 "FlowJudgeModel" "tos" "I") (by decide +kernel)
  subst hsz
  have hD := hD0.self (sz := s.heap.size)
  generalize hAe : va_A [(o9, .inr (9, x_O9 v9_0 v9_1 v9_2 v9_3 a9_4 a9_5 a9_6 a9_7 a9_8 a9_9 a9_10 a9_11 a9_12 v9_13 v9_14 v9_15 v9_16 v9_17 v9_18 a9_19 v9_20 v9_21 v9_22 a9_23 a9_24 a9_25 a9_26 a9_27 a9_28 a9_29 a9_30 a9_31 a9_32 a9_33 a9_34 v9_35 v9_36 a9_37 a9_38 a9_39 a9_40 a9_41 v9_42 a9_43 a9_44 a9_45 a9_46 a9_47 v9_48 v9_49 v9_50 v9_51 a9_52 a9_53 v9_54 v9_55 a9_56 a9_57 v9_58 a9_59 a9_60 a9_61)), (a9_23, .inl (cyI, 1000, .inl g9_23)), (a9_27, .inl (cyI, 1000, .inl g9_27)), (a9_28, .inl (cyI, 50000, .inl g9_28))] s.heap.size = A at hD ⊢
  have hA : ∀ q : Nat, s.heap.size ≤ q → A q := fun q h => by rw [← hAe]; exact Or.inr h
  have hP : va_P (dC, dI) vwCl [(o9, .inr (9, x_O9 v9_0 v9_1 v9_2 v9_3 a9_4 a9_5 a9_6 a9_7 a9_8 a9_9 a9_10 a9_11 a9_12 v9_13 v9_14 v9_15 v9_16 v9_17 v9_18 a9_19 v9_20 v9_21 v9_22 a9_23 a9_24 a9_25 a9_26 a9_27 a9_28 a9_29 a9_30 a9_31 a9_32 a9_33 a9_34 v9_35 v9_36 a9_37 a9_38 a9_39 a9_40 a9_41 v9_42 a9_43 a9_44 a9_45 a9_46 a9_47 v9_48 v9_49 v9_50 v9_51 a9_52 a9_53 v9_54 v9_55 a9_56 a9_57 v9_58 a9_59 a9_60 a9_61)), (a9_23, .inl (cyI, 1000, .inl g9_23)), (a9_27, .inl (cyI, 1000, .inl g9_27)), (a9_28, .inl (cyI, 50000, .inl g9_28))] s.heap := hP
  have hl := lv_entry ([.ref o9, .int p1]) (n := 2) (Nat.le_of_ble_eq_true rfl)
  rw [lg_entry_eq]
  generalize (lg_sl ([.ref o9, .int p1]) ++ List.replicate (2 - (lg_sl ([.ref o9, .int p1])).length) Slot.unset).toArray = ls at hl ⊢
  have hl : lv_has ls 2 [(0, .ref o9), (1, .int p1)] := hl
  obtain ⟨H, hH⟩ : ∃ z, z = s.heap := ⟨_, rfl⟩
  refine x_here hH ?_
  have hP : va_P (dC, dI) vwCl [(o9, .inr (9, x_O9 v9_0 v9_1 v9_2 v9_3 a9_4 a9_5 a9_6 a9_7 a9_8 a9_9 a9_10 a9_11 a9_12 v9_13 v9_14 v9_15 v9_16 v9_17 v9_18 a9_19 v9_20 v9_21 v9_22 a9_23 a9_24 a9_25 a9_26 a9_27 a9_28 a9_29 a9_30 a9_31 a9_32 a9_33 a9_34 v9_35 v9_36 a9_37 a9_38 a9_39 a9_40 a9_41 v9_42 a9_43 a9_44 a9_45 a9_46 a9_47 v9_48 v9_49 v9_50 v9_51 a9_52 a9_53 v9_54 v9_55 a9_56 a9_57 v9_58 a9_59 a9_60 a9_61)), (a9_23, .inl (cyI, 1000, .inl g9_23)), (a9_27, .inl (cyI, 1000, .inl g9_27)), (a9_28, .inl (cyI, 50000, .inl g9_28))] H := by rw [hH]; exact hP
  have hS : va_S A s.heap H [] := by rw [hH]; exact va_S.rf
  clear hH
  obtain ⟨locs, hlo⟩ : ∃ z : List Loc, z = [] := ⟨_, rfl⟩
  refine x_herl hlo ?_
  have hS : va_S A s.heap H locs := by rw [hlo]; exact hS
  clear hlo
  unfold f_X9_to at hf
  refine lv_aload_n hx hb dX9_to_0 rfl (lv_at hl 0 rfl) ?_
  refine lv_iconst (v := 0) hx hb dX9_to_1 (by decide) ?_
  refine va_put (D := (dC, dI)) (ci := 9) (v := .int 0) (ty := .int) (C := RX9) (T := TX9) (N := 62) hx hb hts i_X9_to_X9 tyX9 tyX9_ok nmX9 hown hK hP hD hS 0 rfl rfl 0 (by decide) k_1 (fun _ h9 => h9) rfl (by decide +kernel) rfl rfl (Nat.le_of_ble_eq_true rfl) dX9_to_2 (fun H locs hP hD hS => ?_)
  have hP : va_P (dC, dI) vwCl [(o9, .inr (9, x_O9 0 v9_1 v9_2 v9_3 a9_4 a9_5 a9_6 a9_7 a9_8 a9_9 a9_10 a9_11 a9_12 v9_13 v9_14 v9_15 v9_16 v9_17 v9_18 a9_19 v9_20 v9_21 v9_22 a9_23 a9_24 a9_25 a9_26 a9_27 a9_28 a9_29 a9_30 a9_31 a9_32 a9_33 a9_34 v9_35 v9_36 a9_37 a9_38 a9_39 a9_40 a9_41 v9_42 a9_43 a9_44 a9_45 a9_46 a9_47 v9_48 v9_49 v9_50 v9_51 a9_52 a9_53 v9_54 v9_55 a9_56 a9_57 v9_58 a9_59 a9_60 a9_61)), (a9_23, .inl (cyI, 1000, .inl g9_23)), (a9_27, .inl (cyI, 1000, .inl g9_27)), (a9_28, .inl (cyI, 50000, .inl g9_28))] H := hP
  have hD : va_D A [(o9, .inr (9, x_O9 0 v9_1 v9_2 v9_3 a9_4 a9_5 a9_6 a9_7 a9_8 a9_9 a9_10 a9_11 a9_12 v9_13 v9_14 v9_15 v9_16 v9_17 v9_18 a9_19 v9_20 v9_21 v9_22 a9_23 a9_24 a9_25 a9_26 a9_27 a9_28 a9_29 a9_30 a9_31 a9_32 a9_33 a9_34 v9_35 v9_36 a9_37 a9_38 a9_39 a9_40 a9_41 v9_42 a9_43 a9_44 a9_45 a9_46 a9_47 v9_48 v9_49 v9_50 v9_51 a9_52 a9_53 v9_54 v9_55 a9_56 a9_57 v9_58 a9_59 a9_60 a9_61)), (a9_23, .inl (cyI, 1000, .inl g9_23)), (a9_27, .inl (cyI, 1000, .inl g9_27)), (a9_28, .inl (cyI, 50000, .inl g9_28))] := hD
  refine lv_iload_n hx hb dX9_to_5 rfl (lv_at hl 1 rfl) ?_
  refine lv_if_ge (tgt := 14) hx hb dX9_to_6 (by decide) (fun c_1 => ?_) (fun c_1 => ?_)
  · replace hf := x_ip c_1 hf
    refine lv_aload_n hx hb dX9_to_14 rfl (lv_at hl 0 rfl) ?_
    refine va_get (D := (dC, dI)) (ci := 9) (v := .int v9_20) (C := RX9) (T := TX9) (N := 62) hx hb hts i_X9_to_X9 hown hK hP 0 rfl rfl 20 (by decide) k_2 (fun _ h9 => h9) rfl dX9_to_15 ?_
    refine lv_if_eq (tgt := 71) hx hb dX9_to_18 (by decide) (fun c_2 => ?_) (fun c_2 => ?_)
    · replace hf := x_ip c_2 hf
      refine lv_aload_n hx hb dX9_to_71 rfl (lv_at hl 0 rfl) ?_
      obtain ⟨r_3, h_3, hf⟩ := x_bi hf
      have hPc := hP.sub (ws' := [(o9, .inr (9, x_O9 0 v9_1 v9_2 v9_3 a9_4 a9_5 a9_6 a9_7 a9_8 a9_9 a9_10 a9_11 a9_12 v9_13 v9_14 v9_15 v9_16 v9_17 v9_18 a9_19 v9_20 v9_21 v9_22 a9_23 a9_24 a9_25 a9_26 a9_27 a9_28 a9_29 a9_30 a9_31 a9_32 a9_33 a9_34 v9_35 v9_36 a9_37 a9_38 a9_39 a9_40 a9_41 v9_42 a9_43 a9_44 a9_45 a9_46 a9_47 v9_48 v9_49 v9_50 v9_51 a9_52 a9_53 v9_54 v9_55 a9_56 a9_57 v9_58 a9_59 a9_60 a9_61))]) [0] rfl
      have hDc := hD.sub (ws' := [(o9, .inr (9, x_O9 0 v9_1 v9_2 v9_3 a9_4 a9_5 a9_6 a9_7 a9_8 a9_9 a9_10 a9_11 a9_12 v9_13 v9_14 v9_15 v9_16 v9_17 v9_18 a9_19 v9_20 v9_21 v9_22 a9_23 a9_24 a9_25 a9_26 a9_27 a9_28 a9_29 a9_30 a9_31 a9_32 a9_33 a9_34 v9_35 v9_36 a9_37 a9_38 a9_39 a9_40 a9_41 v9_42 a9_43 a9_44 a9_45 a9_46 a9_47 v9_48 v9_49 v9_50 v9_51 a9_52 a9_53 v9_54 v9_55 a9_56 a9_57 v9_58 a9_59 a9_60 a9_61))]) [0] (by decide) rfl
      have hFc := va_free (wc := [(o9, .inr (9, x_O9 0 v9_1 v9_2 v9_3 a9_4 a9_5 a9_6 a9_7 a9_8 a9_9 a9_10 a9_11 a9_12 v9_13 v9_14 v9_15 v9_16 v9_17 v9_18 a9_19 v9_20 v9_21 v9_22 a9_23 a9_24 a9_25 a9_26 a9_27 a9_28 a9_29 a9_30 a9_31 a9_32 a9_33 a9_34 v9_35 v9_36 a9_37 a9_38 a9_39 a9_40 a9_41 v9_42 a9_43 a9_44 a9_45 a9_46 a9_47 v9_48 v9_49 v9_50 v9_51 a9_52 a9_53 v9_54 v9_55 a9_56 a9_57 v9_58 a9_59 a9_60 a9_61))]) hD hS hA [0] rfl
      refine va_calli (va_runV (As := []) (rest := []) ⟨hx, hb, hml, hown, hts⟩ (c_X9_full l dC dI cyI cyZ cyJ H.size o9 0 v9_1 v9_2 v9_3 a9_4 a9_5 a9_6 a9_7 a9_8 a9_9 a9_10 a9_11 a9_12 v9_13 v9_14 v9_15 v9_16 v9_17 v9_18 a9_19 v9_20 v9_21 v9_22 a9_23 a9_24 a9_25 a9_26 a9_27 a9_28 a9_29 a9_30 a9_31 a9_32 a9_33 a9_34 v9_35 v9_36 a9_37 a9_38 a9_39 a9_40 a9_41 v9_42 a9_43 a9_44 a9_45 a9_46 a9_47 v9_48 v9_49 v9_50 v9_51 a9_52 a9_53 v9_54 v9_55 a9_56 a9_57 v9_58 a9_59 a9_60 a9_61 r_3 h_3) (cwV 0 hts gX9_to_X9_full rfl rfl rfl (by decide +kernel) ⟨Nat.le_of_ble_eq_true rfl, Nat.le_of_ble_eq_true rfl⟩) (x_pVD hN hK hPc hDc (ci := 9) (q0 := 0) rfl rfl) rfl rfl hl.1 rfl (lv_room (Nat.le_of_ble_eq_true rfl)) dX9_to_72 ⟨Nat.le_of_ble_eq_true rfl, Nat.le_of_ble_eq_true rfl⟩) hS (fun q _ h => hFc q h) hFc (fun q_3 u t H1 locs ht hvm hw hB hz1 hk1 hS => ?_)
      obtain ⟨hP1, hK1, hD1⟩ := hB
      rw [ht] at hP1
      obtain ⟨hP, hD⟩ := va_join (wr := [(a9_23, .inl (cyI, 1000, .inl g9_23)), (a9_27, .inl (cyI, 1000, .inl g9_27)), (a9_28, .inl (cyI, 50000, .inl g9_28))]) (w1 := [(o9, .inr (9, x_O9 (r_3.2) v9_1 v9_2 v9_3 a9_4 a9_5 a9_6 a9_7 a9_8 a9_9 a9_10 a9_11 a9_12 v9_13 v9_14 v9_15 v9_16 v9_17 v9_18 a9_19 v9_20 v9_21 v9_22 a9_23 a9_24 a9_25 a9_26 a9_27 a9_28 a9_29 a9_30 a9_31 a9_32 a9_33 a9_34 v9_35 v9_36 a9_37 a9_38 a9_39 a9_40 a9_41 v9_42 a9_43 a9_44 a9_45 a9_46 a9_47 v9_48 v9_49 v9_50 v9_51 a9_52 a9_53 v9_54 v9_55 a9_56 a9_57 v9_58 a9_59 a9_60 a9_61))]) hP hD [0] [1, 2, 3] rfl rfl (by decide) (by decide) hk1 hFc hP1 hD1
      clear hz1 hk1 hPc hDc hFc hP1 hK1 hD1 ht hvm t u
      generalize H1 = H at hP hS ⊢
      have hP : va_P (dC, dI) vwCl [(a9_23, .inl (cyI, 1000, .inl g9_23)), (a9_27, .inl (cyI, 1000, .inl g9_27)), (a9_28, .inl (cyI, 50000, .inl g9_28)), (o9, .inr (9, x_O9 (r_3.2) v9_1 v9_2 v9_3 a9_4 a9_5 a9_6 a9_7 a9_8 a9_9 a9_10 a9_11 a9_12 v9_13 v9_14 v9_15 v9_16 v9_17 v9_18 a9_19 v9_20 v9_21 v9_22 a9_23 a9_24 a9_25 a9_26 a9_27 a9_28 a9_29 a9_30 a9_31 a9_32 a9_33 a9_34 v9_35 v9_36 a9_37 a9_38 a9_39 a9_40 a9_41 v9_42 a9_43 a9_44 a9_45 a9_46 a9_47 v9_48 v9_49 v9_50 v9_51 a9_52 a9_53 v9_54 v9_55 a9_56 a9_57 v9_58 a9_59 a9_60 a9_61))] H := hP
      have hD : va_D A [(a9_23, .inl (cyI, 1000, .inl g9_23)), (a9_27, .inl (cyI, 1000, .inl g9_27)), (a9_28, .inl (cyI, 50000, .inl g9_28)), (o9, .inr (9, x_O9 (r_3.2) v9_1 v9_2 v9_3 a9_4 a9_5 a9_6 a9_7 a9_8 a9_9 a9_10 a9_11 a9_12 v9_13 v9_14 v9_15 v9_16 v9_17 v9_18 a9_19 v9_20 v9_21 v9_22 a9_23 a9_24 a9_25 a9_26 a9_27 a9_28 a9_29 a9_30 a9_31 a9_32 a9_33 a9_34 v9_35 v9_36 a9_37 a9_38 a9_39 a9_40 a9_41 v9_42 a9_43 a9_44 a9_45 a9_46 a9_47 v9_48 v9_49 v9_50 v9_51 a9_52 a9_53 v9_54 v9_55 a9_56 a9_57 v9_58 a9_59 a9_60 a9_61))] := hD
      obtain rfl := hw.symm
      obtain rfl := Option.some.inj hf
      have hP9 := hP.sub (ws' := [(o9, .inr (9, x_O9 (r_3.2) v9_1 v9_2 v9_3 a9_4 a9_5 a9_6 a9_7 a9_8 a9_9 a9_10 a9_11 a9_12 v9_13 v9_14 v9_15 v9_16 v9_17 v9_18 a9_19 v9_20 v9_21 v9_22 a9_23 a9_24 a9_25 a9_26 a9_27 a9_28 a9_29 a9_30 a9_31 a9_32 a9_33 a9_34 v9_35 v9_36 a9_37 a9_38 a9_39 a9_40 a9_41 v9_42 a9_43 a9_44 a9_45 a9_46 a9_47 v9_48 v9_49 v9_50 v9_51 a9_52 a9_53 v9_54 v9_55 a9_56 a9_57 v9_58 a9_59 a9_60 a9_61)), (a9_23, .inl (cyI, 1000, .inl g9_23)), (a9_27, .inl (cyI, 1000, .inl g9_27)), (a9_28, .inl (cyI, 50000, .inl g9_28))]) [3, 0, 1, 2] rfl
      have hD9 := hD.sub (ws' := [(o9, .inr (9, x_O9 (r_3.2) v9_1 v9_2 v9_3 a9_4 a9_5 a9_6 a9_7 a9_8 a9_9 a9_10 a9_11 a9_12 v9_13 v9_14 v9_15 v9_16 v9_17 v9_18 a9_19 v9_20 v9_21 v9_22 a9_23 a9_24 a9_25 a9_26 a9_27 a9_28 a9_29 a9_30 a9_31 a9_32 a9_33 a9_34 v9_35 v9_36 a9_37 a9_38 a9_39 a9_40 a9_41 v9_42 a9_43 a9_44 a9_45 a9_46 a9_47 v9_48 v9_49 v9_50 v9_51 a9_52 a9_53 v9_54 v9_55 a9_56 a9_57 v9_58 a9_59 a9_60 a9_61)), (a9_23, .inl (cyI, 1000, .inl g9_23)), (a9_27, .inl (cyI, 1000, .inl g9_27)), (a9_28, .inl (cyI, 50000, .inl g9_28))]) [3, 0, 1, 2] (by decide) rfl
      exact W.iret hx hb hr (fun t ht hW => ⟨⟨_, (), rfl, rfl, by rw [ht]; exact hP9, va_K.moved hW.alike hK, hD9⟩, hS.F ht⟩) hS.2.2 dX9_to_75
    · replace hf := x_in c_2 hf
      refine lv_aload_n hx hb dX9_to_21 rfl (lv_at hl 0 rfl) ?_
      refine va_get (D := (dC, dI)) (ci := 9) (v := .ref a9_23) (C := RX9) (T := TX9) (N := 62) hx hb hts i_X9_to_X9 hown hK hP 0 rfl rfl 23 (by decide) k_3 (fun _ h9 => h9) rfl dX9_to_22 ?_
      refine lv_aload_n hx hb dX9_to_25 rfl (lv_at hl 0 rfl) ?_
      refine va_get (D := (dC, dI)) (ci := 9) (v := .int v9_20) (C := RX9) (T := TX9) (N := 62) hx hb hts i_X9_to_X9 hown hK hP 0 rfl rfl 20 (by decide) k_2 (fun _ h9 => h9) rfl dX9_to_26 ?_
      refine lv_iconst (v := 1) hx hb dX9_to_29 (by decide) ?_
      refine lv_isub hx hb dX9_to_30 ?_
      obtain ⟨g_4, hf⟩ := x_gu hf
      refine va_iald hx hb hK hP 1 0 rfl rfl (x_gdin g_4) dX9_to_31 ?_
      refine lv_sipush (v := 170) hx hb dX9_to_32 (by decide) ?_
      refine lv_icmp_eq (tgt := 55) hx hb dX9_to_35 (by decide) (fun c_5 => ?_) (fun c_5 => ?_)
      · replace hf := x_ip c_5 hf
        refine lv_aload_n hx hb dX9_to_55 rfl (lv_at hl 0 rfl) ?_
        refine va_get (D := (dC, dI)) (ci := 9) (v := .ref a9_27) (C := RX9) (T := TX9) (N := 62) hx hb hts i_X9_to_X9 hown hK hP 0 rfl rfl 27 (by decide) k_4 (fun _ h9 => h9) rfl dX9_to_56 ?_
        refine lv_aload_n hx hb dX9_to_59 rfl (lv_at hl 0 rfl) ?_
        refine va_get (D := (dC, dI)) (ci := 9) (v := .int v9_20) (C := RX9) (T := TX9) (N := 62) hx hb hts i_X9_to_X9 hown hK hP 0 rfl rfl 20 (by decide) k_2 (fun _ h9 => h9) rfl dX9_to_60 ?_
        refine lv_iconst (v := 1) hx hb dX9_to_63 (by decide) ?_
        refine lv_isub hx hb dX9_to_64 ?_
        obtain ⟨g_6, hf⟩ := x_gu hf
        refine va_iald hx hb hK hP 2 0 rfl rfl (x_gdin g_6) dX9_to_65 ?_
        refine lv_bipush (v := 50) hx hb dX9_to_66 (by decide) ?_
        refine lv_icmp_ne (tgt := 76) hx hb dX9_to_68 (by decide) (fun c_7 => ?_) (fun c_7 => ?_)
        · replace hf := x_in c_7 hf
          refine lv_aload_n hx hb dX9_to_76 rfl (lv_at hl 0 rfl) ?_
          refine va_get (D := (dC, dI)) (ci := 9) (v := .ref a9_28) (C := RX9) (T := TX9) (N := 62) hx hb hts i_X9_to_X9 hown hK hP 0 rfl rfl 28 (by decide) k_5 (fun _ h9 => h9) rfl dX9_to_77 ?_
          refine lv_aload_n hx hb dX9_to_80 rfl (lv_at hl 0 rfl) ?_
          refine lv_dup hx hb dX9_to_81 rfl ?_
          refine va_get (D := (dC, dI)) (ci := 9) (v := .int v9_22) (C := RX9) (T := TX9) (N := 62) hx hb hts i_X9_to_X9 hown hK hP 0 rfl rfl 22 (by decide) k_6 (fun _ h9 => h9) rfl dX9_to_82 ?_
          refine lv_dup_x1 hx hb dX9_to_85 rfl rfl ?_
          refine lv_iconst (v := 1) hx hb dX9_to_86 (by decide) ?_
          refine lv_iadd hx hb dX9_to_87 ?_
          refine va_put (D := (dC, dI)) (ci := 9) (v := .int (v9_22 + (1 : Int32))) (ty := .int) (C := RX9) (T := TX9) (N := 62) hx hb hts i_X9_to_X9 tyX9 tyX9_ok nmX9 hown hK hP hD hS 0 rfl rfl 22 (by decide) k_6 (fun _ h9 => h9) rfl (by decide +kernel) rfl rfl (Nat.le_of_ble_eq_true rfl) dX9_to_88 (fun H locs hP hD hS => ?_)
          have hP : va_P (dC, dI) vwCl [(o9, .inr (9, x_O9 0 v9_1 v9_2 v9_3 a9_4 a9_5 a9_6 a9_7 a9_8 a9_9 a9_10 a9_11 a9_12 v9_13 v9_14 v9_15 v9_16 v9_17 v9_18 a9_19 v9_20 v9_21 (v9_22 + (1 : Int32)) a9_23 a9_24 a9_25 a9_26 a9_27 a9_28 a9_29 a9_30 a9_31 a9_32 a9_33 a9_34 v9_35 v9_36 a9_37 a9_38 a9_39 a9_40 a9_41 v9_42 a9_43 a9_44 a9_45 a9_46 a9_47 v9_48 v9_49 v9_50 v9_51 a9_52 a9_53 v9_54 v9_55 a9_56 a9_57 v9_58 a9_59 a9_60 a9_61)), (a9_23, .inl (cyI, 1000, .inl g9_23)), (a9_27, .inl (cyI, 1000, .inl g9_27)), (a9_28, .inl (cyI, 50000, .inl g9_28))] H := hP
          have hD : va_D A [(o9, .inr (9, x_O9 0 v9_1 v9_2 v9_3 a9_4 a9_5 a9_6 a9_7 a9_8 a9_9 a9_10 a9_11 a9_12 v9_13 v9_14 v9_15 v9_16 v9_17 v9_18 a9_19 v9_20 v9_21 (v9_22 + (1 : Int32)) a9_23 a9_24 a9_25 a9_26 a9_27 a9_28 a9_29 a9_30 a9_31 a9_32 a9_33 a9_34 v9_35 v9_36 a9_37 a9_38 a9_39 a9_40 a9_41 v9_42 a9_43 a9_44 a9_45 a9_46 a9_47 v9_48 v9_49 v9_50 v9_51 a9_52 a9_53 v9_54 v9_55 a9_56 a9_57 v9_58 a9_59 a9_60 a9_61)), (a9_23, .inl (cyI, 1000, .inl g9_23)), (a9_27, .inl (cyI, 1000, .inl g9_27)), (a9_28, .inl (cyI, 50000, .inl g9_28))] := hD
          refine lv_iload_n hx hb dX9_to_91 rfl (lv_at hl 1 rfl) ?_
          obtain ⟨g_8, hf⟩ := x_gu hf
          refine va_iast hx hb hK hP hD hS 3 0 rfl rfl (x_gdin g_8) dX9_to_92 (fun H locs hP hD hS => ?_)
          have hP : va_P (dC, dI) vwCl [(o9, .inr (9, x_O9 0 v9_1 v9_2 v9_3 a9_4 a9_5 a9_6 a9_7 a9_8 a9_9 a9_10 a9_11 a9_12 v9_13 v9_14 v9_15 v9_16 v9_17 v9_18 a9_19 v9_20 v9_21 (v9_22 + (1 : Int32)) a9_23 a9_24 a9_25 a9_26 a9_27 a9_28 a9_29 a9_30 a9_31 a9_32 a9_33 a9_34 v9_35 v9_36 a9_37 a9_38 a9_39 a9_40 a9_41 v9_42 a9_43 a9_44 a9_45 a9_46 a9_47 v9_48 v9_49 v9_50 v9_51 a9_52 a9_53 v9_54 v9_55 a9_56 a9_57 v9_58 a9_59 a9_60 a9_61)), (a9_23, .inl (cyI, 1000, .inl g9_23)), (a9_27, .inl (cyI, 1000, .inl g9_27)), (a9_28, .inl (cyI, 50000, .inl (upd g9_28 (Int32.toNatClampNeg v9_22) p1)))] H := hP
          have hD : va_D A [(o9, .inr (9, x_O9 0 v9_1 v9_2 v9_3 a9_4 a9_5 a9_6 a9_7 a9_8 a9_9 a9_10 a9_11 a9_12 v9_13 v9_14 v9_15 v9_16 v9_17 v9_18 a9_19 v9_20 v9_21 (v9_22 + (1 : Int32)) a9_23 a9_24 a9_25 a9_26 a9_27 a9_28 a9_29 a9_30 a9_31 a9_32 a9_33 a9_34 v9_35 v9_36 a9_37 a9_38 a9_39 a9_40 a9_41 v9_42 a9_43 a9_44 a9_45 a9_46 a9_47 v9_48 v9_49 v9_50 v9_51 a9_52 a9_53 v9_54 v9_55 a9_56 a9_57 v9_58 a9_59 a9_60 a9_61)), (a9_23, .inl (cyI, 1000, .inl g9_23)), (a9_27, .inl (cyI, 1000, .inl g9_27)), (a9_28, .inl (cyI, 50000, .inl (upd g9_28 (Int32.toNatClampNeg v9_22) p1)))] := hD
          refine lv_aload_n hx hb dX9_to_93 rfl (lv_at hl 0 rfl) ?_
          refine va_get (D := (dC, dI)) (ci := 9) (v := .ref a9_27) (C := RX9) (T := TX9) (N := 62) hx hb hts i_X9_to_X9 hown hK hP 0 rfl rfl 27 (by decide) k_4 (fun _ h9 => h9) rfl dX9_to_94 ?_
          refine lv_aload_n hx hb dX9_to_97 rfl (lv_at hl 0 rfl) ?_
          refine va_get (D := (dC, dI)) (ci := 9) (v := .int v9_20) (C := RX9) (T := TX9) (N := 62) hx hb hts i_X9_to_X9 hown hK hP 0 rfl rfl 20 (by decide) k_2 (fun _ h9 => h9) rfl dX9_to_98 ?_
          refine lv_iconst (v := 1) hx hb dX9_to_101 (by decide) ?_
          refine lv_isub hx hb dX9_to_102 ?_
          refine lv_dup2_11 hx hb dX9_to_103 rfl rfl ?_
          obtain ⟨g_9, hf⟩ := x_gu hf
          refine va_iald hx hb hK hP 2 0 rfl rfl (x_gdin g_9) dX9_to_104 ?_
          refine lv_iconst (v := 1) hx hb dX9_to_105 (by decide) ?_
          refine lv_iadd hx hb dX9_to_106 ?_
          refine lv_dup_x2 hx hb dX9_to_107 rfl rfl rfl ?_
          obtain ⟨g_10, hf⟩ := x_gu hf
          refine va_iast hx hb hK hP hD hS 2 0 rfl rfl (x_gdin g_10) dX9_to_108 (fun H locs hP hD hS => ?_)
          have hP : va_P (dC, dI) vwCl [(o9, .inr (9, x_O9 0 v9_1 v9_2 v9_3 a9_4 a9_5 a9_6 a9_7 a9_8 a9_9 a9_10 a9_11 a9_12 v9_13 v9_14 v9_15 v9_16 v9_17 v9_18 a9_19 v9_20 v9_21 (v9_22 + (1 : Int32)) a9_23 a9_24 a9_25 a9_26 a9_27 a9_28 a9_29 a9_30 a9_31 a9_32 a9_33 a9_34 v9_35 v9_36 a9_37 a9_38 a9_39 a9_40 a9_41 v9_42 a9_43 a9_44 a9_45 a9_46 a9_47 v9_48 v9_49 v9_50 v9_51 a9_52 a9_53 v9_54 v9_55 a9_56 a9_57 v9_58 a9_59 a9_60 a9_61)), (a9_23, .inl (cyI, 1000, .inl g9_23)), (a9_27, .inl (cyI, 1000, .inl (upd g9_27 (Int32.toNatClampNeg (v9_20 - (1 : Int32))) ((g9_27 (Int32.toNatClampNeg (v9_20 - (1 : Int32)))) + (1 : Int32))))), (a9_28, .inl (cyI, 50000, .inl (upd g9_28 (Int32.toNatClampNeg v9_22) p1)))] H := hP
          have hD : va_D A [(o9, .inr (9, x_O9 0 v9_1 v9_2 v9_3 a9_4 a9_5 a9_6 a9_7 a9_8 a9_9 a9_10 a9_11 a9_12 v9_13 v9_14 v9_15 v9_16 v9_17 v9_18 a9_19 v9_20 v9_21 (v9_22 + (1 : Int32)) a9_23 a9_24 a9_25 a9_26 a9_27 a9_28 a9_29 a9_30 a9_31 a9_32 a9_33 a9_34 v9_35 v9_36 a9_37 a9_38 a9_39 a9_40 a9_41 v9_42 a9_43 a9_44 a9_45 a9_46 a9_47 v9_48 v9_49 v9_50 v9_51 a9_52 a9_53 v9_54 v9_55 a9_56 a9_57 v9_58 a9_59 a9_60 a9_61)), (a9_23, .inl (cyI, 1000, .inl g9_23)), (a9_27, .inl (cyI, 1000, .inl (upd g9_27 (Int32.toNatClampNeg (v9_20 - (1 : Int32))) ((g9_27 (Int32.toNatClampNeg (v9_20 - (1 : Int32)))) + (1 : Int32))))), (a9_28, .inl (cyI, 50000, .inl (upd g9_28 (Int32.toNatClampNeg v9_22) p1)))] := hD
          obtain rfl := Option.some.inj hf
          have hP9 := hP.sub (ws' := [(o9, .inr (9, x_O9 0 v9_1 v9_2 v9_3 a9_4 a9_5 a9_6 a9_7 a9_8 a9_9 a9_10 a9_11 a9_12 v9_13 v9_14 v9_15 v9_16 v9_17 v9_18 a9_19 v9_20 v9_21 (v9_22 + (1 : Int32)) a9_23 a9_24 a9_25 a9_26 a9_27 a9_28 a9_29 a9_30 a9_31 a9_32 a9_33 a9_34 v9_35 v9_36 a9_37 a9_38 a9_39 a9_40 a9_41 v9_42 a9_43 a9_44 a9_45 a9_46 a9_47 v9_48 v9_49 v9_50 v9_51 a9_52 a9_53 v9_54 v9_55 a9_56 a9_57 v9_58 a9_59 a9_60 a9_61)), (a9_23, .inl (cyI, 1000, .inl g9_23)), (a9_27, .inl (cyI, 1000, .inl (upd g9_27 (Int32.toNatClampNeg (v9_20 - (1 : Int32))) ((g9_27 (Int32.toNatClampNeg (v9_20 - (1 : Int32)))) + (1 : Int32))))), (a9_28, .inl (cyI, 50000, .inl (upd g9_28 (Int32.toNatClampNeg v9_22) p1)))]) [0, 1, 2, 3] rfl
          have hD9 := hD.sub (ws' := [(o9, .inr (9, x_O9 0 v9_1 v9_2 v9_3 a9_4 a9_5 a9_6 a9_7 a9_8 a9_9 a9_10 a9_11 a9_12 v9_13 v9_14 v9_15 v9_16 v9_17 v9_18 a9_19 v9_20 v9_21 (v9_22 + (1 : Int32)) a9_23 a9_24 a9_25 a9_26 a9_27 a9_28 a9_29 a9_30 a9_31 a9_32 a9_33 a9_34 v9_35 v9_36 a9_37 a9_38 a9_39 a9_40 a9_41 v9_42 a9_43 a9_44 a9_45 a9_46 a9_47 v9_48 v9_49 v9_50 v9_51 a9_52 a9_53 v9_54 v9_55 a9_56 a9_57 v9_58 a9_59 a9_60 a9_61)), (a9_23, .inl (cyI, 1000, .inl g9_23)), (a9_27, .inl (cyI, 1000, .inl (upd g9_27 (Int32.toNatClampNeg (v9_20 - (1 : Int32))) ((g9_27 (Int32.toNatClampNeg (v9_20 - (1 : Int32)))) + (1 : Int32))))), (a9_28, .inl (cyI, 50000, .inl (upd g9_28 (Int32.toNatClampNeg v9_22) p1)))]) [0, 1, 2, 3] (by decide) rfl
          exact W.iret hx hb hr (fun t ht hW => ⟨⟨_, (), rfl, rfl, by rw [ht]; exact hP9, va_K.moved hW.alike hK, hD9⟩, hS.F ht⟩) hS.2.2 dX9_to_109
        · replace hf := x_ip c_7 hf
          refine lv_aload_n hx hb dX9_to_71 rfl (lv_at hl 0 rfl) ?_
          obtain ⟨r_11, h_11, hf⟩ := x_bi hf
          have hPc := hP.sub (ws' := [(o9, .inr (9, x_O9 0 v9_1 v9_2 v9_3 a9_4 a9_5 a9_6 a9_7 a9_8 a9_9 a9_10 a9_11 a9_12 v9_13 v9_14 v9_15 v9_16 v9_17 v9_18 a9_19 v9_20 v9_21 v9_22 a9_23 a9_24 a9_25 a9_26 a9_27 a9_28 a9_29 a9_30 a9_31 a9_32 a9_33 a9_34 v9_35 v9_36 a9_37 a9_38 a9_39 a9_40 a9_41 v9_42 a9_43 a9_44 a9_45 a9_46 a9_47 v9_48 v9_49 v9_50 v9_51 a9_52 a9_53 v9_54 v9_55 a9_56 a9_57 v9_58 a9_59 a9_60 a9_61))]) [0] rfl
          have hDc := hD.sub (ws' := [(o9, .inr (9, x_O9 0 v9_1 v9_2 v9_3 a9_4 a9_5 a9_6 a9_7 a9_8 a9_9 a9_10 a9_11 a9_12 v9_13 v9_14 v9_15 v9_16 v9_17 v9_18 a9_19 v9_20 v9_21 v9_22 a9_23 a9_24 a9_25 a9_26 a9_27 a9_28 a9_29 a9_30 a9_31 a9_32 a9_33 a9_34 v9_35 v9_36 a9_37 a9_38 a9_39 a9_40 a9_41 v9_42 a9_43 a9_44 a9_45 a9_46 a9_47 v9_48 v9_49 v9_50 v9_51 a9_52 a9_53 v9_54 v9_55 a9_56 a9_57 v9_58 a9_59 a9_60 a9_61))]) [0] (by decide) rfl
          have hFc := va_free (wc := [(o9, .inr (9, x_O9 0 v9_1 v9_2 v9_3 a9_4 a9_5 a9_6 a9_7 a9_8 a9_9 a9_10 a9_11 a9_12 v9_13 v9_14 v9_15 v9_16 v9_17 v9_18 a9_19 v9_20 v9_21 v9_22 a9_23 a9_24 a9_25 a9_26 a9_27 a9_28 a9_29 a9_30 a9_31 a9_32 a9_33 a9_34 v9_35 v9_36 a9_37 a9_38 a9_39 a9_40 a9_41 v9_42 a9_43 a9_44 a9_45 a9_46 a9_47 v9_48 v9_49 v9_50 v9_51 a9_52 a9_53 v9_54 v9_55 a9_56 a9_57 v9_58 a9_59 a9_60 a9_61))]) hD hS hA [0] rfl
          refine va_calli (va_runV (As := []) (rest := []) ⟨hx, hb, hml, hown, hts⟩ (c_X9_full l dC dI cyI cyZ cyJ H.size o9 0 v9_1 v9_2 v9_3 a9_4 a9_5 a9_6 a9_7 a9_8 a9_9 a9_10 a9_11 a9_12 v9_13 v9_14 v9_15 v9_16 v9_17 v9_18 a9_19 v9_20 v9_21 v9_22 a9_23 a9_24 a9_25 a9_26 a9_27 a9_28 a9_29 a9_30 a9_31 a9_32 a9_33 a9_34 v9_35 v9_36 a9_37 a9_38 a9_39 a9_40 a9_41 v9_42 a9_43 a9_44 a9_45 a9_46 a9_47 v9_48 v9_49 v9_50 v9_51 a9_52 a9_53 v9_54 v9_55 a9_56 a9_57 v9_58 a9_59 a9_60 a9_61 r_11 h_11) (cwV 0 hts gX9_to_X9_full rfl rfl rfl (by decide +kernel) ⟨Nat.le_of_ble_eq_true rfl, Nat.le_of_ble_eq_true rfl⟩) (x_pVD hN hK hPc hDc (ci := 9) (q0 := 0) rfl rfl) rfl rfl hl.1 rfl (lv_room (Nat.le_of_ble_eq_true rfl)) dX9_to_72 ⟨Nat.le_of_ble_eq_true rfl, Nat.le_of_ble_eq_true rfl⟩) hS (fun q _ h => hFc q h) hFc (fun q_11 u t H1 locs ht hvm hw hB hz1 hk1 hS => ?_)
          obtain ⟨hP1, hK1, hD1⟩ := hB
          rw [ht] at hP1
          obtain ⟨hP, hD⟩ := va_join (wr := [(a9_23, .inl (cyI, 1000, .inl g9_23)), (a9_27, .inl (cyI, 1000, .inl g9_27)), (a9_28, .inl (cyI, 50000, .inl g9_28))]) (w1 := [(o9, .inr (9, x_O9 (r_11.2) v9_1 v9_2 v9_3 a9_4 a9_5 a9_6 a9_7 a9_8 a9_9 a9_10 a9_11 a9_12 v9_13 v9_14 v9_15 v9_16 v9_17 v9_18 a9_19 v9_20 v9_21 v9_22 a9_23 a9_24 a9_25 a9_26 a9_27 a9_28 a9_29 a9_30 a9_31 a9_32 a9_33 a9_34 v9_35 v9_36 a9_37 a9_38 a9_39 a9_40 a9_41 v9_42 a9_43 a9_44 a9_45 a9_46 a9_47 v9_48 v9_49 v9_50 v9_51 a9_52 a9_53 v9_54 v9_55 a9_56 a9_57 v9_58 a9_59 a9_60 a9_61))]) hP hD [0] [1, 2, 3] rfl rfl (by decide) (by decide) hk1 hFc hP1 hD1
          clear hz1 hk1 hPc hDc hFc hP1 hK1 hD1 ht hvm t u
          generalize H1 = H at hP hS ⊢
          have hP : va_P (dC, dI) vwCl [(a9_23, .inl (cyI, 1000, .inl g9_23)), (a9_27, .inl (cyI, 1000, .inl g9_27)), (a9_28, .inl (cyI, 50000, .inl g9_28)), (o9, .inr (9, x_O9 (r_11.2) v9_1 v9_2 v9_3 a9_4 a9_5 a9_6 a9_7 a9_8 a9_9 a9_10 a9_11 a9_12 v9_13 v9_14 v9_15 v9_16 v9_17 v9_18 a9_19 v9_20 v9_21 v9_22 a9_23 a9_24 a9_25 a9_26 a9_27 a9_28 a9_29 a9_30 a9_31 a9_32 a9_33 a9_34 v9_35 v9_36 a9_37 a9_38 a9_39 a9_40 a9_41 v9_42 a9_43 a9_44 a9_45 a9_46 a9_47 v9_48 v9_49 v9_50 v9_51 a9_52 a9_53 v9_54 v9_55 a9_56 a9_57 v9_58 a9_59 a9_60 a9_61))] H := hP
          have hD : va_D A [(a9_23, .inl (cyI, 1000, .inl g9_23)), (a9_27, .inl (cyI, 1000, .inl g9_27)), (a9_28, .inl (cyI, 50000, .inl g9_28)), (o9, .inr (9, x_O9 (r_11.2) v9_1 v9_2 v9_3 a9_4 a9_5 a9_6 a9_7 a9_8 a9_9 a9_10 a9_11 a9_12 v9_13 v9_14 v9_15 v9_16 v9_17 v9_18 a9_19 v9_20 v9_21 v9_22 a9_23 a9_24 a9_25 a9_26 a9_27 a9_28 a9_29 a9_30 a9_31 a9_32 a9_33 a9_34 v9_35 v9_36 a9_37 a9_38 a9_39 a9_40 a9_41 v9_42 a9_43 a9_44 a9_45 a9_46 a9_47 v9_48 v9_49 v9_50 v9_51 a9_52 a9_53 v9_54 v9_55 a9_56 a9_57 v9_58 a9_59 a9_60 a9_61))] := hD
          obtain rfl := hw.symm
          obtain rfl := Option.some.inj hf
          have hP9 := hP.sub (ws' := [(o9, .inr (9, x_O9 (r_11.2) v9_1 v9_2 v9_3 a9_4 a9_5 a9_6 a9_7 a9_8 a9_9 a9_10 a9_11 a9_12 v9_13 v9_14 v9_15 v9_16 v9_17 v9_18 a9_19 v9_20 v9_21 v9_22 a9_23 a9_24 a9_25 a9_26 a9_27 a9_28 a9_29 a9_30 a9_31 a9_32 a9_33 a9_34 v9_35 v9_36 a9_37 a9_38 a9_39 a9_40 a9_41 v9_42 a9_43 a9_44 a9_45 a9_46 a9_47 v9_48 v9_49 v9_50 v9_51 a9_52 a9_53 v9_54 v9_55 a9_56 a9_57 v9_58 a9_59 a9_60 a9_61)), (a9_23, .inl (cyI, 1000, .inl g9_23)), (a9_27, .inl (cyI, 1000, .inl g9_27)), (a9_28, .inl (cyI, 50000, .inl g9_28))]) [3, 0, 1, 2] rfl
          have hD9 := hD.sub (ws' := [(o9, .inr (9, x_O9 (r_11.2) v9_1 v9_2 v9_3 a9_4 a9_5 a9_6 a9_7 a9_8 a9_9 a9_10 a9_11 a9_12 v9_13 v9_14 v9_15 v9_16 v9_17 v9_18 a9_19 v9_20 v9_21 v9_22 a9_23 a9_24 a9_25 a9_26 a9_27 a9_28 a9_29 a9_30 a9_31 a9_32 a9_33 a9_34 v9_35 v9_36 a9_37 a9_38 a9_39 a9_40 a9_41 v9_42 a9_43 a9_44 a9_45 a9_46 a9_47 v9_48 v9_49 v9_50 v9_51 a9_52 a9_53 v9_54 v9_55 a9_56 a9_57 v9_58 a9_59 a9_60 a9_61)), (a9_23, .inl (cyI, 1000, .inl g9_23)), (a9_27, .inl (cyI, 1000, .inl g9_27)), (a9_28, .inl (cyI, 50000, .inl g9_28))]) [3, 0, 1, 2] (by decide) rfl
          exact W.iret hx hb hr (fun t ht hW => ⟨⟨_, (), rfl, rfl, by rw [ht]; exact hP9, va_K.moved hW.alike hK, hD9⟩, hS.F ht⟩) hS.2.2 dX9_to_75
      · replace hf := x_in c_5 hf
        refine lv_aload_n hx hb dX9_to_38 rfl (lv_at hl 0 rfl) ?_
        refine va_get (D := (dC, dI)) (ci := 9) (v := .ref a9_23) (C := RX9) (T := TX9) (N := 62) hx hb hts i_X9_to_X9 hown hK hP 0 rfl rfl 23 (by decide) k_3 (fun _ h9 => h9) rfl dX9_to_39 ?_
        refine lv_aload_n hx hb dX9_to_42 rfl (lv_at hl 0 rfl) ?_
        refine va_get (D := (dC, dI)) (ci := 9) (v := .int v9_20) (C := RX9) (T := TX9) (N := 62) hx hb hts i_X9_to_X9 hown hK hP 0 rfl rfl 20 (by decide) k_2 (fun _ h9 => h9) rfl dX9_to_43 ?_
        refine lv_iconst (v := 1) hx hb dX9_to_46 (by decide) ?_
        refine lv_isub hx hb dX9_to_47 ?_
        obtain ⟨g_12, hf⟩ := x_gu hf
        refine va_iald hx hb hK hP 1 0 rfl rfl (x_gdin g_12) dX9_to_48 ?_
        refine lv_sipush (v := 171) hx hb dX9_to_49 (by decide) ?_
        refine lv_icmp_ne (tgt := 71) hx hb dX9_to_52 (by decide) (fun c_13 => ?_) (fun c_13 => ?_)
        · replace hf := x_in c_13 hf
          refine lv_aload_n hx hb dX9_to_71 rfl (lv_at hl 0 rfl) ?_
          obtain ⟨r_14, h_14, hf⟩ := x_bi hf
          have hPc := hP.sub (ws' := [(o9, .inr (9, x_O9 0 v9_1 v9_2 v9_3 a9_4 a9_5 a9_6 a9_7 a9_8 a9_9 a9_10 a9_11 a9_12 v9_13 v9_14 v9_15 v9_16 v9_17 v9_18 a9_19 v9_20 v9_21 v9_22 a9_23 a9_24 a9_25 a9_26 a9_27 a9_28 a9_29 a9_30 a9_31 a9_32 a9_33 a9_34 v9_35 v9_36 a9_37 a9_38 a9_39 a9_40 a9_41 v9_42 a9_43 a9_44 a9_45 a9_46 a9_47 v9_48 v9_49 v9_50 v9_51 a9_52 a9_53 v9_54 v9_55 a9_56 a9_57 v9_58 a9_59 a9_60 a9_61))]) [0] rfl
          have hDc := hD.sub (ws' := [(o9, .inr (9, x_O9 0 v9_1 v9_2 v9_3 a9_4 a9_5 a9_6 a9_7 a9_8 a9_9 a9_10 a9_11 a9_12 v9_13 v9_14 v9_15 v9_16 v9_17 v9_18 a9_19 v9_20 v9_21 v9_22 a9_23 a9_24 a9_25 a9_26 a9_27 a9_28 a9_29 a9_30 a9_31 a9_32 a9_33 a9_34 v9_35 v9_36 a9_37 a9_38 a9_39 a9_40 a9_41 v9_42 a9_43 a9_44 a9_45 a9_46 a9_47 v9_48 v9_49 v9_50 v9_51 a9_52 a9_53 v9_54 v9_55 a9_56 a9_57 v9_58 a9_59 a9_60 a9_61))]) [0] (by decide) rfl
          have hFc := va_free (wc := [(o9, .inr (9, x_O9 0 v9_1 v9_2 v9_3 a9_4 a9_5 a9_6 a9_7 a9_8 a9_9 a9_10 a9_11 a9_12 v9_13 v9_14 v9_15 v9_16 v9_17 v9_18 a9_19 v9_20 v9_21 v9_22 a9_23 a9_24 a9_25 a9_26 a9_27 a9_28 a9_29 a9_30 a9_31 a9_32 a9_33 a9_34 v9_35 v9_36 a9_37 a9_38 a9_39 a9_40 a9_41 v9_42 a9_43 a9_44 a9_45 a9_46 a9_47 v9_48 v9_49 v9_50 v9_51 a9_52 a9_53 v9_54 v9_55 a9_56 a9_57 v9_58 a9_59 a9_60 a9_61))]) hD hS hA [0] rfl
          refine va_calli (va_runV (As := []) (rest := []) ⟨hx, hb, hml, hown, hts⟩ (c_X9_full l dC dI cyI cyZ cyJ H.size o9 0 v9_1 v9_2 v9_3 a9_4 a9_5 a9_6 a9_7 a9_8 a9_9 a9_10 a9_11 a9_12 v9_13 v9_14 v9_15 v9_16 v9_17 v9_18 a9_19 v9_20 v9_21 v9_22 a9_23 a9_24 a9_25 a9_26 a9_27 a9_28 a9_29 a9_30 a9_31 a9_32 a9_33 a9_34 v9_35 v9_36 a9_37 a9_38 a9_39 a9_40 a9_41 v9_42 a9_43 a9_44 a9_45 a9_46 a9_47 v9_48 v9_49 v9_50 v9_51 a9_52 a9_53 v9_54 v9_55 a9_56 a9_57 v9_58 a9_59 a9_60 a9_61 r_14 h_14) (cwV 0 hts gX9_to_X9_full rfl rfl rfl (by decide +kernel) ⟨Nat.le_of_ble_eq_true rfl, Nat.le_of_ble_eq_true rfl⟩) (x_pVD hN hK hPc hDc (ci := 9) (q0 := 0) rfl rfl) rfl rfl hl.1 rfl (lv_room (Nat.le_of_ble_eq_true rfl)) dX9_to_72 ⟨Nat.le_of_ble_eq_true rfl, Nat.le_of_ble_eq_true rfl⟩) hS (fun q _ h => hFc q h) hFc (fun q_14 u t H1 locs ht hvm hw hB hz1 hk1 hS => ?_)
          obtain ⟨hP1, hK1, hD1⟩ := hB
          rw [ht] at hP1
          obtain ⟨hP, hD⟩ := va_join (wr := [(a9_23, .inl (cyI, 1000, .inl g9_23)), (a9_27, .inl (cyI, 1000, .inl g9_27)), (a9_28, .inl (cyI, 50000, .inl g9_28))]) (w1 := [(o9, .inr (9, x_O9 (r_14.2) v9_1 v9_2 v9_3 a9_4 a9_5 a9_6 a9_7 a9_8 a9_9 a9_10 a9_11 a9_12 v9_13 v9_14 v9_15 v9_16 v9_17 v9_18 a9_19 v9_20 v9_21 v9_22 a9_23 a9_24 a9_25 a9_26 a9_27 a9_28 a9_29 a9_30 a9_31 a9_32 a9_33 a9_34 v9_35 v9_36 a9_37 a9_38 a9_39 a9_40 a9_41 v9_42 a9_43 a9_44 a9_45 a9_46 a9_47 v9_48 v9_49 v9_50 v9_51 a9_52 a9_53 v9_54 v9_55 a9_56 a9_57 v9_58 a9_59 a9_60 a9_61))]) hP hD [0] [1, 2, 3] rfl rfl (by decide) (by decide) hk1 hFc hP1 hD1
          clear hz1 hk1 hPc hDc hFc hP1 hK1 hD1 ht hvm t u
          generalize H1 = H at hP hS ⊢
          have hP : va_P (dC, dI) vwCl [(a9_23, .inl (cyI, 1000, .inl g9_23)), (a9_27, .inl (cyI, 1000, .inl g9_27)), (a9_28, .inl (cyI, 50000, .inl g9_28)), (o9, .inr (9, x_O9 (r_14.2) v9_1 v9_2 v9_3 a9_4 a9_5 a9_6 a9_7 a9_8 a9_9 a9_10 a9_11 a9_12 v9_13 v9_14 v9_15 v9_16 v9_17 v9_18 a9_19 v9_20 v9_21 v9_22 a9_23 a9_24 a9_25 a9_26 a9_27 a9_28 a9_29 a9_30 a9_31 a9_32 a9_33 a9_34 v9_35 v9_36 a9_37 a9_38 a9_39 a9_40 a9_41 v9_42 a9_43 a9_44 a9_45 a9_46 a9_47 v9_48 v9_49 v9_50 v9_51 a9_52 a9_53 v9_54 v9_55 a9_56 a9_57 v9_58 a9_59 a9_60 a9_61))] H := hP
          have hD : va_D A [(a9_23, .inl (cyI, 1000, .inl g9_23)), (a9_27, .inl (cyI, 1000, .inl g9_27)), (a9_28, .inl (cyI, 50000, .inl g9_28)), (o9, .inr (9, x_O9 (r_14.2) v9_1 v9_2 v9_3 a9_4 a9_5 a9_6 a9_7 a9_8 a9_9 a9_10 a9_11 a9_12 v9_13 v9_14 v9_15 v9_16 v9_17 v9_18 a9_19 v9_20 v9_21 v9_22 a9_23 a9_24 a9_25 a9_26 a9_27 a9_28 a9_29 a9_30 a9_31 a9_32 a9_33 a9_34 v9_35 v9_36 a9_37 a9_38 a9_39 a9_40 a9_41 v9_42 a9_43 a9_44 a9_45 a9_46 a9_47 v9_48 v9_49 v9_50 v9_51 a9_52 a9_53 v9_54 v9_55 a9_56 a9_57 v9_58 a9_59 a9_60 a9_61))] := hD
          obtain rfl := hw.symm
          obtain rfl := Option.some.inj hf
          have hP9 := hP.sub (ws' := [(o9, .inr (9, x_O9 (r_14.2) v9_1 v9_2 v9_3 a9_4 a9_5 a9_6 a9_7 a9_8 a9_9 a9_10 a9_11 a9_12 v9_13 v9_14 v9_15 v9_16 v9_17 v9_18 a9_19 v9_20 v9_21 v9_22 a9_23 a9_24 a9_25 a9_26 a9_27 a9_28 a9_29 a9_30 a9_31 a9_32 a9_33 a9_34 v9_35 v9_36 a9_37 a9_38 a9_39 a9_40 a9_41 v9_42 a9_43 a9_44 a9_45 a9_46 a9_47 v9_48 v9_49 v9_50 v9_51 a9_52 a9_53 v9_54 v9_55 a9_56 a9_57 v9_58 a9_59 a9_60 a9_61)), (a9_23, .inl (cyI, 1000, .inl g9_23)), (a9_27, .inl (cyI, 1000, .inl g9_27)), (a9_28, .inl (cyI, 50000, .inl g9_28))]) [3, 0, 1, 2] rfl
          have hD9 := hD.sub (ws' := [(o9, .inr (9, x_O9 (r_14.2) v9_1 v9_2 v9_3 a9_4 a9_5 a9_6 a9_7 a9_8 a9_9 a9_10 a9_11 a9_12 v9_13 v9_14 v9_15 v9_16 v9_17 v9_18 a9_19 v9_20 v9_21 v9_22 a9_23 a9_24 a9_25 a9_26 a9_27 a9_28 a9_29 a9_30 a9_31 a9_32 a9_33 a9_34 v9_35 v9_36 a9_37 a9_38 a9_39 a9_40 a9_41 v9_42 a9_43 a9_44 a9_45 a9_46 a9_47 v9_48 v9_49 v9_50 v9_51 a9_52 a9_53 v9_54 v9_55 a9_56 a9_57 v9_58 a9_59 a9_60 a9_61)), (a9_23, .inl (cyI, 1000, .inl g9_23)), (a9_27, .inl (cyI, 1000, .inl g9_27)), (a9_28, .inl (cyI, 50000, .inl g9_28))]) [3, 0, 1, 2] (by decide) rfl
          exact W.iret hx hb hr (fun t ht hW => ⟨⟨_, (), rfl, rfl, by rw [ht]; exact hP9, va_K.moved hW.alike hK, hD9⟩, hS.F ht⟩) hS.2.2 dX9_to_75
        · replace hf := x_ip c_13 hf
          refine lv_aload_n hx hb dX9_to_55 rfl (lv_at hl 0 rfl) ?_
          refine va_get (D := (dC, dI)) (ci := 9) (v := .ref a9_27) (C := RX9) (T := TX9) (N := 62) hx hb hts i_X9_to_X9 hown hK hP 0 rfl rfl 27 (by decide) k_4 (fun _ h9 => h9) rfl dX9_to_56 ?_
          refine lv_aload_n hx hb dX9_to_59 rfl (lv_at hl 0 rfl) ?_
          refine va_get (D := (dC, dI)) (ci := 9) (v := .int v9_20) (C := RX9) (T := TX9) (N := 62) hx hb hts i_X9_to_X9 hown hK hP 0 rfl rfl 20 (by decide) k_2 (fun _ h9 => h9) rfl dX9_to_60 ?_
          refine lv_iconst (v := 1) hx hb dX9_to_63 (by decide) ?_
          refine lv_isub hx hb dX9_to_64 ?_
          obtain ⟨g_15, hf⟩ := x_gu hf
          refine va_iald hx hb hK hP 2 0 rfl rfl (x_gdin g_15) dX9_to_65 ?_
          refine lv_bipush (v := 50) hx hb dX9_to_66 (by decide) ?_
          refine lv_icmp_ne (tgt := 76) hx hb dX9_to_68 (by decide) (fun c_16 => ?_) (fun c_16 => ?_)
          · replace hf := x_in c_16 hf
            refine lv_aload_n hx hb dX9_to_76 rfl (lv_at hl 0 rfl) ?_
            refine va_get (D := (dC, dI)) (ci := 9) (v := .ref a9_28) (C := RX9) (T := TX9) (N := 62) hx hb hts i_X9_to_X9 hown hK hP 0 rfl rfl 28 (by decide) k_5 (fun _ h9 => h9) rfl dX9_to_77 ?_
            refine lv_aload_n hx hb dX9_to_80 rfl (lv_at hl 0 rfl) ?_
            refine lv_dup hx hb dX9_to_81 rfl ?_
            refine va_get (D := (dC, dI)) (ci := 9) (v := .int v9_22) (C := RX9) (T := TX9) (N := 62) hx hb hts i_X9_to_X9 hown hK hP 0 rfl rfl 22 (by decide) k_6 (fun _ h9 => h9) rfl dX9_to_82 ?_
            refine lv_dup_x1 hx hb dX9_to_85 rfl rfl ?_
            refine lv_iconst (v := 1) hx hb dX9_to_86 (by decide) ?_
            refine lv_iadd hx hb dX9_to_87 ?_
            refine va_put (D := (dC, dI)) (ci := 9) (v := .int (v9_22 + (1 : Int32))) (ty := .int) (C := RX9) (T := TX9) (N := 62) hx hb hts i_X9_to_X9 tyX9 tyX9_ok nmX9 hown hK hP hD hS 0 rfl rfl 22 (by decide) k_6 (fun _ h9 => h9) rfl (by decide +kernel) rfl rfl (Nat.le_of_ble_eq_true rfl) dX9_to_88 (fun H locs hP hD hS => ?_)
            have hP : va_P (dC, dI) vwCl [(o9, .inr (9, x_O9 0 v9_1 v9_2 v9_3 a9_4 a9_5 a9_6 a9_7 a9_8 a9_9 a9_10 a9_11 a9_12 v9_13 v9_14 v9_15 v9_16 v9_17 v9_18 a9_19 v9_20 v9_21 (v9_22 + (1 : Int32)) a9_23 a9_24 a9_25 a9_26 a9_27 a9_28 a9_29 a9_30 a9_31 a9_32 a9_33 a9_34 v9_35 v9_36 a9_37 a9_38 a9_39 a9_40 a9_41 v9_42 a9_43 a9_44 a9_45 a9_46 a9_47 v9_48 v9_49 v9_50 v9_51 a9_52 a9_53 v9_54 v9_55 a9_56 a9_57 v9_58 a9_59 a9_60 a9_61)), (a9_23, .inl (cyI, 1000, .inl g9_23)), (a9_27, .inl (cyI, 1000, .inl g9_27)), (a9_28, .inl (cyI, 50000, .inl g9_28))] H := hP
            have hD : va_D A [(o9, .inr (9, x_O9 0 v9_1 v9_2 v9_3 a9_4 a9_5 a9_6 a9_7 a9_8 a9_9 a9_10 a9_11 a9_12 v9_13 v9_14 v9_15 v9_16 v9_17 v9_18 a9_19 v9_20 v9_21 (v9_22 + (1 : Int32)) a9_23 a9_24 a9_25 a9_26 a9_27 a9_28 a9_29 a9_30 a9_31 a9_32 a9_33 a9_34 v9_35 v9_36 a9_37 a9_38 a9_39 a9_40 a9_41 v9_42 a9_43 a9_44 a9_45 a9_46 a9_47 v9_48 v9_49 v9_50 v9_51 a9_52 a9_53 v9_54 v9_55 a9_56 a9_57 v9_58 a9_59 a9_60 a9_61)), (a9_23, .inl (cyI, 1000, .inl g9_23)), (a9_27, .inl (cyI, 1000, .inl g9_27)), (a9_28, .inl (cyI, 50000, .inl g9_28))] := hD
            refine lv_iload_n hx hb dX9_to_91 rfl (lv_at hl 1 rfl) ?_
            obtain ⟨g_17, hf⟩ := x_gu hf
            refine va_iast hx hb hK hP hD hS 3 0 rfl rfl (x_gdin g_17) dX9_to_92 (fun H locs hP hD hS => ?_)
            have hP : va_P (dC, dI) vwCl [(o9, .inr (9, x_O9 0 v9_1 v9_2 v9_3 a9_4 a9_5 a9_6 a9_7 a9_8 a9_9 a9_10 a9_11 a9_12 v9_13 v9_14 v9_15 v9_16 v9_17 v9_18 a9_19 v9_20 v9_21 (v9_22 + (1 : Int32)) a9_23 a9_24 a9_25 a9_26 a9_27 a9_28 a9_29 a9_30 a9_31 a9_32 a9_33 a9_34 v9_35 v9_36 a9_37 a9_38 a9_39 a9_40 a9_41 v9_42 a9_43 a9_44 a9_45 a9_46 a9_47 v9_48 v9_49 v9_50 v9_51 a9_52 a9_53 v9_54 v9_55 a9_56 a9_57 v9_58 a9_59 a9_60 a9_61)), (a9_23, .inl (cyI, 1000, .inl g9_23)), (a9_27, .inl (cyI, 1000, .inl g9_27)), (a9_28, .inl (cyI, 50000, .inl (upd g9_28 (Int32.toNatClampNeg v9_22) p1)))] H := hP
            have hD : va_D A [(o9, .inr (9, x_O9 0 v9_1 v9_2 v9_3 a9_4 a9_5 a9_6 a9_7 a9_8 a9_9 a9_10 a9_11 a9_12 v9_13 v9_14 v9_15 v9_16 v9_17 v9_18 a9_19 v9_20 v9_21 (v9_22 + (1 : Int32)) a9_23 a9_24 a9_25 a9_26 a9_27 a9_28 a9_29 a9_30 a9_31 a9_32 a9_33 a9_34 v9_35 v9_36 a9_37 a9_38 a9_39 a9_40 a9_41 v9_42 a9_43 a9_44 a9_45 a9_46 a9_47 v9_48 v9_49 v9_50 v9_51 a9_52 a9_53 v9_54 v9_55 a9_56 a9_57 v9_58 a9_59 a9_60 a9_61)), (a9_23, .inl (cyI, 1000, .inl g9_23)), (a9_27, .inl (cyI, 1000, .inl g9_27)), (a9_28, .inl (cyI, 50000, .inl (upd g9_28 (Int32.toNatClampNeg v9_22) p1)))] := hD
            refine lv_aload_n hx hb dX9_to_93 rfl (lv_at hl 0 rfl) ?_
            refine va_get (D := (dC, dI)) (ci := 9) (v := .ref a9_27) (C := RX9) (T := TX9) (N := 62) hx hb hts i_X9_to_X9 hown hK hP 0 rfl rfl 27 (by decide) k_4 (fun _ h9 => h9) rfl dX9_to_94 ?_
            refine lv_aload_n hx hb dX9_to_97 rfl (lv_at hl 0 rfl) ?_
            refine va_get (D := (dC, dI)) (ci := 9) (v := .int v9_20) (C := RX9) (T := TX9) (N := 62) hx hb hts i_X9_to_X9 hown hK hP 0 rfl rfl 20 (by decide) k_2 (fun _ h9 => h9) rfl dX9_to_98 ?_
            refine lv_iconst (v := 1) hx hb dX9_to_101 (by decide) ?_
            refine lv_isub hx hb dX9_to_102 ?_
            refine lv_dup2_11 hx hb dX9_to_103 rfl rfl ?_
            obtain ⟨g_18, hf⟩ := x_gu hf
            refine va_iald hx hb hK hP 2 0 rfl rfl (x_gdin g_18) dX9_to_104 ?_
            refine lv_iconst (v := 1) hx hb dX9_to_105 (by decide) ?_
            refine lv_iadd hx hb dX9_to_106 ?_
            refine lv_dup_x2 hx hb dX9_to_107 rfl rfl rfl ?_
            obtain ⟨g_19, hf⟩ := x_gu hf
            refine va_iast hx hb hK hP hD hS 2 0 rfl rfl (x_gdin g_19) dX9_to_108 (fun H locs hP hD hS => ?_)
            have hP : va_P (dC, dI) vwCl [(o9, .inr (9, x_O9 0 v9_1 v9_2 v9_3 a9_4 a9_5 a9_6 a9_7 a9_8 a9_9 a9_10 a9_11 a9_12 v9_13 v9_14 v9_15 v9_16 v9_17 v9_18 a9_19 v9_20 v9_21 (v9_22 + (1 : Int32)) a9_23 a9_24 a9_25 a9_26 a9_27 a9_28 a9_29 a9_30 a9_31 a9_32 a9_33 a9_34 v9_35 v9_36 a9_37 a9_38 a9_39 a9_40 a9_41 v9_42 a9_43 a9_44 a9_45 a9_46 a9_47 v9_48 v9_49 v9_50 v9_51 a9_52 a9_53 v9_54 v9_55 a9_56 a9_57 v9_58 a9_59 a9_60 a9_61)), (a9_23, .inl (cyI, 1000, .inl g9_23)), (a9_27, .inl (cyI, 1000, .inl (upd g9_27 (Int32.toNatClampNeg (v9_20 - (1 : Int32))) ((g9_27 (Int32.toNatClampNeg (v9_20 - (1 : Int32)))) + (1 : Int32))))), (a9_28, .inl (cyI, 50000, .inl (upd g9_28 (Int32.toNatClampNeg v9_22) p1)))] H := hP
            have hD : va_D A [(o9, .inr (9, x_O9 0 v9_1 v9_2 v9_3 a9_4 a9_5 a9_6 a9_7 a9_8 a9_9 a9_10 a9_11 a9_12 v9_13 v9_14 v9_15 v9_16 v9_17 v9_18 a9_19 v9_20 v9_21 (v9_22 + (1 : Int32)) a9_23 a9_24 a9_25 a9_26 a9_27 a9_28 a9_29 a9_30 a9_31 a9_32 a9_33 a9_34 v9_35 v9_36 a9_37 a9_38 a9_39 a9_40 a9_41 v9_42 a9_43 a9_44 a9_45 a9_46 a9_47 v9_48 v9_49 v9_50 v9_51 a9_52 a9_53 v9_54 v9_55 a9_56 a9_57 v9_58 a9_59 a9_60 a9_61)), (a9_23, .inl (cyI, 1000, .inl g9_23)), (a9_27, .inl (cyI, 1000, .inl (upd g9_27 (Int32.toNatClampNeg (v9_20 - (1 : Int32))) ((g9_27 (Int32.toNatClampNeg (v9_20 - (1 : Int32)))) + (1 : Int32))))), (a9_28, .inl (cyI, 50000, .inl (upd g9_28 (Int32.toNatClampNeg v9_22) p1)))] := hD
            obtain rfl := Option.some.inj hf
            have hP9 := hP.sub (ws' := [(o9, .inr (9, x_O9 0 v9_1 v9_2 v9_3 a9_4 a9_5 a9_6 a9_7 a9_8 a9_9 a9_10 a9_11 a9_12 v9_13 v9_14 v9_15 v9_16 v9_17 v9_18 a9_19 v9_20 v9_21 (v9_22 + (1 : Int32)) a9_23 a9_24 a9_25 a9_26 a9_27 a9_28 a9_29 a9_30 a9_31 a9_32 a9_33 a9_34 v9_35 v9_36 a9_37 a9_38 a9_39 a9_40 a9_41 v9_42 a9_43 a9_44 a9_45 a9_46 a9_47 v9_48 v9_49 v9_50 v9_51 a9_52 a9_53 v9_54 v9_55 a9_56 a9_57 v9_58 a9_59 a9_60 a9_61)), (a9_23, .inl (cyI, 1000, .inl g9_23)), (a9_27, .inl (cyI, 1000, .inl (upd g9_27 (Int32.toNatClampNeg (v9_20 - (1 : Int32))) ((g9_27 (Int32.toNatClampNeg (v9_20 - (1 : Int32)))) + (1 : Int32))))), (a9_28, .inl (cyI, 50000, .inl (upd g9_28 (Int32.toNatClampNeg v9_22) p1)))]) [0, 1, 2, 3] rfl
            have hD9 := hD.sub (ws' := [(o9, .inr (9, x_O9 0 v9_1 v9_2 v9_3 a9_4 a9_5 a9_6 a9_7 a9_8 a9_9 a9_10 a9_11 a9_12 v9_13 v9_14 v9_15 v9_16 v9_17 v9_18 a9_19 v9_20 v9_21 (v9_22 + (1 : Int32)) a9_23 a9_24 a9_25 a9_26 a9_27 a9_28 a9_29 a9_30 a9_31 a9_32 a9_33 a9_34 v9_35 v9_36 a9_37 a9_38 a9_39 a9_40 a9_41 v9_42 a9_43 a9_44 a9_45 a9_46 a9_47 v9_48 v9_49 v9_50 v9_51 a9_52 a9_53 v9_54 v9_55 a9_56 a9_57 v9_58 a9_59 a9_60 a9_61)), (a9_23, .inl (cyI, 1000, .inl g9_23)), (a9_27, .inl (cyI, 1000, .inl (upd g9_27 (Int32.toNatClampNeg (v9_20 - (1 : Int32))) ((g9_27 (Int32.toNatClampNeg (v9_20 - (1 : Int32)))) + (1 : Int32))))), (a9_28, .inl (cyI, 50000, .inl (upd g9_28 (Int32.toNatClampNeg v9_22) p1)))]) [0, 1, 2, 3] (by decide) rfl
            exact W.iret hx hb hr (fun t ht hW => ⟨⟨_, (), rfl, rfl, by rw [ht]; exact hP9, va_K.moved hW.alike hK, hD9⟩, hS.F ht⟩) hS.2.2 dX9_to_109
          · replace hf := x_ip c_16 hf
            refine lv_aload_n hx hb dX9_to_71 rfl (lv_at hl 0 rfl) ?_
            obtain ⟨r_20, h_20, hf⟩ := x_bi hf
            have hPc := hP.sub (ws' := [(o9, .inr (9, x_O9 0 v9_1 v9_2 v9_3 a9_4 a9_5 a9_6 a9_7 a9_8 a9_9 a9_10 a9_11 a9_12 v9_13 v9_14 v9_15 v9_16 v9_17 v9_18 a9_19 v9_20 v9_21 v9_22 a9_23 a9_24 a9_25 a9_26 a9_27 a9_28 a9_29 a9_30 a9_31 a9_32 a9_33 a9_34 v9_35 v9_36 a9_37 a9_38 a9_39 a9_40 a9_41 v9_42 a9_43 a9_44 a9_45 a9_46 a9_47 v9_48 v9_49 v9_50 v9_51 a9_52 a9_53 v9_54 v9_55 a9_56 a9_57 v9_58 a9_59 a9_60 a9_61))]) [0] rfl
            have hDc := hD.sub (ws' := [(o9, .inr (9, x_O9 0 v9_1 v9_2 v9_3 a9_4 a9_5 a9_6 a9_7 a9_8 a9_9 a9_10 a9_11 a9_12 v9_13 v9_14 v9_15 v9_16 v9_17 v9_18 a9_19 v9_20 v9_21 v9_22 a9_23 a9_24 a9_25 a9_26 a9_27 a9_28 a9_29 a9_30 a9_31 a9_32 a9_33 a9_34 v9_35 v9_36 a9_37 a9_38 a9_39 a9_40 a9_41 v9_42 a9_43 a9_44 a9_45 a9_46 a9_47 v9_48 v9_49 v9_50 v9_51 a9_52 a9_53 v9_54 v9_55 a9_56 a9_57 v9_58 a9_59 a9_60 a9_61))]) [0] (by decide) rfl
            have hFc := va_free (wc := [(o9, .inr (9, x_O9 0 v9_1 v9_2 v9_3 a9_4 a9_5 a9_6 a9_7 a9_8 a9_9 a9_10 a9_11 a9_12 v9_13 v9_14 v9_15 v9_16 v9_17 v9_18 a9_19 v9_20 v9_21 v9_22 a9_23 a9_24 a9_25 a9_26 a9_27 a9_28 a9_29 a9_30 a9_31 a9_32 a9_33 a9_34 v9_35 v9_36 a9_37 a9_38 a9_39 a9_40 a9_41 v9_42 a9_43 a9_44 a9_45 a9_46 a9_47 v9_48 v9_49 v9_50 v9_51 a9_52 a9_53 v9_54 v9_55 a9_56 a9_57 v9_58 a9_59 a9_60 a9_61))]) hD hS hA [0] rfl
            refine va_calli (va_runV (As := []) (rest := []) ⟨hx, hb, hml, hown, hts⟩ (c_X9_full l dC dI cyI cyZ cyJ H.size o9 0 v9_1 v9_2 v9_3 a9_4 a9_5 a9_6 a9_7 a9_8 a9_9 a9_10 a9_11 a9_12 v9_13 v9_14 v9_15 v9_16 v9_17 v9_18 a9_19 v9_20 v9_21 v9_22 a9_23 a9_24 a9_25 a9_26 a9_27 a9_28 a9_29 a9_30 a9_31 a9_32 a9_33 a9_34 v9_35 v9_36 a9_37 a9_38 a9_39 a9_40 a9_41 v9_42 a9_43 a9_44 a9_45 a9_46 a9_47 v9_48 v9_49 v9_50 v9_51 a9_52 a9_53 v9_54 v9_55 a9_56 a9_57 v9_58 a9_59 a9_60 a9_61 r_20 h_20) (cwV 0 hts gX9_to_X9_full rfl rfl rfl (by decide +kernel) ⟨Nat.le_of_ble_eq_true rfl, Nat.le_of_ble_eq_true rfl⟩) (x_pVD hN hK hPc hDc (ci := 9) (q0 := 0) rfl rfl) rfl rfl hl.1 rfl (lv_room (Nat.le_of_ble_eq_true rfl)) dX9_to_72 ⟨Nat.le_of_ble_eq_true rfl, Nat.le_of_ble_eq_true rfl⟩) hS (fun q _ h => hFc q h) hFc (fun q_20 u t H1 locs ht hvm hw hB hz1 hk1 hS => ?_)
            obtain ⟨hP1, hK1, hD1⟩ := hB
            rw [ht] at hP1
            obtain ⟨hP, hD⟩ := va_join (wr := [(a9_23, .inl (cyI, 1000, .inl g9_23)), (a9_27, .inl (cyI, 1000, .inl g9_27)), (a9_28, .inl (cyI, 50000, .inl g9_28))]) (w1 := [(o9, .inr (9, x_O9 (r_20.2) v9_1 v9_2 v9_3 a9_4 a9_5 a9_6 a9_7 a9_8 a9_9 a9_10 a9_11 a9_12 v9_13 v9_14 v9_15 v9_16 v9_17 v9_18 a9_19 v9_20 v9_21 v9_22 a9_23 a9_24 a9_25 a9_26 a9_27 a9_28 a9_29 a9_30 a9_31 a9_32 a9_33 a9_34 v9_35 v9_36 a9_37 a9_38 a9_39 a9_40 a9_41 v9_42 a9_43 a9_44 a9_45 a9_46 a9_47 v9_48 v9_49 v9_50 v9_51 a9_52 a9_53 v9_54 v9_55 a9_56 a9_57 v9_58 a9_59 a9_60 a9_61))]) hP hD [0] [1, 2, 3] rfl rfl (by decide) (by decide) hk1 hFc hP1 hD1
            clear hz1 hk1 hPc hDc hFc hP1 hK1 hD1 ht hvm t u
            generalize H1 = H at hP hS ⊢
            have hP : va_P (dC, dI) vwCl [(a9_23, .inl (cyI, 1000, .inl g9_23)), (a9_27, .inl (cyI, 1000, .inl g9_27)), (a9_28, .inl (cyI, 50000, .inl g9_28)), (o9, .inr (9, x_O9 (r_20.2) v9_1 v9_2 v9_3 a9_4 a9_5 a9_6 a9_7 a9_8 a9_9 a9_10 a9_11 a9_12 v9_13 v9_14 v9_15 v9_16 v9_17 v9_18 a9_19 v9_20 v9_21 v9_22 a9_23 a9_24 a9_25 a9_26 a9_27 a9_28 a9_29 a9_30 a9_31 a9_32 a9_33 a9_34 v9_35 v9_36 a9_37 a9_38 a9_39 a9_40 a9_41 v9_42 a9_43 a9_44 a9_45 a9_46 a9_47 v9_48 v9_49 v9_50 v9_51 a9_52 a9_53 v9_54 v9_55 a9_56 a9_57 v9_58 a9_59 a9_60 a9_61))] H := hP
            have hD : va_D A [(a9_23, .inl (cyI, 1000, .inl g9_23)), (a9_27, .inl (cyI, 1000, .inl g9_27)), (a9_28, .inl (cyI, 50000, .inl g9_28)), (o9, .inr (9, x_O9 (r_20.2) v9_1 v9_2 v9_3 a9_4 a9_5 a9_6 a9_7 a9_8 a9_9 a9_10 a9_11 a9_12 v9_13 v9_14 v9_15 v9_16 v9_17 v9_18 a9_19 v9_20 v9_21 v9_22 a9_23 a9_24 a9_25 a9_26 a9_27 a9_28 a9_29 a9_30 a9_31 a9_32 a9_33 a9_34 v9_35 v9_36 a9_37 a9_38 a9_39 a9_40 a9_41 v9_42 a9_43 a9_44 a9_45 a9_46 a9_47 v9_48 v9_49 v9_50 v9_51 a9_52 a9_53 v9_54 v9_55 a9_56 a9_57 v9_58 a9_59 a9_60 a9_61))] := hD
            obtain rfl := hw.symm
            obtain rfl := Option.some.inj hf
            have hP9 := hP.sub (ws' := [(o9, .inr (9, x_O9 (r_20.2) v9_1 v9_2 v9_3 a9_4 a9_5 a9_6 a9_7 a9_8 a9_9 a9_10 a9_11 a9_12 v9_13 v9_14 v9_15 v9_16 v9_17 v9_18 a9_19 v9_20 v9_21 v9_22 a9_23 a9_24 a9_25 a9_26 a9_27 a9_28 a9_29 a9_30 a9_31 a9_32 a9_33 a9_34 v9_35 v9_36 a9_37 a9_38 a9_39 a9_40 a9_41 v9_42 a9_43 a9_44 a9_45 a9_46 a9_47 v9_48 v9_49 v9_50 v9_51 a9_52 a9_53 v9_54 v9_55 a9_56 a9_57 v9_58 a9_59 a9_60 a9_61)), (a9_23, .inl (cyI, 1000, .inl g9_23)), (a9_27, .inl (cyI, 1000, .inl g9_27)), (a9_28, .inl (cyI, 50000, .inl g9_28))]) [3, 0, 1, 2] rfl
            have hD9 := hD.sub (ws' := [(o9, .inr (9, x_O9 (r_20.2) v9_1 v9_2 v9_3 a9_4 a9_5 a9_6 a9_7 a9_8 a9_9 a9_10 a9_11 a9_12 v9_13 v9_14 v9_15 v9_16 v9_17 v9_18 a9_19 v9_20 v9_21 v9_22 a9_23 a9_24 a9_25 a9_26 a9_27 a9_28 a9_29 a9_30 a9_31 a9_32 a9_33 a9_34 v9_35 v9_36 a9_37 a9_38 a9_39 a9_40 a9_41 v9_42 a9_43 a9_44 a9_45 a9_46 a9_47 v9_48 v9_49 v9_50 v9_51 a9_52 a9_53 v9_54 v9_55 a9_56 a9_57 v9_58 a9_59 a9_60 a9_61)), (a9_23, .inl (cyI, 1000, .inl g9_23)), (a9_27, .inl (cyI, 1000, .inl g9_27)), (a9_28, .inl (cyI, 50000, .inl g9_28))]) [3, 0, 1, 2] (by decide) rfl
            exact W.iret hx hb hr (fun t ht hW => ⟨⟨_, (), rfl, rfl, by rw [ht]; exact hP9, va_K.moved hW.alike hK, hD9⟩, hS.F ht⟩) hS.2.2 dX9_to_75
  · replace hf := x_in c_1 hf
    refine lv_aload_n hx hb dX9_to_9 rfl (lv_at hl 0 rfl) ?_
    obtain ⟨r_21, h_21, hf⟩ := x_bi hf
    have hPc := hP.sub (ws' := [(o9, .inr (9, x_O9 0 v9_1 v9_2 v9_3 a9_4 a9_5 a9_6 a9_7 a9_8 a9_9 a9_10 a9_11 a9_12 v9_13 v9_14 v9_15 v9_16 v9_17 v9_18 a9_19 v9_20 v9_21 v9_22 a9_23 a9_24 a9_25 a9_26 a9_27 a9_28 a9_29 a9_30 a9_31 a9_32 a9_33 a9_34 v9_35 v9_36 a9_37 a9_38 a9_39 a9_40 a9_41 v9_42 a9_43 a9_44 a9_45 a9_46 a9_47 v9_48 v9_49 v9_50 v9_51 a9_52 a9_53 v9_54 v9_55 a9_56 a9_57 v9_58 a9_59 a9_60 a9_61))]) [0] rfl
    have hDc := hD.sub (ws' := [(o9, .inr (9, x_O9 0 v9_1 v9_2 v9_3 a9_4 a9_5 a9_6 a9_7 a9_8 a9_9 a9_10 a9_11 a9_12 v9_13 v9_14 v9_15 v9_16 v9_17 v9_18 a9_19 v9_20 v9_21 v9_22 a9_23 a9_24 a9_25 a9_26 a9_27 a9_28 a9_29 a9_30 a9_31 a9_32 a9_33 a9_34 v9_35 v9_36 a9_37 a9_38 a9_39 a9_40 a9_41 v9_42 a9_43 a9_44 a9_45 a9_46 a9_47 v9_48 v9_49 v9_50 v9_51 a9_52 a9_53 v9_54 v9_55 a9_56 a9_57 v9_58 a9_59 a9_60 a9_61))]) [0] (by decide) rfl
    have hFc := va_free (wc := [(o9, .inr (9, x_O9 0 v9_1 v9_2 v9_3 a9_4 a9_5 a9_6 a9_7 a9_8 a9_9 a9_10 a9_11 a9_12 v9_13 v9_14 v9_15 v9_16 v9_17 v9_18 a9_19 v9_20 v9_21 v9_22 a9_23 a9_24 a9_25 a9_26 a9_27 a9_28 a9_29 a9_30 a9_31 a9_32 a9_33 a9_34 v9_35 v9_36 a9_37 a9_38 a9_39 a9_40 a9_41 v9_42 a9_43 a9_44 a9_45 a9_46 a9_47 v9_48 v9_49 v9_50 v9_51 a9_52 a9_53 v9_54 v9_55 a9_56 a9_57 v9_58 a9_59 a9_60 a9_61))]) hD hS hA [0] rfl
    refine va_calli (va_runV (As := []) (rest := []) ⟨hx, hb, hml, hown, hts⟩ (c_X9_bad l dC dI cyI cyZ cyJ H.size o9 0 v9_1 v9_2 v9_3 a9_4 a9_5 a9_6 a9_7 a9_8 a9_9 a9_10 a9_11 a9_12 v9_13 v9_14 v9_15 v9_16 v9_17 v9_18 a9_19 v9_20 v9_21 v9_22 a9_23 a9_24 a9_25 a9_26 a9_27 a9_28 a9_29 a9_30 a9_31 a9_32 a9_33 a9_34 v9_35 v9_36 a9_37 a9_38 a9_39 a9_40 a9_41 v9_42 a9_43 a9_44 a9_45 a9_46 a9_47 v9_48 v9_49 v9_50 v9_51 a9_52 a9_53 v9_54 v9_55 a9_56 a9_57 v9_58 a9_59 a9_60 a9_61 r_21 h_21) (cwV 0 hts gX9_to_X9_bad rfl rfl rfl (by decide +kernel) ⟨Nat.le_of_ble_eq_true rfl, Nat.le_of_ble_eq_true rfl⟩) (x_pVD hN hK hPc hDc (ci := 9) (q0 := 0) rfl rfl) rfl rfl hl.1 rfl (lv_room (Nat.le_of_ble_eq_true rfl)) dX9_to_10 ⟨Nat.le_of_ble_eq_true rfl, Nat.le_of_ble_eq_true rfl⟩) hS (fun q _ h => hFc q h) hFc (fun q_21 u t H1 locs ht hvm hw hB hz1 hk1 hS => ?_)
    obtain ⟨hP1, hK1, hD1⟩ := hB
    rw [ht] at hP1
    obtain ⟨hP, hD⟩ := va_join (wr := [(a9_23, .inl (cyI, 1000, .inl g9_23)), (a9_27, .inl (cyI, 1000, .inl g9_27)), (a9_28, .inl (cyI, 50000, .inl g9_28))]) (w1 := [(o9, .inr (9, x_O9 (r_21.2) v9_1 v9_2 v9_3 a9_4 a9_5 a9_6 a9_7 a9_8 a9_9 a9_10 a9_11 a9_12 v9_13 v9_14 v9_15 v9_16 v9_17 v9_18 a9_19 v9_20 v9_21 v9_22 a9_23 a9_24 a9_25 a9_26 a9_27 a9_28 a9_29 a9_30 a9_31 a9_32 a9_33 a9_34 v9_35 v9_36 a9_37 a9_38 a9_39 a9_40 a9_41 v9_42 a9_43 a9_44 a9_45 a9_46 a9_47 v9_48 v9_49 v9_50 v9_51 a9_52 a9_53 v9_54 v9_55 a9_56 a9_57 v9_58 a9_59 a9_60 a9_61))]) hP hD [0] [1, 2, 3] rfl rfl (by decide) (by decide) hk1 hFc hP1 hD1
    clear hz1 hk1 hPc hDc hFc hP1 hK1 hD1 ht hvm t u
    generalize H1 = H at hP hS ⊢
    have hP : va_P (dC, dI) vwCl [(a9_23, .inl (cyI, 1000, .inl g9_23)), (a9_27, .inl (cyI, 1000, .inl g9_27)), (a9_28, .inl (cyI, 50000, .inl g9_28)), (o9, .inr (9, x_O9 (r_21.2) v9_1 v9_2 v9_3 a9_4 a9_5 a9_6 a9_7 a9_8 a9_9 a9_10 a9_11 a9_12 v9_13 v9_14 v9_15 v9_16 v9_17 v9_18 a9_19 v9_20 v9_21 v9_22 a9_23 a9_24 a9_25 a9_26 a9_27 a9_28 a9_29 a9_30 a9_31 a9_32 a9_33 a9_34 v9_35 v9_36 a9_37 a9_38 a9_39 a9_40 a9_41 v9_42 a9_43 a9_44 a9_45 a9_46 a9_47 v9_48 v9_49 v9_50 v9_51 a9_52 a9_53 v9_54 v9_55 a9_56 a9_57 v9_58 a9_59 a9_60 a9_61))] H := hP
    have hD : va_D A [(a9_23, .inl (cyI, 1000, .inl g9_23)), (a9_27, .inl (cyI, 1000, .inl g9_27)), (a9_28, .inl (cyI, 50000, .inl g9_28)), (o9, .inr (9, x_O9 (r_21.2) v9_1 v9_2 v9_3 a9_4 a9_5 a9_6 a9_7 a9_8 a9_9 a9_10 a9_11 a9_12 v9_13 v9_14 v9_15 v9_16 v9_17 v9_18 a9_19 v9_20 v9_21 v9_22 a9_23 a9_24 a9_25 a9_26 a9_27 a9_28 a9_29 a9_30 a9_31 a9_32 a9_33 a9_34 v9_35 v9_36 a9_37 a9_38 a9_39 a9_40 a9_41 v9_42 a9_43 a9_44 a9_45 a9_46 a9_47 v9_48 v9_49 v9_50 v9_51 a9_52 a9_53 v9_54 v9_55 a9_56 a9_57 v9_58 a9_59 a9_60 a9_61))] := hD
    obtain rfl := hw.symm
    obtain rfl := Option.some.inj hf
    have hP9 := hP.sub (ws' := [(o9, .inr (9, x_O9 (r_21.2) v9_1 v9_2 v9_3 a9_4 a9_5 a9_6 a9_7 a9_8 a9_9 a9_10 a9_11 a9_12 v9_13 v9_14 v9_15 v9_16 v9_17 v9_18 a9_19 v9_20 v9_21 v9_22 a9_23 a9_24 a9_25 a9_26 a9_27 a9_28 a9_29 a9_30 a9_31 a9_32 a9_33 a9_34 v9_35 v9_36 a9_37 a9_38 a9_39 a9_40 a9_41 v9_42 a9_43 a9_44 a9_45 a9_46 a9_47 v9_48 v9_49 v9_50 v9_51 a9_52 a9_53 v9_54 v9_55 a9_56 a9_57 v9_58 a9_59 a9_60 a9_61)), (a9_23, .inl (cyI, 1000, .inl g9_23)), (a9_27, .inl (cyI, 1000, .inl g9_27)), (a9_28, .inl (cyI, 50000, .inl g9_28))]) [3, 0, 1, 2] rfl
    have hD9 := hD.sub (ws' := [(o9, .inr (9, x_O9 (r_21.2) v9_1 v9_2 v9_3 a9_4 a9_5 a9_6 a9_7 a9_8 a9_9 a9_10 a9_11 a9_12 v9_13 v9_14 v9_15 v9_16 v9_17 v9_18 a9_19 v9_20 v9_21 v9_22 a9_23 a9_24 a9_25 a9_26 a9_27 a9_28 a9_29 a9_30 a9_31 a9_32 a9_33 a9_34 v9_35 v9_36 a9_37 a9_38 a9_39 a9_40 a9_41 v9_42 a9_43 a9_44 a9_45 a9_46 a9_47 v9_48 v9_49 v9_50 v9_51 a9_52 a9_53 v9_54 v9_55 a9_56 a9_57 v9_58 a9_59 a9_60 a9_61)), (a9_23, .inl (cyI, 1000, .inl g9_23)), (a9_27, .inl (cyI, 1000, .inl g9_27)), (a9_28, .inl (cyI, 50000, .inl g9_28))]) [3, 0, 1, 2] (by decide) rfl
    exact W.iret hx hb hr (fun t ht hW => ⟨⟨_, (), rfl, rfl, by rw [ht]; exact hP9, va_K.moved hW.alike hK, hD9⟩, hS.F ht⟩) hS.2.2 dX9_to_13

