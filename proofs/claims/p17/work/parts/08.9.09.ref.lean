def f_X9_array (v9_35 : Int32) (g9_34 : Nat → Int32) (p1 : Int32) : Option (Int32 × Int32) := if v9_35 = (0 : Int32) then some (0, v9_35) else if x_gd (v9_35 - (1 : Int32)) 202 = true then if (g9_34 (Int32.toNatClampNeg (v9_35 - (1 : Int32)))) = (5 : Int32) then some (1, v9_35 - (1 : Int32)) else if ((g9_34 (Int32.toNatClampNeg (v9_35 - (1 : Int32)))) &&& 15) = (8 : Int32) then if (((g9_34 (Int32.toNatClampNeg (v9_35 - (1 : Int32)))) >>> (4 &&& 31)) >>> (16 &&& 31)) = (0 : Int32) then some (0, v9_35 - (1 : Int32)) else if (65536 : Int32) ≤ (((g9_34 (Int32.toNatClampNeg (v9_35 - (1 : Int32)))) >>> (4 &&& 31)) - (65536 : Int32)) then if p1 = (4 : Int32) then some (1, v9_35 - (1 : Int32)) else some (0, v9_35 - (1 : Int32)) else if (65528 : Int32) ≤ (((g9_34 (Int32.toNatClampNeg (v9_35 - (1 : Int32)))) >>> (4 &&& 31)) - (65536 : Int32)) then if p1 = (0 : Int32) then if ((((g9_34 (Int32.toNatClampNeg (v9_35 - (1 : Int32)))) >>> (4 &&& 31)) - (65536 : Int32)) - (65528 : Int32)) = (6 : Int32) then some (1, v9_35 - (1 : Int32)) else some (0, v9_35 - (1 : Int32)) else if p1 = (1 : Int32) then if ((((g9_34 (Int32.toNatClampNeg (v9_35 - (1 : Int32)))) >>> (4 &&& 31)) - (65536 : Int32)) - (65528 : Int32)) = (7 : Int32) then some (1, v9_35 - (1 : Int32)) else some (0, v9_35 - (1 : Int32)) else if p1 = (2 : Int32) then if ((((g9_34 (Int32.toNatClampNeg (v9_35 - (1 : Int32)))) >>> (4 &&& 31)) - (65536 : Int32)) - (65528 : Int32)) = (2 : Int32) then some (1, v9_35 - (1 : Int32)) else some (0, v9_35 - (1 : Int32)) else if p1 = (3 : Int32) then if ((((g9_34 (Int32.toNatClampNeg (v9_35 - (1 : Int32)))) >>> (4 &&& 31)) - (65536 : Int32)) - (65528 : Int32)) = (3 : Int32) then some (1, v9_35 - (1 : Int32)) else some (0, v9_35 - (1 : Int32)) else if p1 = (5 : Int32) then if ((((g9_34 (Int32.toNatClampNeg (v9_35 - (1 : Int32)))) >>> (4 &&& 31)) - (65536 : Int32)) - (65528 : Int32)) = (0 : Int32) then some (1, v9_35 - (1 : Int32)) else if ((((g9_34 (Int32.toNatClampNeg (v9_35 - (1 : Int32)))) >>> (4 &&& 31)) - (65536 : Int32)) - (65528 : Int32)) = (4 : Int32) then some (1, v9_35 - (1 : Int32)) else some (0, v9_35 - (1 : Int32)) else if p1 = (6 : Int32) then if ((((g9_34 (Int32.toNatClampNeg (v9_35 - (1 : Int32)))) >>> (4 &&& 31)) - (65536 : Int32)) - (65528 : Int32)) = (1 : Int32) then some (1, v9_35 - (1 : Int32)) else some (0, v9_35 - (1 : Int32)) else if p1 = (7 : Int32) then if ((((g9_34 (Int32.toNatClampNeg (v9_35 - (1 : Int32)))) >>> (4 &&& 31)) - (65536 : Int32)) - (65528 : Int32)) = (5 : Int32) then some (1, v9_35 - (1 : Int32)) else some (0, v9_35 - (1 : Int32)) else some (0, v9_35 - (1 : Int32)) else if p1 = (4 : Int32) then some (1, v9_35 - (1 : Int32)) else some (0, v9_35 - (1 : Int32)) else some (0, v9_35 - (1 : Int32)) else none
theorem i_X9_array_X9 : ∀ w ∈ wsX90, w ∈ wsX9_array := fun _ h => List.mem_cons_of_mem _ (List.mem_append_right _ h)
set_option maxHeartbeats 4000000 in
set_option maxRecDepth 100000 in
theorem c_X9_array (l : Launch) (dC : Nat → ClassId) (dI : Nat → Nat → Nat) (cyI cyZ cyJ : ClassId) (sz : Nat) (o9 : Nat) (v9_0 : Int32) (v9_1 : Int32) (v9_2 : Int32) (v9_3 : Int32) (a9_4 : Nat) (a9_5 : Nat) (a9_6 : Nat) (a9_7 : Nat) (a9_8 : Nat) (a9_9 : Nat) (a9_10 : Nat) (a9_11 : Nat) (a9_12 : Nat) (v9_13 : Int32) (v9_14 : Int32) (v9_15 : Int32) (v9_16 : Int32) (v9_17 : Int32) (v9_18 : Int32) (a9_19 : Nat) (v9_20 : Int32) (v9_21 : Int32) (v9_22 : Int32) (a9_23 : Nat) (a9_24 : Nat) (a9_25 : Nat) (a9_26 : Nat) (a9_27 : Nat) (a9_28 : Nat) (a9_29 : Nat) (a9_30 : Nat) (a9_31 : Nat) (a9_32 : Nat) (a9_33 : Nat) (a9_34 : Nat) (v9_35 : Int32) (v9_36 : Int32) (a9_37 : Nat) (a9_38 : Nat) (a9_39 : Nat) (a9_40 : Nat) (a9_41 : Nat) (v9_42 : Int32) (a9_43 : Nat) (a9_44 : Nat) (a9_45 : Nat) (a9_46 : Nat) (a9_47 : Nat) (v9_48 : Int32) (v9_49 : Int32) (v9_50 : Int32) (v9_51 : Int32) (a9_52 : Nat) (a9_53 : Nat) (v9_54 : Int32) (v9_55 : Int32) (a9_56 : Nat) (a9_57 : Nat) (v9_58 : Int32) (a9_59 : Nat) (a9_60 : Nat) (a9_61 : Nat) (g9_34 : Nat → Int32) (p1 : Int32) (R : Int32 × Int32) (hf : f_X9_array v9_35 g9_34 p1 = some R) : Met l yX9_array wsX9_array ({ frames := 0, cells := 0, slots := 0, locals := 0 }) (va_Pc [.ref o9, .int p1] (x_PreD (dC, dI) (x_T cyI cyZ cyJ) [(o9, .inr (9, x_O9 v9_0 v9_1 v9_2 v9_3 a9_4 a9_5 a9_6 a9_7 a9_8 a9_9 a9_10 a9_11 a9_12 v9_13 v9_14 v9_15 v9_16 v9_17 v9_18 a9_19 v9_20 v9_21 v9_22 a9_23 a9_24 a9_25 a9_26 a9_27 a9_28 a9_29 a9_30 a9_31 a9_32 a9_33 a9_34 v9_35 v9_36 a9_37 a9_38 a9_39 a9_40 a9_41 v9_42 a9_43 a9_44 a9_45 a9_46 a9_47 v9_48 v9_49 v9_50 v9_51 a9_52 a9_53 v9_54 v9_55 a9_56 a9_57 v9_58 a9_59 a9_60 a9_61)), (a9_34, .inl (cyI, 202, .inl g9_34))] sz)) (va_Qi (fun (r : Int32) (_ : Unit) => r = R.1 ∧ x_nb r) (fun (_ : Unit) (t : State) => va_P (dC, dI) vwCl [(o9, .inr (9, x_O9 v9_0 v9_1 v9_2 v9_3 a9_4 a9_5 a9_6 a9_7 a9_8 a9_9 a9_10 a9_11 a9_12 v9_13 v9_14 v9_15 v9_16 v9_17 v9_18 a9_19 v9_20 v9_21 v9_22 a9_23 a9_24 a9_25 a9_26 a9_27 a9_28 a9_29 a9_30 a9_31 a9_32 a9_33 a9_34 (R.2) v9_36 a9_37 a9_38 a9_39 a9_40 a9_41 v9_42 a9_43 a9_44 a9_45 a9_46 a9_47 v9_48 v9_49 v9_50 v9_51 a9_52 a9_53 v9_54 v9_55 a9_56 a9_57 v9_58 a9_59 a9_60 a9_61)), (a9_34, .inl (cyI, 202, .inl g9_34))] t.heap ∧ va_K (dC, dI) vwCl (x_T cyI cyZ cyJ) t ∧ va_D (va_A [(o9, .inr (9, x_O9 v9_0 v9_1 v9_2 v9_3 a9_4 a9_5 a9_6 a9_7 a9_8 a9_9 a9_10 a9_11 a9_12 v9_13 v9_14 v9_15 v9_16 v9_17 v9_18 a9_19 v9_20 v9_21 v9_22 a9_23 a9_24 a9_25 a9_26 a9_27 a9_28 a9_29 a9_30 a9_31 a9_32 a9_33 a9_34 v9_35 v9_36 a9_37 a9_38 a9_39 a9_40 a9_41 v9_42 a9_43 a9_44 a9_45 a9_46 a9_47 v9_48 v9_49 v9_50 v9_51 a9_52 a9_53 v9_54 v9_55 a9_56 a9_57 v9_58 a9_59 a9_60 a9_61)), (a9_34, .inl (cyI, 202, .inl g9_34))] sz) [(o9, .inr (9, x_O9 v9_0 v9_1 v9_2 v9_3 a9_4 a9_5 a9_6 a9_7 a9_8 a9_9 a9_10 a9_11 a9_12 v9_13 v9_14 v9_15 v9_16 v9_17 v9_18 a9_19 v9_20 v9_21 v9_22 a9_23 a9_24 a9_25 a9_26 a9_27 a9_28 a9_29 a9_30 a9_31 a9_32 a9_33 a9_34 (R.2) v9_36 a9_37 a9_38 a9_39 a9_40 a9_41 v9_42 a9_43 a9_44 a9_45 a9_46 a9_47 v9_48 v9_49 v9_50 v9_51 a9_52 a9_53 v9_54 v9_55 a9_56 a9_57 v9_58 a9_59 a9_60 a9_61)), (a9_34, .inl (cyI, 202, .inl g9_34))]) (va_A [(o9, .inr (9, x_O9 v9_0 v9_1 v9_2 v9_3 a9_4 a9_5 a9_6 a9_7 a9_8 a9_9 a9_10 a9_11 a9_12 v9_13 v9_14 v9_15 v9_16 v9_17 v9_18 a9_19 v9_20 v9_21 v9_22 a9_23 a9_24 a9_25 a9_26 a9_27 a9_28 a9_29 a9_30 a9_31 a9_32 a9_33 a9_34 v9_35 v9_36 a9_37 a9_38 a9_39 a9_40 a9_41 v9_42 a9_43 a9_44 a9_45 a9_46 a9_47 v9_48 v9_49 v9_50 v9_51 a9_52 a9_53 v9_54 v9_55 a9_56 a9_57 v9_58 a9_59 a9_60 a9_61)), (a9_34, .inl (cyI, 202, .inl g9_34))] sz)) 0 0 (va_A [(o9, .inr (9, x_O9 v9_0 v9_1 v9_2 v9_3 a9_4 a9_5 a9_6 a9_7 a9_8 a9_9 a9_10 a9_11 a9_12 v9_13 v9_14 v9_15 v9_16 v9_17 v9_18 a9_19 v9_20 v9_21 v9_22 a9_23 a9_24 a9_25 a9_26 a9_27 a9_28 a9_29 a9_30 a9_31 a9_32 a9_33 a9_34 v9_35 v9_36 a9_37 a9_38 a9_39 a9_40 a9_41 v9_42 a9_43 a9_44 a9_45 a9_46 a9_47 v9_48 v9_49 v9_50 v9_51 a9_52 a9_53 v9_54 v9_55 a9_56 a9_57 v9_58 a9_59 a9_60 a9_61)), (a9_34, .inl (cyI, 202, .inl g9_34))] sz) := by
  refine Met.ofW (cc := cX9_array) (maxL := 6) (ret := (some .boolean)) (by decide) rfl ?_
  intro p e s m args below meth c s₁ B hml hv
  obtain ⟨rfl, ⟨hsz, hP, hK, hN⟩, hD0⟩ := hv
  have hx := B.exec
  have hb := B.bytes
  have hr := B.returns
  have hts := atoms_spec (ws := wsX9_array) B.pre
  have hown : s.vm.findClass RX9 = some m.cls := findClass_of_methodNamed B.named
  have k_1 := hts (.fieldLink RX9 215 "FlowJudgeModel" "h" "I") (by decide +kernel)
  have k_2 := hts (.fieldLink RX9 85 "FlowJudgeModel" "st" "[I") (by decide +kernel)
  have k_3 := hts (.constant RX9 141 (65536)) (by decide +kernel)
  have k_4 := hts (.constant RX9 140 (65528)) (by decide +kernel)
  subst hsz
  have hD := hD0.self (sz := s.heap.size)
  generalize hAe : va_A [(o9, .inr (9, x_O9 v9_0 v9_1 v9_2 v9_3 a9_4 a9_5 a9_6 a9_7 a9_8 a9_9 a9_10 a9_11 a9_12 v9_13 v9_14 v9_15 v9_16 v9_17 v9_18 a9_19 v9_20 v9_21 v9_22 a9_23 a9_24 a9_25 a9_26 a9_27 a9_28 a9_29 a9_30 a9_31 a9_32 a9_33 a9_34 v9_35 v9_36 a9_37 a9_38 a9_39 a9_40 a9_41 v9_42 a9_43 a9_44 a9_45 a9_46 a9_47 v9_48 v9_49 v9_50 v9_51 a9_52 a9_53 v9_54 v9_55 a9_56 a9_57 v9_58 a9_59 a9_60 a9_61)), (a9_34, .inl (cyI, 202, .inl g9_34))] s.heap.size = A at hD ⊢
  have hA : ∀ q : Nat, s.heap.size ≤ q → A q := fun q h => by rw [← hAe]; exact Or.inr h
  have hP : va_P (dC, dI) vwCl [(o9, .inr (9, x_O9 v9_0 v9_1 v9_2 v9_3 a9_4 a9_5 a9_6 a9_7 a9_8 a9_9 a9_10 a9_11 a9_12 v9_13 v9_14 v9_15 v9_16 v9_17 v9_18 a9_19 v9_20 v9_21 v9_22 a9_23 a9_24 a9_25 a9_26 a9_27 a9_28 a9_29 a9_30 a9_31 a9_32 a9_33 a9_34 v9_35 v9_36 a9_37 a9_38 a9_39 a9_40 a9_41 v9_42 a9_43 a9_44 a9_45 a9_46 a9_47 v9_48 v9_49 v9_50 v9_51 a9_52 a9_53 v9_54 v9_55 a9_56 a9_57 v9_58 a9_59 a9_60 a9_61)), (a9_34, .inl (cyI, 202, .inl g9_34))] s.heap := hP
  have hl := lv_entry ([.ref o9, .int p1]) (n := 6) (Nat.le_of_ble_eq_true rfl)
  rw [lg_entry_eq]
  generalize (lg_sl ([.ref o9, .int p1]) ++ List.replicate (6 - (lg_sl ([.ref o9, .int p1])).length) Slot.unset).toArray = ls at hl ⊢
  have hl : lv_has ls 6 [(0, .ref o9), (1, .int p1)] := hl
  obtain ⟨H, hH⟩ : ∃ z, z = s.heap := ⟨_, rfl⟩
  refine x_here hH ?_
  have hP : va_P (dC, dI) vwCl [(o9, .inr (9, x_O9 v9_0 v9_1 v9_2 v9_3 a9_4 a9_5 a9_6 a9_7 a9_8 a9_9 a9_10 a9_11 a9_12 v9_13 v9_14 v9_15 v9_16 v9_17 v9_18 a9_19 v9_20 v9_21 v9_22 a9_23 a9_24 a9_25 a9_26 a9_27 a9_28 a9_29 a9_30 a9_31 a9_32 a9_33 a9_34 v9_35 v9_36 a9_37 a9_38 a9_39 a9_40 a9_41 v9_42 a9_43 a9_44 a9_45 a9_46 a9_47 v9_48 v9_49 v9_50 v9_51 a9_52 a9_53 v9_54 v9_55 a9_56 a9_57 v9_58 a9_59 a9_60 a9_61)), (a9_34, .inl (cyI, 202, .inl g9_34))] H := by rw [hH]; exact hP
  have hS : va_S A s.heap H [] := by rw [hH]; exact va_S.rf
  clear hH
  obtain ⟨locs, hlo⟩ : ∃ z : List Loc, z = [] := ⟨_, rfl⟩
  refine x_herl hlo ?_
  have hS : va_S A s.heap H locs := by rw [hlo]; exact hS
  clear hlo
  unfold f_X9_array at hf
  refine lv_aload_n hx hb dX9_array_0 rfl (lv_at hl 0 rfl) ?_
  refine va_get (D := (dC, dI)) (ci := 9) (v := .int v9_35) (C := RX9) (T := TX9) (N := 62) hx hb hts i_X9_array_X9 hown hK hP 0 rfl rfl 35 (by decide) k_1 (fun _ h9 => h9) rfl dX9_array_1 ?_
  refine lv_if_ne (tgt := 9) hx hb dX9_array_4 (by decide) (fun c_1 => ?_) (fun c_1 => ?_)
  · replace hf := x_in c_1 hf
    refine lv_aload_n hx hb dX9_array_9 rfl (lv_at hl 0 rfl) ?_
    refine va_get (D := (dC, dI)) (ci := 9) (v := .ref a9_34) (C := RX9) (T := TX9) (N := 62) hx hb hts i_X9_array_X9 hown hK hP 0 rfl rfl 34 (by decide) k_2 (fun _ h9 => h9) rfl dX9_array_10 ?_
    refine lv_aload_n hx hb dX9_array_13 rfl (lv_at hl 0 rfl) ?_
    refine lv_dup hx hb dX9_array_14 rfl ?_
    refine va_get (D := (dC, dI)) (ci := 9) (v := .int v9_35) (C := RX9) (T := TX9) (N := 62) hx hb hts i_X9_array_X9 hown hK hP 0 rfl rfl 35 (by decide) k_1 (fun _ h9 => h9) rfl dX9_array_15 ?_
    refine lv_iconst (v := 1) hx hb dX9_array_18 (by decide) ?_
    refine lv_isub hx hb dX9_array_19 ?_
    refine lv_dup_x1 hx hb dX9_array_20 rfl rfl ?_
    refine va_put (D := (dC, dI)) (ci := 9) (v := .int (v9_35 - (1 : Int32))) (ty := .int) (C := RX9) (T := TX9) (N := 62) hx hb hts i_X9_array_X9 tyX9 tyX9_ok nmX9 hown hK hP hD hS 0 rfl rfl 35 (by decide) k_1 (fun _ h9 => h9) rfl (by decide +kernel) rfl rfl (Nat.le_of_ble_eq_true rfl) dX9_array_21 (fun H locs hP hD hS => ?_)
    have hP : va_P (dC, dI) vwCl [(o9, .inr (9, x_O9 v9_0 v9_1 v9_2 v9_3 a9_4 a9_5 a9_6 a9_7 a9_8 a9_9 a9_10 a9_11 a9_12 v9_13 v9_14 v9_15 v9_16 v9_17 v9_18 a9_19 v9_20 v9_21 v9_22 a9_23 a9_24 a9_25 a9_26 a9_27 a9_28 a9_29 a9_30 a9_31 a9_32 a9_33 a9_34 (v9_35 - (1 : Int32)) v9_36 a9_37 a9_38 a9_39 a9_40 a9_41 v9_42 a9_43 a9_44 a9_45 a9_46 a9_47 v9_48 v9_49 v9_50 v9_51 a9_52 a9_53 v9_54 v9_55 a9_56 a9_57 v9_58 a9_59 a9_60 a9_61)), (a9_34, .inl (cyI, 202, .inl g9_34))] H := hP
    have hD : va_D A [(o9, .inr (9, x_O9 v9_0 v9_1 v9_2 v9_3 a9_4 a9_5 a9_6 a9_7 a9_8 a9_9 a9_10 a9_11 a9_12 v9_13 v9_14 v9_15 v9_16 v9_17 v9_18 a9_19 v9_20 v9_21 v9_22 a9_23 a9_24 a9_25 a9_26 a9_27 a9_28 a9_29 a9_30 a9_31 a9_32 a9_33 a9_34 (v9_35 - (1 : Int32)) v9_36 a9_37 a9_38 a9_39 a9_40 a9_41 v9_42 a9_43 a9_44 a9_45 a9_46 a9_47 v9_48 v9_49 v9_50 v9_51 a9_52 a9_53 v9_54 v9_55 a9_56 a9_57 v9_58 a9_59 a9_60 a9_61)), (a9_34, .inl (cyI, 202, .inl g9_34))] := hD
    obtain ⟨g_2, hf⟩ := x_gu hf
    refine va_iald hx hb hK hP 1 0 rfl rfl (x_gdin g_2) dX9_array_24 ?_
    refine lv_istore_n (lv' := [(2, .int (g9_34 (Int32.toNatClampNeg (v9_35 - (1 : Int32))))), (0, .ref o9), (1, .int p1)]) hx hb dX9_array_25 rfl hl (by decide) rfl (fun ls hl => ?_)
    refine lv_iload_n hx hb dX9_array_26 rfl (lv_at hl 0 rfl) ?_
    refine lv_iconst (v := 5) hx hb dX9_array_27 (by decide) ?_
    refine lv_icmp_ne (tgt := 33) hx hb dX9_array_28 (by decide) (fun c_3 => ?_) (fun c_3 => ?_)
    · replace hf := x_in c_3 hf
      refine lv_iload_n hx hb dX9_array_33 rfl (lv_at hl 0 rfl) ?_
      refine lv_iconst (v := 4) hx hb dX9_array_34 (by decide) ?_
      refine lv_ishr hx hb dX9_array_35 ?_
      refine lv_istore_n (lv' := [(3, .int ((g9_34 (Int32.toNatClampNeg (v9_35 - (1 : Int32)))) >>> (4 &&& 31))), (2, .int (g9_34 (Int32.toNatClampNeg (v9_35 - (1 : Int32))))), (0, .ref o9), (1, .int p1)]) hx hb dX9_array_36 rfl hl (by decide) rfl (fun ls hl => ?_)
      refine lv_iload_n hx hb dX9_array_37 rfl (lv_at hl 1 rfl) ?_
      refine lv_bipush (v := 15) hx hb dX9_array_38 (by decide) ?_
      refine lv_iand hx hb dX9_array_40 ?_
      refine lv_bipush (v := 8) hx hb dX9_array_41 (by decide) ?_
      refine lv_icmp_ne (tgt := 53) hx hb dX9_array_43 (by decide) (fun c_4 => ?_) (fun c_4 => ?_)
      · replace hf := x_in c_4 hf
        refine lv_iconst (v := 0) hx hb dX9_array_53 (by decide) ?_
        obtain rfl := Option.some.inj hf
        have hP9 := hP.sub (ws' := [(o9, .inr (9, x_O9 v9_0 v9_1 v9_2 v9_3 a9_4 a9_5 a9_6 a9_7 a9_8 a9_9 a9_10 a9_11 a9_12 v9_13 v9_14 v9_15 v9_16 v9_17 v9_18 a9_19 v9_20 v9_21 v9_22 a9_23 a9_24 a9_25 a9_26 a9_27 a9_28 a9_29 a9_30 a9_31 a9_32 a9_33 a9_34 (v9_35 - (1 : Int32)) v9_36 a9_37 a9_38 a9_39 a9_40 a9_41 v9_42 a9_43 a9_44 a9_45 a9_46 a9_47 v9_48 v9_49 v9_50 v9_51 a9_52 a9_53 v9_54 v9_55 a9_56 a9_57 v9_58 a9_59 a9_60 a9_61)), (a9_34, .inl (cyI, 202, .inl g9_34))]) [0, 1] rfl
        have hD9 := hD.sub (ws' := [(o9, .inr (9, x_O9 v9_0 v9_1 v9_2 v9_3 a9_4 a9_5 a9_6 a9_7 a9_8 a9_9 a9_10 a9_11 a9_12 v9_13 v9_14 v9_15 v9_16 v9_17 v9_18 a9_19 v9_20 v9_21 v9_22 a9_23 a9_24 a9_25 a9_26 a9_27 a9_28 a9_29 a9_30 a9_31 a9_32 a9_33 a9_34 (v9_35 - (1 : Int32)) v9_36 a9_37 a9_38 a9_39 a9_40 a9_41 v9_42 a9_43 a9_44 a9_45 a9_46 a9_47 v9_48 v9_49 v9_50 v9_51 a9_52 a9_53 v9_54 v9_55 a9_56 a9_57 v9_58 a9_59 a9_60 a9_61)), (a9_34, .inl (cyI, 202, .inl g9_34))]) [0, 1] (by decide) rfl
        exact W.zret (ty := .boolean) hx hb hr rfl (fun t ht hW => ⟨⟨_, (), rfl, ⟨rfl, rfl⟩, by rw [ht]; exact hP9, va_K.moved hW.alike hK, hD9⟩, hS.F ht⟩) hS.2.2 dX9_array_54
      · replace hf := x_ip c_4 hf
        refine lv_iload_n hx hb dX9_array_46 rfl (lv_at hl 0 rfl) ?_
        refine lv_bipush (v := 16) hx hb dX9_array_47 (by decide) ?_
        refine lv_ishr hx hb dX9_array_49 ?_
        refine lv_if_ne (tgt := 55) hx hb dX9_array_50 (by decide) (fun c_5 => ?_) (fun c_5 => ?_)
        · replace hf := x_in c_5 hf
          refine lv_iload_n hx hb dX9_array_55 rfl (lv_at hl 0 rfl) ?_
          refine lv_ldc (v := 65536) hx hb hown k_3 dX9_array_56 ?_
          refine lv_isub hx hb dX9_array_58 ?_
          refine lv_istore (lv' := [(4, .int (((g9_34 (Int32.toNatClampNeg (v9_35 - (1 : Int32)))) >>> (4 &&& 31)) - (65536 : Int32))), (3, .int ((g9_34 (Int32.toNatClampNeg (v9_35 - (1 : Int32)))) >>> (4 &&& 31))), (2, .int (g9_34 (Int32.toNatClampNeg (v9_35 - (1 : Int32))))), (0, .ref o9), (1, .int p1)]) hx hb dX9_array_59 hl (by decide) rfl (fun ls hl => ?_)
          refine lv_iload hx hb dX9_array_61 (lv_at hl 0 rfl) ?_
          refine lv_ldc (v := 65536) hx hb hown k_3 dX9_array_63 ?_
          refine lv_icmp_ge (tgt := 75) hx hb dX9_array_65 (by decide) (fun c_6 => ?_) (fun c_6 => ?_)
          · replace hf := x_ip c_6 hf
            refine lv_iload_n hx hb dX9_array_75 rfl (lv_at hl 4 rfl) ?_
            refine lv_iconst (v := 4) hx hb dX9_array_76 (by decide) ?_
            refine lv_icmp_ne (tgt := 84) hx hb dX9_array_77 (by decide) (fun c_7 => ?_) (fun c_7 => ?_)
            · replace hf := x_in c_7 hf
              refine lv_iconst (v := 0) hx hb dX9_array_84 (by decide) ?_
              obtain rfl := Option.some.inj hf
              have hP9 := hP.sub (ws' := [(o9, .inr (9, x_O9 v9_0 v9_1 v9_2 v9_3 a9_4 a9_5 a9_6 a9_7 a9_8 a9_9 a9_10 a9_11 a9_12 v9_13 v9_14 v9_15 v9_16 v9_17 v9_18 a9_19 v9_20 v9_21 v9_22 a9_23 a9_24 a9_25 a9_26 a9_27 a9_28 a9_29 a9_30 a9_31 a9_32 a9_33 a9_34 (v9_35 - (1 : Int32)) v9_36 a9_37 a9_38 a9_39 a9_40 a9_41 v9_42 a9_43 a9_44 a9_45 a9_46 a9_47 v9_48 v9_49 v9_50 v9_51 a9_52 a9_53 v9_54 v9_55 a9_56 a9_57 v9_58 a9_59 a9_60 a9_61)), (a9_34, .inl (cyI, 202, .inl g9_34))]) [0, 1] rfl
              have hD9 := hD.sub (ws' := [(o9, .inr (9, x_O9 v9_0 v9_1 v9_2 v9_3 a9_4 a9_5 a9_6 a9_7 a9_8 a9_9 a9_10 a9_11 a9_12 v9_13 v9_14 v9_15 v9_16 v9_17 v9_18 a9_19 v9_20 v9_21 v9_22 a9_23 a9_24 a9_25 a9_26 a9_27 a9_28 a9_29 a9_30 a9_31 a9_32 a9_33 a9_34 (v9_35 - (1 : Int32)) v9_36 a9_37 a9_38 a9_39 a9_40 a9_41 v9_42 a9_43 a9_44 a9_45 a9_46 a9_47 v9_48 v9_49 v9_50 v9_51 a9_52 a9_53 v9_54 v9_55 a9_56 a9_57 v9_58 a9_59 a9_60 a9_61)), (a9_34, .inl (cyI, 202, .inl g9_34))]) [0, 1] (by decide) rfl
              exact W.zret (ty := .boolean) hx hb hr rfl (fun t ht hW => ⟨⟨_, (), rfl, ⟨rfl, rfl⟩, by rw [ht]; exact hP9, va_K.moved hW.alike hK, hD9⟩, hS.F ht⟩) hS.2.2 dX9_array_85
            · replace hf := x_ip c_7 hf
              refine lv_iconst (v := 1) hx hb dX9_array_80 (by decide) ?_
              refine lv_goto (tgt := 85) hx hb dX9_array_81 (by decide) ?_
              obtain rfl := Option.some.inj hf
              have hP9 := hP.sub (ws' := [(o9, .inr (9, x_O9 v9_0 v9_1 v9_2 v9_3 a9_4 a9_5 a9_6 a9_7 a9_8 a9_9 a9_10 a9_11 a9_12 v9_13 v9_14 v9_15 v9_16 v9_17 v9_18 a9_19 v9_20 v9_21 v9_22 a9_23 a9_24 a9_25 a9_26 a9_27 a9_28 a9_29 a9_30 a9_31 a9_32 a9_33 a9_34 (v9_35 - (1 : Int32)) v9_36 a9_37 a9_38 a9_39 a9_40 a9_41 v9_42 a9_43 a9_44 a9_45 a9_46 a9_47 v9_48 v9_49 v9_50 v9_51 a9_52 a9_53 v9_54 v9_55 a9_56 a9_57 v9_58 a9_59 a9_60 a9_61)), (a9_34, .inl (cyI, 202, .inl g9_34))]) [0, 1] rfl
              have hD9 := hD.sub (ws' := [(o9, .inr (9, x_O9 v9_0 v9_1 v9_2 v9_3 a9_4 a9_5 a9_6 a9_7 a9_8 a9_9 a9_10 a9_11 a9_12 v9_13 v9_14 v9_15 v9_16 v9_17 v9_18 a9_19 v9_20 v9_21 v9_22 a9_23 a9_24 a9_25 a9_26 a9_27 a9_28 a9_29 a9_30 a9_31 a9_32 a9_33 a9_34 (v9_35 - (1 : Int32)) v9_36 a9_37 a9_38 a9_39 a9_40 a9_41 v9_42 a9_43 a9_44 a9_45 a9_46 a9_47 v9_48 v9_49 v9_50 v9_51 a9_52 a9_53 v9_54 v9_55 a9_56 a9_57 v9_58 a9_59 a9_60 a9_61)), (a9_34, .inl (cyI, 202, .inl g9_34))]) [0, 1] (by decide) rfl
              exact W.zret (ty := .boolean) hx hb hr rfl (fun t ht hW => ⟨⟨_, (), rfl, ⟨rfl, rfl⟩, by rw [ht]; exact hP9, va_K.moved hW.alike hK, hD9⟩, hS.F ht⟩) hS.2.2 dX9_array_85
          · replace hf := x_in c_6 hf
            refine lv_iload hx hb dX9_array_68 (lv_at hl 0 rfl) ?_
            refine lv_ldc (v := 65528) hx hb hown k_4 dX9_array_70 ?_
            refine lv_icmp_ge (tgt := 86) hx hb dX9_array_72 (by decide) (fun c_8 => ?_) (fun c_8 => ?_)
            · replace hf := x_ip c_8 hf
              refine lv_iload hx hb dX9_array_86 (lv_at hl 0 rfl) ?_
              refine lv_ldc (v := 65528) hx hb hown k_4 dX9_array_88 ?_
              refine lv_isub hx hb dX9_array_90 ?_
              refine lv_istore (lv' := [(5, .int ((((g9_34 (Int32.toNatClampNeg (v9_35 - (1 : Int32)))) >>> (4 &&& 31)) - (65536 : Int32)) - (65528 : Int32))), (4, .int (((g9_34 (Int32.toNatClampNeg (v9_35 - (1 : Int32)))) >>> (4 &&& 31)) - (65536 : Int32))), (3, .int ((g9_34 (Int32.toNatClampNeg (v9_35 - (1 : Int32)))) >>> (4 &&& 31))), (2, .int (g9_34 (Int32.toNatClampNeg (v9_35 - (1 : Int32))))), (0, .ref o9), (1, .int p1)]) hx hb dX9_array_91 hl (by decide) rfl (fun ls hl => ?_)
              refine lv_iload_n hx hb dX9_array_93 rfl (lv_at hl 5 rfl) ?_
              refine lv_if_ne (tgt := 112) hx hb dX9_array_94 (by decide) (fun c_9 => ?_) (fun c_9 => ?_)
              · replace hf := x_in c_9 hf
                refine lv_iload_n hx hb dX9_array_112 rfl (lv_at hl 5 rfl) ?_
                refine lv_iconst (v := 1) hx hb dX9_array_113 (by decide) ?_
                refine lv_icmp_ne (tgt := 132) hx hb dX9_array_114 (by decide) (fun c_10 => ?_) (fun c_10 => ?_)
                · replace hf := x_in c_10 hf
                  refine lv_iload_n hx hb dX9_array_132 rfl (lv_at hl 5 rfl) ?_
                  refine lv_iconst (v := 2) hx hb dX9_array_133 (by decide) ?_
                  refine lv_icmp_ne (tgt := 151) hx hb dX9_array_134 (by decide) (fun c_11 => ?_) (fun c_11 => ?_)
                  · replace hf := x_in c_11 hf
                    refine lv_iload_n hx hb dX9_array_151 rfl (lv_at hl 5 rfl) ?_
                    refine lv_iconst (v := 3) hx hb dX9_array_152 (by decide) ?_
                    refine lv_icmp_ne (tgt := 170) hx hb dX9_array_153 (by decide) (fun c_12 => ?_) (fun c_12 => ?_)
                    · replace hf := x_in c_12 hf
                      refine lv_iload_n hx hb dX9_array_170 rfl (lv_at hl 5 rfl) ?_
                      refine lv_iconst (v := 5) hx hb dX9_array_171 (by decide) ?_
                      refine lv_icmp_ne (tgt := 194) hx hb dX9_array_172 (by decide) (fun c_13 => ?_) (fun c_13 => ?_)
                      · replace hf := x_in c_13 hf
                        refine lv_iload_n hx hb dX9_array_194 rfl (lv_at hl 5 rfl) ?_
                        refine lv_bipush (v := 6) hx hb dX9_array_195 (by decide) ?_
                        refine lv_icmp_ne (tgt := 214) hx hb dX9_array_197 (by decide) (fun c_14 => ?_) (fun c_14 => ?_)
                        · replace hf := x_in c_14 hf
                          refine lv_iload_n hx hb dX9_array_214 rfl (lv_at hl 5 rfl) ?_
                          refine lv_bipush (v := 7) hx hb dX9_array_215 (by decide) ?_
                          refine lv_icmp_ne (tgt := 230) hx hb dX9_array_217 (by decide) (fun c_15 => ?_) (fun c_15 => ?_)
                          · replace hf := x_in c_15 hf
                            refine lv_iconst (v := 0) hx hb dX9_array_230 (by decide) ?_
                            obtain rfl := Option.some.inj hf
                            have hP9 := hP.sub (ws' := [(o9, .inr (9, x_O9 v9_0 v9_1 v9_2 v9_3 a9_4 a9_5 a9_6 a9_7 a9_8 a9_9 a9_10 a9_11 a9_12 v9_13 v9_14 v9_15 v9_16 v9_17 v9_18 a9_19 v9_20 v9_21 v9_22 a9_23 a9_24 a9_25 a9_26 a9_27 a9_28 a9_29 a9_30 a9_31 a9_32 a9_33 a9_34 (v9_35 - (1 : Int32)) v9_36 a9_37 a9_38 a9_39 a9_40 a9_41 v9_42 a9_43 a9_44 a9_45 a9_46 a9_47 v9_48 v9_49 v9_50 v9_51 a9_52 a9_53 v9_54 v9_55 a9_56 a9_57 v9_58 a9_59 a9_60 a9_61)), (a9_34, .inl (cyI, 202, .inl g9_34))]) [0, 1] rfl
                            have hD9 := hD.sub (ws' := [(o9, .inr (9, x_O9 v9_0 v9_1 v9_2 v9_3 a9_4 a9_5 a9_6 a9_7 a9_8 a9_9 a9_10 a9_11 a9_12 v9_13 v9_14 v9_15 v9_16 v9_17 v9_18 a9_19 v9_20 v9_21 v9_22 a9_23 a9_24 a9_25 a9_26 a9_27 a9_28 a9_29 a9_30 a9_31 a9_32 a9_33 a9_34 (v9_35 - (1 : Int32)) v9_36 a9_37 a9_38 a9_39 a9_40 a9_41 v9_42 a9_43 a9_44 a9_45 a9_46 a9_47 v9_48 v9_49 v9_50 v9_51 a9_52 a9_53 v9_54 v9_55 a9_56 a9_57 v9_58 a9_59 a9_60 a9_61)), (a9_34, .inl (cyI, 202, .inl g9_34))]) [0, 1] (by decide) rfl
                            exact W.zret (ty := .boolean) hx hb hr rfl (fun t ht hW => ⟨⟨_, (), rfl, ⟨rfl, rfl⟩, by rw [ht]; exact hP9, va_K.moved hW.alike hK, hD9⟩, hS.F ht⟩) hS.2.2 dX9_array_231
                          · replace hf := x_ip c_15 hf
                            refine lv_iload hx hb dX9_array_220 (lv_at hl 0 rfl) ?_
                            refine lv_iconst (v := 5) hx hb dX9_array_222 (by decide) ?_
                            refine lv_icmp_ne (tgt := 230) hx hb dX9_array_223 (by decide) (fun c_16 => ?_) (fun c_16 => ?_)
                            · replace hf := x_in c_16 hf
                              refine lv_iconst (v := 0) hx hb dX9_array_230 (by decide) ?_
                              obtain rfl := Option.some.inj hf
                              have hP9 := hP.sub (ws' := [(o9, .inr (9, x_O9 v9_0 v9_1 v9_2 v9_3 a9_4 a9_5 a9_6 a9_7 a9_8 a9_9 a9_10 a9_11 a9_12 v9_13 v9_14 v9_15 v9_16 v9_17 v9_18 a9_19 v9_20 v9_21 v9_22 a9_23 a9_24 a9_25 a9_26 a9_27 a9_28 a9_29 a9_30 a9_31 a9_32 a9_33 a9_34 (v9_35 - (1 : Int32)) v9_36 a9_37 a9_38 a9_39 a9_40 a9_41 v9_42 a9_43 a9_44 a9_45 a9_46 a9_47 v9_48 v9_49 v9_50 v9_51 a9_52 a9_53 v9_54 v9_55 a9_56 a9_57 v9_58 a9_59 a9_60 a9_61)), (a9_34, .inl (cyI, 202, .inl g9_34))]) [0, 1] rfl
                              have hD9 := hD.sub (ws' := [(o9, .inr (9, x_O9 v9_0 v9_1 v9_2 v9_3 a9_4 a9_5 a9_6 a9_7 a9_8 a9_9 a9_10 a9_11 a9_12 v9_13 v9_14 v9_15 v9_16 v9_17 v9_18 a9_19 v9_20 v9_21 v9_22 a9_23 a9_24 a9_25 a9_26 a9_27 a9_28 a9_29 a9_30 a9_31 a9_32 a9_33 a9_34 (v9_35 - (1 : Int32)) v9_36 a9_37 a9_38 a9_39 a9_40 a9_41 v9_42 a9_43 a9_44 a9_45 a9_46 a9_47 v9_48 v9_49 v9_50 v9_51 a9_52 a9_53 v9_54 v9_55 a9_56 a9_57 v9_58 a9_59 a9_60 a9_61)), (a9_34, .inl (cyI, 202, .inl g9_34))]) [0, 1] (by decide) rfl
                              exact W.zret (ty := .boolean) hx hb hr rfl (fun t ht hW => ⟨⟨_, (), rfl, ⟨rfl, rfl⟩, by rw [ht]; exact hP9, va_K.moved hW.alike hK, hD9⟩, hS.F ht⟩) hS.2.2 dX9_array_231
                            · replace hf := x_ip c_16 hf
                              refine lv_iconst (v := 1) hx hb dX9_array_226 (by decide) ?_
                              refine lv_goto (tgt := 231) hx hb dX9_array_227 (by decide) ?_
                              obtain rfl := Option.some.inj hf
                              have hP9 := hP.sub (ws' := [(o9, .inr (9, x_O9 v9_0 v9_1 v9_2 v9_3 a9_4 a9_5 a9_6 a9_7 a9_8 a9_9 a9_10 a9_11 a9_12 v9_13 v9_14 v9_15 v9_16 v9_17 v9_18 a9_19 v9_20 v9_21 v9_22 a9_23 a9_24 a9_25 a9_26 a9_27 a9_28 a9_29 a9_30 a9_31 a9_32 a9_33 a9_34 (v9_35 - (1 : Int32)) v9_36 a9_37 a9_38 a9_39 a9_40 a9_41 v9_42 a9_43 a9_44 a9_45 a9_46 a9_47 v9_48 v9_49 v9_50 v9_51 a9_52 a9_53 v9_54 v9_55 a9_56 a9_57 v9_58 a9_59 a9_60 a9_61)), (a9_34, .inl (cyI, 202, .inl g9_34))]) [0, 1] rfl
                              have hD9 := hD.sub (ws' := [(o9, .inr (9, x_O9 v9_0 v9_1 v9_2 v9_3 a9_4 a9_5 a9_6 a9_7 a9_8 a9_9 a9_10 a9_11 a9_12 v9_13 v9_14 v9_15 v9_16 v9_17 v9_18 a9_19 v9_20 v9_21 v9_22 a9_23 a9_24 a9_25 a9_26 a9_27 a9_28 a9_29 a9_30 a9_31 a9_32 a9_33 a9_34 (v9_35 - (1 : Int32)) v9_36 a9_37 a9_38 a9_39 a9_40 a9_41 v9_42 a9_43 a9_44 a9_45 a9_46 a9_47 v9_48 v9_49 v9_50 v9_51 a9_52 a9_53 v9_54 v9_55 a9_56 a9_57 v9_58 a9_59 a9_60 a9_61)), (a9_34, .inl (cyI, 202, .inl g9_34))]) [0, 1] (by decide) rfl
                              exact W.zret (ty := .boolean) hx hb hr rfl (fun t ht hW => ⟨⟨_, (), rfl, ⟨rfl, rfl⟩, by rw [ht]; exact hP9, va_K.moved hW.alike hK, hD9⟩, hS.F ht⟩) hS.2.2 dX9_array_231
                        · replace hf := x_ip c_14 hf
                          refine lv_iload hx hb dX9_array_200 (lv_at hl 0 rfl) ?_
                          refine lv_iconst (v := 1) hx hb dX9_array_202 (by decide) ?_
                          refine lv_icmp_ne (tgt := 210) hx hb dX9_array_203 (by decide) (fun c_17 => ?_) (fun c_17 => ?_)
                          · replace hf := x_in c_17 hf
                            refine lv_iconst (v := 0) hx hb dX9_array_210 (by decide) ?_
                            refine lv_goto (tgt := 231) hx hb dX9_array_211 (by decide) ?_
                            obtain rfl := Option.some.inj hf
                            have hP9 := hP.sub (ws' := [(o9, .inr (9, x_O9 v9_0 v9_1 v9_2 v9_3 a9_4 a9_5 a9_6 a9_7 a9_8 a9_9 a9_10 a9_11 a9_12 v9_13 v9_14 v9_15 v9_16 v9_17 v9_18 a9_19 v9_20 v9_21 v9_22 a9_23 a9_24 a9_25 a9_26 a9_27 a9_28 a9_29 a9_30 a9_31 a9_32 a9_33 a9_34 (v9_35 - (1 : Int32)) v9_36 a9_37 a9_38 a9_39 a9_40 a9_41 v9_42 a9_43 a9_44 a9_45 a9_46 a9_47 v9_48 v9_49 v9_50 v9_51 a9_52 a9_53 v9_54 v9_55 a9_56 a9_57 v9_58 a9_59 a9_60 a9_61)), (a9_34, .inl (cyI, 202, .inl g9_34))]) [0, 1] rfl
                            have hD9 := hD.sub (ws' := [(o9, .inr (9, x_O9 v9_0 v9_1 v9_2 v9_3 a9_4 a9_5 a9_6 a9_7 a9_8 a9_9 a9_10 a9_11 a9_12 v9_13 v9_14 v9_15 v9_16 v9_17 v9_18 a9_19 v9_20 v9_21 v9_22 a9_23 a9_24 a9_25 a9_26 a9_27 a9_28 a9_29 a9_30 a9_31 a9_32 a9_33 a9_34 (v9_35 - (1 : Int32)) v9_36 a9_37 a9_38 a9_39 a9_40 a9_41 v9_42 a9_43 a9_44 a9_45 a9_46 a9_47 v9_48 v9_49 v9_50 v9_51 a9_52 a9_53 v9_54 v9_55 a9_56 a9_57 v9_58 a9_59 a9_60 a9_61)), (a9_34, .inl (cyI, 202, .inl g9_34))]) [0, 1] (by decide) rfl
                            exact W.zret (ty := .boolean) hx hb hr rfl (fun t ht hW => ⟨⟨_, (), rfl, ⟨rfl, rfl⟩, by rw [ht]; exact hP9, va_K.moved hW.alike hK, hD9⟩, hS.F ht⟩) hS.2.2 dX9_array_231
                          · replace hf := x_ip c_17 hf
                            refine lv_iconst (v := 1) hx hb dX9_array_206 (by decide) ?_
                            refine lv_goto (tgt := 231) hx hb dX9_array_207 (by decide) ?_
                            obtain rfl := Option.some.inj hf
                            have hP9 := hP.sub (ws' := [(o9, .inr (9, x_O9 v9_0 v9_1 v9_2 v9_3 a9_4 a9_5 a9_6 a9_7 a9_8 a9_9 a9_10 a9_11 a9_12 v9_13 v9_14 v9_15 v9_16 v9_17 v9_18 a9_19 v9_20 v9_21 v9_22 a9_23 a9_24 a9_25 a9_26 a9_27 a9_28 a9_29 a9_30 a9_31 a9_32 a9_33 a9_34 (v9_35 - (1 : Int32)) v9_36 a9_37 a9_38 a9_39 a9_40 a9_41 v9_42 a9_43 a9_44 a9_45 a9_46 a9_47 v9_48 v9_49 v9_50 v9_51 a9_52 a9_53 v9_54 v9_55 a9_56 a9_57 v9_58 a9_59 a9_60 a9_61)), (a9_34, .inl (cyI, 202, .inl g9_34))]) [0, 1] rfl
                            have hD9 := hD.sub (ws' := [(o9, .inr (9, x_O9 v9_0 v9_1 v9_2 v9_3 a9_4 a9_5 a9_6 a9_7 a9_8 a9_9 a9_10 a9_11 a9_12 v9_13 v9_14 v9_15 v9_16 v9_17 v9_18 a9_19 v9_20 v9_21 v9_22 a9_23 a9_24 a9_25 a9_26 a9_27 a9_28 a9_29 a9_30 a9_31 a9_32 a9_33 a9_34 (v9_35 - (1 : Int32)) v9_36 a9_37 a9_38 a9_39 a9_40 a9_41 v9_42 a9_43 a9_44 a9_45 a9_46 a9_47 v9_48 v9_49 v9_50 v9_51 a9_52 a9_53 v9_54 v9_55 a9_56 a9_57 v9_58 a9_59 a9_60 a9_61)), (a9_34, .inl (cyI, 202, .inl g9_34))]) [0, 1] (by decide) rfl
                            exact W.zret (ty := .boolean) hx hb hr rfl (fun t ht hW => ⟨⟨_, (), rfl, ⟨rfl, rfl⟩, by rw [ht]; exact hP9, va_K.moved hW.alike hK, hD9⟩, hS.F ht⟩) hS.2.2 dX9_array_231
                      · replace hf := x_ip c_13 hf
                        refine lv_iload hx hb dX9_array_175 (lv_at hl 0 rfl) ?_
                        refine lv_if_eq (tgt := 186) hx hb dX9_array_177 (by decide) (fun c_18 => ?_) (fun c_18 => ?_)
                        · replace hf := x_ip c_18 hf
                          refine lv_iconst (v := 1) hx hb dX9_array_186 (by decide) ?_
                          refine lv_goto (tgt := 231) hx hb dX9_array_187 (by decide) ?_
                          obtain rfl := Option.some.inj hf
                          have hP9 := hP.sub (ws' := [(o9, .inr (9, x_O9 v9_0 v9_1 v9_2 v9_3 a9_4 a9_5 a9_6 a9_7 a9_8 a9_9 a9_10 a9_11 a9_12 v9_13 v9_14 v9_15 v9_16 v9_17 v9_18 a9_19 v9_20 v9_21 v9_22 a9_23 a9_24 a9_25 a9_26 a9_27 a9_28 a9_29 a9_30 a9_31 a9_32 a9_33 a9_34 (v9_35 - (1 : Int32)) v9_36 a9_37 a9_38 a9_39 a9_40 a9_41 v9_42 a9_43 a9_44 a9_45 a9_46 a9_47 v9_48 v9_49 v9_50 v9_51 a9_52 a9_53 v9_54 v9_55 a9_56 a9_57 v9_58 a9_59 a9_60 a9_61)), (a9_34, .inl (cyI, 202, .inl g9_34))]) [0, 1] rfl
                          have hD9 := hD.sub (ws' := [(o9, .inr (9, x_O9 v9_0 v9_1 v9_2 v9_3 a9_4 a9_5 a9_6 a9_7 a9_8 a9_9 a9_10 a9_11 a9_12 v9_13 v9_14 v9_15 v9_16 v9_17 v9_18 a9_19 v9_20 v9_21 v9_22 a9_23 a9_24 a9_25 a9_26 a9_27 a9_28 a9_29 a9_30 a9_31 a9_32 a9_33 a9_34 (v9_35 - (1 : Int32)) v9_36 a9_37 a9_38 a9_39 a9_40 a9_41 v9_42 a9_43 a9_44 a9_45 a9_46 a9_47 v9_48 v9_49 v9_50 v9_51 a9_52 a9_53 v9_54 v9_55 a9_56 a9_57 v9_58 a9_59 a9_60 a9_61)), (a9_34, .inl (cyI, 202, .inl g9_34))]) [0, 1] (by decide) rfl
                          exact W.zret (ty := .boolean) hx hb hr rfl (fun t ht hW => ⟨⟨_, (), rfl, ⟨rfl, rfl⟩, by rw [ht]; exact hP9, va_K.moved hW.alike hK, hD9⟩, hS.F ht⟩) hS.2.2 dX9_array_231
                        · replace hf := x_in c_18 hf
                          refine lv_iload hx hb dX9_array_180 (lv_at hl 0 rfl) ?_
                          refine lv_iconst (v := 4) hx hb dX9_array_182 (by decide) ?_
                          refine lv_icmp_ne (tgt := 190) hx hb dX9_array_183 (by decide) (fun c_19 => ?_) (fun c_19 => ?_)
                          · replace hf := x_in c_19 hf
                            refine lv_iconst (v := 0) hx hb dX9_array_190 (by decide) ?_
                            refine lv_goto (tgt := 231) hx hb dX9_array_191 (by decide) ?_
                            obtain rfl := Option.some.inj hf
                            have hP9 := hP.sub (ws' := [(o9, .inr (9, x_O9 v9_0 v9_1 v9_2 v9_3 a9_4 a9_5 a9_6 a9_7 a9_8 a9_9 a9_10 a9_11 a9_12 v9_13 v9_14 v9_15 v9_16 v9_17 v9_18 a9_19 v9_20 v9_21 v9_22 a9_23 a9_24 a9_25 a9_26 a9_27 a9_28 a9_29 a9_30 a9_31 a9_32 a9_33 a9_34 (v9_35 - (1 : Int32)) v9_36 a9_37 a9_38 a9_39 a9_40 a9_41 v9_42 a9_43 a9_44 a9_45 a9_46 a9_47 v9_48 v9_49 v9_50 v9_51 a9_52 a9_53 v9_54 v9_55 a9_56 a9_57 v9_58 a9_59 a9_60 a9_61)), (a9_34, .inl (cyI, 202, .inl g9_34))]) [0, 1] rfl
                            have hD9 := hD.sub (ws' := [(o9, .inr (9, x_O9 v9_0 v9_1 v9_2 v9_3 a9_4 a9_5 a9_6 a9_7 a9_8 a9_9 a9_10 a9_11 a9_12 v9_13 v9_14 v9_15 v9_16 v9_17 v9_18 a9_19 v9_20 v9_21 v9_22 a9_23 a9_24 a9_25 a9_26 a9_27 a9_28 a9_29 a9_30 a9_31 a9_32 a9_33 a9_34 (v9_35 - (1 : Int32)) v9_36 a9_37 a9_38 a9_39 a9_40 a9_41 v9_42 a9_43 a9_44 a9_45 a9_46 a9_47 v9_48 v9_49 v9_50 v9_51 a9_52 a9_53 v9_54 v9_55 a9_56 a9_57 v9_58 a9_59 a9_60 a9_61)), (a9_34, .inl (cyI, 202, .inl g9_34))]) [0, 1] (by decide) rfl
                            exact W.zret (ty := .boolean) hx hb hr rfl (fun t ht hW => ⟨⟨_, (), rfl, ⟨rfl, rfl⟩, by rw [ht]; exact hP9, va_K.moved hW.alike hK, hD9⟩, hS.F ht⟩) hS.2.2 dX9_array_231
                          · replace hf := x_ip c_19 hf
                            refine lv_iconst (v := 1) hx hb dX9_array_186 (by decide) ?_
                            refine lv_goto (tgt := 231) hx hb dX9_array_187 (by decide) ?_
                            obtain rfl := Option.some.inj hf
                            have hP9 := hP.sub (ws' := [(o9, .inr (9, x_O9 v9_0 v9_1 v9_2 v9_3 a9_4 a9_5 a9_6 a9_7 a9_8 a9_9 a9_10 a9_11 a9_12 v9_13 v9_14 v9_15 v9_16 v9_17 v9_18 a9_19 v9_20 v9_21 v9_22 a9_23 a9_24 a9_25 a9_26 a9_27 a9_28 a9_29 a9_30 a9_31 a9_32 a9_33 a9_34 (v9_35 - (1 : Int32)) v9_36 a9_37 a9_38 a9_39 a9_40 a9_41 v9_42 a9_43 a9_44 a9_45 a9_46 a9_47 v9_48 v9_49 v9_50 v9_51 a9_52 a9_53 v9_54 v9_55 a9_56 a9_57 v9_58 a9_59 a9_60 a9_61)), (a9_34, .inl (cyI, 202, .inl g9_34))]) [0, 1] rfl
                            have hD9 := hD.sub (ws' := [(o9, .inr (9, x_O9 v9_0 v9_1 v9_2 v9_3 a9_4 a9_5 a9_6 a9_7 a9_8 a9_9 a9_10 a9_11 a9_12 v9_13 v9_14 v9_15 v9_16 v9_17 v9_18 a9_19 v9_20 v9_21 v9_22 a9_23 a9_24 a9_25 a9_26 a9_27 a9_28 a9_29 a9_30 a9_31 a9_32 a9_33 a9_34 (v9_35 - (1 : Int32)) v9_36 a9_37 a9_38 a9_39 a9_40 a9_41 v9_42 a9_43 a9_44 a9_45 a9_46 a9_47 v9_48 v9_49 v9_50 v9_51 a9_52 a9_53 v9_54 v9_55 a9_56 a9_57 v9_58 a9_59 a9_60 a9_61)), (a9_34, .inl (cyI, 202, .inl g9_34))]) [0, 1] (by decide) rfl
                            exact W.zret (ty := .boolean) hx hb hr rfl (fun t ht hW => ⟨⟨_, (), rfl, ⟨rfl, rfl⟩, by rw [ht]; exact hP9, va_K.moved hW.alike hK, hD9⟩, hS.F ht⟩) hS.2.2 dX9_array_231
                    · replace hf := x_ip c_12 hf
                      refine lv_iload hx hb dX9_array_156 (lv_at hl 0 rfl) ?_
                      refine lv_iconst (v := 3) hx hb dX9_array_158 (by decide) ?_
                      refine lv_icmp_ne (tgt := 166) hx hb dX9_array_159 (by decide) (fun c_20 => ?_) (fun c_20 => ?_)
                      · replace hf := x_in c_20 hf
                        refine lv_iconst (v := 0) hx hb dX9_array_166 (by decide) ?_
                        refine lv_goto (tgt := 231) hx hb dX9_array_167 (by decide) ?_
                        obtain rfl := Option.some.inj hf
                        have hP9 := hP.sub (ws' := [(o9, .inr (9, x_O9 v9_0 v9_1 v9_2 v9_3 a9_4 a9_5 a9_6 a9_7 a9_8 a9_9 a9_10 a9_11 a9_12 v9_13 v9_14 v9_15 v9_16 v9_17 v9_18 a9_19 v9_20 v9_21 v9_22 a9_23 a9_24 a9_25 a9_26 a9_27 a9_28 a9_29 a9_30 a9_31 a9_32 a9_33 a9_34 (v9_35 - (1 : Int32)) v9_36 a9_37 a9_38 a9_39 a9_40 a9_41 v9_42 a9_43 a9_44 a9_45 a9_46 a9_47 v9_48 v9_49 v9_50 v9_51 a9_52 a9_53 v9_54 v9_55 a9_56 a9_57 v9_58 a9_59 a9_60 a9_61)), (a9_34, .inl (cyI, 202, .inl g9_34))]) [0, 1] rfl
                        have hD9 := hD.sub (ws' := [(o9, .inr (9, x_O9 v9_0 v9_1 v9_2 v9_3 a9_4 a9_5 a9_6 a9_7 a9_8 a9_9 a9_10 a9_11 a9_12 v9_13 v9_14 v9_15 v9_16 v9_17 v9_18 a9_19 v9_20 v9_21 v9_22 a9_23 a9_24 a9_25 a9_26 a9_27 a9_28 a9_29 a9_30 a9_31 a9_32 a9_33 a9_34 (v9_35 - (1 : Int32)) v9_36 a9_37 a9_38 a9_39 a9_40 a9_41 v9_42 a9_43 a9_44 a9_45 a9_46 a9_47 v9_48 v9_49 v9_50 v9_51 a9_52 a9_53 v9_54 v9_55 a9_56 a9_57 v9_58 a9_59 a9_60 a9_61)), (a9_34, .inl (cyI, 202, .inl g9_34))]) [0, 1] (by decide) rfl
                        exact W.zret (ty := .boolean) hx hb hr rfl (fun t ht hW => ⟨⟨_, (), rfl, ⟨rfl, rfl⟩, by rw [ht]; exact hP9, va_K.moved hW.alike hK, hD9⟩, hS.F ht⟩) hS.2.2 dX9_array_231
                      · replace hf := x_ip c_20 hf
                        refine lv_iconst (v := 1) hx hb dX9_array_162 (by decide) ?_
                        refine lv_goto (tgt := 231) hx hb dX9_array_163 (by decide) ?_
                        obtain rfl := Option.some.inj hf
                        have hP9 := hP.sub (ws' := [(o9, .inr (9, x_O9 v9_0 v9_1 v9_2 v9_3 a9_4 a9_5 a9_6 a9_7 a9_8 a9_9 a9_10 a9_11 a9_12 v9_13 v9_14 v9_15 v9_16 v9_17 v9_18 a9_19 v9_20 v9_21 v9_22 a9_23 a9_24 a9_25 a9_26 a9_27 a9_28 a9_29 a9_30 a9_31 a9_32 a9_33 a9_34 (v9_35 - (1 : Int32)) v9_36 a9_37 a9_38 a9_39 a9_40 a9_41 v9_42 a9_43 a9_44 a9_45 a9_46 a9_47 v9_48 v9_49 v9_50 v9_51 a9_52 a9_53 v9_54 v9_55 a9_56 a9_57 v9_58 a9_59 a9_60 a9_61)), (a9_34, .inl (cyI, 202, .inl g9_34))]) [0, 1] rfl
                        have hD9 := hD.sub (ws' := [(o9, .inr (9, x_O9 v9_0 v9_1 v9_2 v9_3 a9_4 a9_5 a9_6 a9_7 a9_8 a9_9 a9_10 a9_11 a9_12 v9_13 v9_14 v9_15 v9_16 v9_17 v9_18 a9_19 v9_20 v9_21 v9_22 a9_23 a9_24 a9_25 a9_26 a9_27 a9_28 a9_29 a9_30 a9_31 a9_32 a9_33 a9_34 (v9_35 - (1 : Int32)) v9_36 a9_37 a9_38 a9_39 a9_40 a9_41 v9_42 a9_43 a9_44 a9_45 a9_46 a9_47 v9_48 v9_49 v9_50 v9_51 a9_52 a9_53 v9_54 v9_55 a9_56 a9_57 v9_58 a9_59 a9_60 a9_61)), (a9_34, .inl (cyI, 202, .inl g9_34))]) [0, 1] (by decide) rfl
                        exact W.zret (ty := .boolean) hx hb hr rfl (fun t ht hW => ⟨⟨_, (), rfl, ⟨rfl, rfl⟩, by rw [ht]; exact hP9, va_K.moved hW.alike hK, hD9⟩, hS.F ht⟩) hS.2.2 dX9_array_231
                  · replace hf := x_ip c_11 hf
                    refine lv_iload hx hb dX9_array_137 (lv_at hl 0 rfl) ?_
                    refine lv_iconst (v := 2) hx hb dX9_array_139 (by decide) ?_
                    refine lv_icmp_ne (tgt := 147) hx hb dX9_array_140 (by decide) (fun c_21 => ?_) (fun c_21 => ?_)
                    · replace hf := x_in c_21 hf
                      refine lv_iconst (v := 0) hx hb dX9_array_147 (by decide) ?_
                      refine lv_goto (tgt := 231) hx hb dX9_array_148 (by decide) ?_
                      obtain rfl := Option.some.inj hf
                      have hP9 := hP.sub (ws' := [(o9, .inr (9, x_O9 v9_0 v9_1 v9_2 v9_3 a9_4 a9_5 a9_6 a9_7 a9_8 a9_9 a9_10 a9_11 a9_12 v9_13 v9_14 v9_15 v9_16 v9_17 v9_18 a9_19 v9_20 v9_21 v9_22 a9_23 a9_24 a9_25 a9_26 a9_27 a9_28 a9_29 a9_30 a9_31 a9_32 a9_33 a9_34 (v9_35 - (1 : Int32)) v9_36 a9_37 a9_38 a9_39 a9_40 a9_41 v9_42 a9_43 a9_44 a9_45 a9_46 a9_47 v9_48 v9_49 v9_50 v9_51 a9_52 a9_53 v9_54 v9_55 a9_56 a9_57 v9_58 a9_59 a9_60 a9_61)), (a9_34, .inl (cyI, 202, .inl g9_34))]) [0, 1] rfl
                      have hD9 := hD.sub (ws' := [(o9, .inr (9, x_O9 v9_0 v9_1 v9_2 v9_3 a9_4 a9_5 a9_6 a9_7 a9_8 a9_9 a9_10 a9_11 a9_12 v9_13 v9_14 v9_15 v9_16 v9_17 v9_18 a9_19 v9_20 v9_21 v9_22 a9_23 a9_24 a9_25 a9_26 a9_27 a9_28 a9_29 a9_30 a9_31 a9_32 a9_33 a9_34 (v9_35 - (1 : Int32)) v9_36 a9_37 a9_38 a9_39 a9_40 a9_41 v9_42 a9_43 a9_44 a9_45 a9_46 a9_47 v9_48 v9_49 v9_50 v9_51 a9_52 a9_53 v9_54 v9_55 a9_56 a9_57 v9_58 a9_59 a9_60 a9_61)), (a9_34, .inl (cyI, 202, .inl g9_34))]) [0, 1] (by decide) rfl
                      exact W.zret (ty := .boolean) hx hb hr rfl (fun t ht hW => ⟨⟨_, (), rfl, ⟨rfl, rfl⟩, by rw [ht]; exact hP9, va_K.moved hW.alike hK, hD9⟩, hS.F ht⟩) hS.2.2 dX9_array_231
                    · replace hf := x_ip c_21 hf
                      refine lv_iconst (v := 1) hx hb dX9_array_143 (by decide) ?_
                      refine lv_goto (tgt := 231) hx hb dX9_array_144 (by decide) ?_
                      obtain rfl := Option.some.inj hf
                      have hP9 := hP.sub (ws' := [(o9, .inr (9, x_O9 v9_0 v9_1 v9_2 v9_3 a9_4 a9_5 a9_6 a9_7 a9_8 a9_9 a9_10 a9_11 a9_12 v9_13 v9_14 v9_15 v9_16 v9_17 v9_18 a9_19 v9_20 v9_21 v9_22 a9_23 a9_24 a9_25 a9_26 a9_27 a9_28 a9_29 a9_30 a9_31 a9_32 a9_33 a9_34 (v9_35 - (1 : Int32)) v9_36 a9_37 a9_38 a9_39 a9_40 a9_41 v9_42 a9_43 a9_44 a9_45 a9_46 a9_47 v9_48 v9_49 v9_50 v9_51 a9_52 a9_53 v9_54 v9_55 a9_56 a9_57 v9_58 a9_59 a9_60 a9_61)), (a9_34, .inl (cyI, 202, .inl g9_34))]) [0, 1] rfl
                      have hD9 := hD.sub (ws' := [(o9, .inr (9, x_O9 v9_0 v9_1 v9_2 v9_3 a9_4 a9_5 a9_6 a9_7 a9_8 a9_9 a9_10 a9_11 a9_12 v9_13 v9_14 v9_15 v9_16 v9_17 v9_18 a9_19 v9_20 v9_21 v9_22 a9_23 a9_24 a9_25 a9_26 a9_27 a9_28 a9_29 a9_30 a9_31 a9_32 a9_33 a9_34 (v9_35 - (1 : Int32)) v9_36 a9_37 a9_38 a9_39 a9_40 a9_41 v9_42 a9_43 a9_44 a9_45 a9_46 a9_47 v9_48 v9_49 v9_50 v9_51 a9_52 a9_53 v9_54 v9_55 a9_56 a9_57 v9_58 a9_59 a9_60 a9_61)), (a9_34, .inl (cyI, 202, .inl g9_34))]) [0, 1] (by decide) rfl
                      exact W.zret (ty := .boolean) hx hb hr rfl (fun t ht hW => ⟨⟨_, (), rfl, ⟨rfl, rfl⟩, by rw [ht]; exact hP9, va_K.moved hW.alike hK, hD9⟩, hS.F ht⟩) hS.2.2 dX9_array_231
                · replace hf := x_ip c_10 hf
                  refine lv_iload hx hb dX9_array_117 (lv_at hl 0 rfl) ?_
                  refine lv_bipush (v := 7) hx hb dX9_array_119 (by decide) ?_
                  refine lv_icmp_ne (tgt := 128) hx hb dX9_array_121 (by decide) (fun c_22 => ?_) (fun c_22 => ?_)
                  · replace hf := x_in c_22 hf
                    refine lv_iconst (v := 0) hx hb dX9_array_128 (by decide) ?_
                    refine lv_goto (tgt := 231) hx hb dX9_array_129 (by decide) ?_
                    obtain rfl := Option.some.inj hf
                    have hP9 := hP.sub (ws' := [(o9, .inr (9, x_O9 v9_0 v9_1 v9_2 v9_3 a9_4 a9_5 a9_6 a9_7 a9_8 a9_9 a9_10 a9_11 a9_12 v9_13 v9_14 v9_15 v9_16 v9_17 v9_18 a9_19 v9_20 v9_21 v9_22 a9_23 a9_24 a9_25 a9_26 a9_27 a9_28 a9_29 a9_30 a9_31 a9_32 a9_33 a9_34 (v9_35 - (1 : Int32)) v9_36 a9_37 a9_38 a9_39 a9_40 a9_41 v9_42 a9_43 a9_44 a9_45 a9_46 a9_47 v9_48 v9_49 v9_50 v9_51 a9_52 a9_53 v9_54 v9_55 a9_56 a9_57 v9_58 a9_59 a9_60 a9_61)), (a9_34, .inl (cyI, 202, .inl g9_34))]) [0, 1] rfl
                    have hD9 := hD.sub (ws' := [(o9, .inr (9, x_O9 v9_0 v9_1 v9_2 v9_3 a9_4 a9_5 a9_6 a9_7 a9_8 a9_9 a9_10 a9_11 a9_12 v9_13 v9_14 v9_15 v9_16 v9_17 v9_18 a9_19 v9_20 v9_21 v9_22 a9_23 a9_24 a9_25 a9_26 a9_27 a9_28 a9_29 a9_30 a9_31 a9_32 a9_33 a9_34 (v9_35 - (1 : Int32)) v9_36 a9_37 a9_38 a9_39 a9_40 a9_41 v9_42 a9_43 a9_44 a9_45 a9_46 a9_47 v9_48 v9_49 v9_50 v9_51 a9_52 a9_53 v9_54 v9_55 a9_56 a9_57 v9_58 a9_59 a9_60 a9_61)), (a9_34, .inl (cyI, 202, .inl g9_34))]) [0, 1] (by decide) rfl
                    exact W.zret (ty := .boolean) hx hb hr rfl (fun t ht hW => ⟨⟨_, (), rfl, ⟨rfl, rfl⟩, by rw [ht]; exact hP9, va_K.moved hW.alike hK, hD9⟩, hS.F ht⟩) hS.2.2 dX9_array_231
                  · replace hf := x_ip c_22 hf
                    refine lv_iconst (v := 1) hx hb dX9_array_124 (by decide) ?_
                    refine lv_goto (tgt := 231) hx hb dX9_array_125 (by decide) ?_
                    obtain rfl := Option.some.inj hf
                    have hP9 := hP.sub (ws' := [(o9, .inr (9, x_O9 v9_0 v9_1 v9_2 v9_3 a9_4 a9_5 a9_6 a9_7 a9_8 a9_9 a9_10 a9_11 a9_12 v9_13 v9_14 v9_15 v9_16 v9_17 v9_18 a9_19 v9_20 v9_21 v9_22 a9_23 a9_24 a9_25 a9_26 a9_27 a9_28 a9_29 a9_30 a9_31 a9_32 a9_33 a9_34 (v9_35 - (1 : Int32)) v9_36 a9_37 a9_38 a9_39 a9_40 a9_41 v9_42 a9_43 a9_44 a9_45 a9_46 a9_47 v9_48 v9_49 v9_50 v9_51 a9_52 a9_53 v9_54 v9_55 a9_56 a9_57 v9_58 a9_59 a9_60 a9_61)), (a9_34, .inl (cyI, 202, .inl g9_34))]) [0, 1] rfl
                    have hD9 := hD.sub (ws' := [(o9, .inr (9, x_O9 v9_0 v9_1 v9_2 v9_3 a9_4 a9_5 a9_6 a9_7 a9_8 a9_9 a9_10 a9_11 a9_12 v9_13 v9_14 v9_15 v9_16 v9_17 v9_18 a9_19 v9_20 v9_21 v9_22 a9_23 a9_24 a9_25 a9_26 a9_27 a9_28 a9_29 a9_30 a9_31 a9_32 a9_33 a9_34 (v9_35 - (1 : Int32)) v9_36 a9_37 a9_38 a9_39 a9_40 a9_41 v9_42 a9_43 a9_44 a9_45 a9_46 a9_47 v9_48 v9_49 v9_50 v9_51 a9_52 a9_53 v9_54 v9_55 a9_56 a9_57 v9_58 a9_59 a9_60 a9_61)), (a9_34, .inl (cyI, 202, .inl g9_34))]) [0, 1] (by decide) rfl
                    exact W.zret (ty := .boolean) hx hb hr rfl (fun t ht hW => ⟨⟨_, (), rfl, ⟨rfl, rfl⟩, by rw [ht]; exact hP9, va_K.moved hW.alike hK, hD9⟩, hS.F ht⟩) hS.2.2 dX9_array_231
              · replace hf := x_ip c_9 hf
                refine lv_iload hx hb dX9_array_97 (lv_at hl 0 rfl) ?_
                refine lv_bipush (v := 6) hx hb dX9_array_99 (by decide) ?_
                refine lv_icmp_ne (tgt := 108) hx hb dX9_array_101 (by decide) (fun c_23 => ?_) (fun c_23 => ?_)
                · replace hf := x_in c_23 hf
                  refine lv_iconst (v := 0) hx hb dX9_array_108 (by decide) ?_
                  refine lv_goto (tgt := 231) hx hb dX9_array_109 (by decide) ?_
                  obtain rfl := Option.some.inj hf
                  have hP9 := hP.sub (ws' := [(o9, .inr (9, x_O9 v9_0 v9_1 v9_2 v9_3 a9_4 a9_5 a9_6 a9_7 a9_8 a9_9 a9_10 a9_11 a9_12 v9_13 v9_14 v9_15 v9_16 v9_17 v9_18 a9_19 v9_20 v9_21 v9_22 a9_23 a9_24 a9_25 a9_26 a9_27 a9_28 a9_29 a9_30 a9_31 a9_32 a9_33 a9_34 (v9_35 - (1 : Int32)) v9_36 a9_37 a9_38 a9_39 a9_40 a9_41 v9_42 a9_43 a9_44 a9_45 a9_46 a9_47 v9_48 v9_49 v9_50 v9_51 a9_52 a9_53 v9_54 v9_55 a9_56 a9_57 v9_58 a9_59 a9_60 a9_61)), (a9_34, .inl (cyI, 202, .inl g9_34))]) [0, 1] rfl
                  have hD9 := hD.sub (ws' := [(o9, .inr (9, x_O9 v9_0 v9_1 v9_2 v9_3 a9_4 a9_5 a9_6 a9_7 a9_8 a9_9 a9_10 a9_11 a9_12 v9_13 v9_14 v9_15 v9_16 v9_17 v9_18 a9_19 v9_20 v9_21 v9_22 a9_23 a9_24 a9_25 a9_26 a9_27 a9_28 a9_29 a9_30 a9_31 a9_32 a9_33 a9_34 (v9_35 - (1 : Int32)) v9_36 a9_37 a9_38 a9_39 a9_40 a9_41 v9_42 a9_43 a9_44 a9_45 a9_46 a9_47 v9_48 v9_49 v9_50 v9_51 a9_52 a9_53 v9_54 v9_55 a9_56 a9_57 v9_58 a9_59 a9_60 a9_61)), (a9_34, .inl (cyI, 202, .inl g9_34))]) [0, 1] (by decide) rfl
                  exact W.zret (ty := .boolean) hx hb hr rfl (fun t ht hW => ⟨⟨_, (), rfl, ⟨rfl, rfl⟩, by rw [ht]; exact hP9, va_K.moved hW.alike hK, hD9⟩, hS.F ht⟩) hS.2.2 dX9_array_231
                · replace hf := x_ip c_23 hf
                  refine lv_iconst (v := 1) hx hb dX9_array_104 (by decide) ?_
                  refine lv_goto (tgt := 231) hx hb dX9_array_105 (by decide) ?_
                  obtain rfl := Option.some.inj hf
                  have hP9 := hP.sub (ws' := [(o9, .inr (9, x_O9 v9_0 v9_1 v9_2 v9_3 a9_4 a9_5 a9_6 a9_7 a9_8 a9_9 a9_10 a9_11 a9_12 v9_13 v9_14 v9_15 v9_16 v9_17 v9_18 a9_19 v9_20 v9_21 v9_22 a9_23 a9_24 a9_25 a9_26 a9_27 a9_28 a9_29 a9_30 a9_31 a9_32 a9_33 a9_34 (v9_35 - (1 : Int32)) v9_36 a9_37 a9_38 a9_39 a9_40 a9_41 v9_42 a9_43 a9_44 a9_45 a9_46 a9_47 v9_48 v9_49 v9_50 v9_51 a9_52 a9_53 v9_54 v9_55 a9_56 a9_57 v9_58 a9_59 a9_60 a9_61)), (a9_34, .inl (cyI, 202, .inl g9_34))]) [0, 1] rfl
                  have hD9 := hD.sub (ws' := [(o9, .inr (9, x_O9 v9_0 v9_1 v9_2 v9_3 a9_4 a9_5 a9_6 a9_7 a9_8 a9_9 a9_10 a9_11 a9_12 v9_13 v9_14 v9_15 v9_16 v9_17 v9_18 a9_19 v9_20 v9_21 v9_22 a9_23 a9_24 a9_25 a9_26 a9_27 a9_28 a9_29 a9_30 a9_31 a9_32 a9_33 a9_34 (v9_35 - (1 : Int32)) v9_36 a9_37 a9_38 a9_39 a9_40 a9_41 v9_42 a9_43 a9_44 a9_45 a9_46 a9_47 v9_48 v9_49 v9_50 v9_51 a9_52 a9_53 v9_54 v9_55 a9_56 a9_57 v9_58 a9_59 a9_60 a9_61)), (a9_34, .inl (cyI, 202, .inl g9_34))]) [0, 1] (by decide) rfl
                  exact W.zret (ty := .boolean) hx hb hr rfl (fun t ht hW => ⟨⟨_, (), rfl, ⟨rfl, rfl⟩, by rw [ht]; exact hP9, va_K.moved hW.alike hK, hD9⟩, hS.F ht⟩) hS.2.2 dX9_array_231
            · replace hf := x_in c_8 hf
              refine lv_iload_n hx hb dX9_array_75 rfl (lv_at hl 4 rfl) ?_
              refine lv_iconst (v := 4) hx hb dX9_array_76 (by decide) ?_
              refine lv_icmp_ne (tgt := 84) hx hb dX9_array_77 (by decide) (fun c_24 => ?_) (fun c_24 => ?_)
              · replace hf := x_in c_24 hf
                refine lv_iconst (v := 0) hx hb dX9_array_84 (by decide) ?_
                obtain rfl := Option.some.inj hf
                have hP9 := hP.sub (ws' := [(o9, .inr (9, x_O9 v9_0 v9_1 v9_2 v9_3 a9_4 a9_5 a9_6 a9_7 a9_8 a9_9 a9_10 a9_11 a9_12 v9_13 v9_14 v9_15 v9_16 v9_17 v9_18 a9_19 v9_20 v9_21 v9_22 a9_23 a9_24 a9_25 a9_26 a9_27 a9_28 a9_29 a9_30 a9_31 a9_32 a9_33 a9_34 (v9_35 - (1 : Int32)) v9_36 a9_37 a9_38 a9_39 a9_40 a9_41 v9_42 a9_43 a9_44 a9_45 a9_46 a9_47 v9_48 v9_49 v9_50 v9_51 a9_52 a9_53 v9_54 v9_55 a9_56 a9_57 v9_58 a9_59 a9_60 a9_61)), (a9_34, .inl (cyI, 202, .inl g9_34))]) [0, 1] rfl
                have hD9 := hD.sub (ws' := [(o9, .inr (9, x_O9 v9_0 v9_1 v9_2 v9_3 a9_4 a9_5 a9_6 a9_7 a9_8 a9_9 a9_10 a9_11 a9_12 v9_13 v9_14 v9_15 v9_16 v9_17 v9_18 a9_19 v9_20 v9_21 v9_22 a9_23 a9_24 a9_25 a9_26 a9_27 a9_28 a9_29 a9_30 a9_31 a9_32 a9_33 a9_34 (v9_35 - (1 : Int32)) v9_36 a9_37 a9_38 a9_39 a9_40 a9_41 v9_42 a9_43 a9_44 a9_45 a9_46 a9_47 v9_48 v9_49 v9_50 v9_51 a9_52 a9_53 v9_54 v9_55 a9_56 a9_57 v9_58 a9_59 a9_60 a9_61)), (a9_34, .inl (cyI, 202, .inl g9_34))]) [0, 1] (by decide) rfl
                exact W.zret (ty := .boolean) hx hb hr rfl (fun t ht hW => ⟨⟨_, (), rfl, ⟨rfl, rfl⟩, by rw [ht]; exact hP9, va_K.moved hW.alike hK, hD9⟩, hS.F ht⟩) hS.2.2 dX9_array_85
              · replace hf := x_ip c_24 hf
                refine lv_iconst (v := 1) hx hb dX9_array_80 (by decide) ?_
                refine lv_goto (tgt := 85) hx hb dX9_array_81 (by decide) ?_
                obtain rfl := Option.some.inj hf
                have hP9 := hP.sub (ws' := [(o9, .inr (9, x_O9 v9_0 v9_1 v9_2 v9_3 a9_4 a9_5 a9_6 a9_7 a9_8 a9_9 a9_10 a9_11 a9_12 v9_13 v9_14 v9_15 v9_16 v9_17 v9_18 a9_19 v9_20 v9_21 v9_22 a9_23 a9_24 a9_25 a9_26 a9_27 a9_28 a9_29 a9_30 a9_31 a9_32 a9_33 a9_34 (v9_35 - (1 : Int32)) v9_36 a9_37 a9_38 a9_39 a9_40 a9_41 v9_42 a9_43 a9_44 a9_45 a9_46 a9_47 v9_48 v9_49 v9_50 v9_51 a9_52 a9_53 v9_54 v9_55 a9_56 a9_57 v9_58 a9_59 a9_60 a9_61)), (a9_34, .inl (cyI, 202, .inl g9_34))]) [0, 1] rfl
                have hD9 := hD.sub (ws' := [(o9, .inr (9, x_O9 v9_0 v9_1 v9_2 v9_3 a9_4 a9_5 a9_6 a9_7 a9_8 a9_9 a9_10 a9_11 a9_12 v9_13 v9_14 v9_15 v9_16 v9_17 v9_18 a9_19 v9_20 v9_21 v9_22 a9_23 a9_24 a9_25 a9_26 a9_27 a9_28 a9_29 a9_30 a9_31 a9_32 a9_33 a9_34 (v9_35 - (1 : Int32)) v9_36 a9_37 a9_38 a9_39 a9_40 a9_41 v9_42 a9_43 a9_44 a9_45 a9_46 a9_47 v9_48 v9_49 v9_50 v9_51 a9_52 a9_53 v9_54 v9_55 a9_56 a9_57 v9_58 a9_59 a9_60 a9_61)), (a9_34, .inl (cyI, 202, .inl g9_34))]) [0, 1] (by decide) rfl
                exact W.zret (ty := .boolean) hx hb hr rfl (fun t ht hW => ⟨⟨_, (), rfl, ⟨rfl, rfl⟩, by rw [ht]; exact hP9, va_K.moved hW.alike hK, hD9⟩, hS.F ht⟩) hS.2.2 dX9_array_85
        · replace hf := x_ip c_5 hf
          refine lv_iconst (v := 0) hx hb dX9_array_53 (by decide) ?_
          obtain rfl := Option.some.inj hf
          have hP9 := hP.sub (ws' := [(o9, .inr (9, x_O9 v9_0 v9_1 v9_2 v9_3 a9_4 a9_5 a9_6 a9_7 a9_8 a9_9 a9_10 a9_11 a9_12 v9_13 v9_14 v9_15 v9_16 v9_17 v9_18 a9_19 v9_20 v9_21 v9_22 a9_23 a9_24 a9_25 a9_26 a9_27 a9_28 a9_29 a9_30 a9_31 a9_32 a9_33 a9_34 (v9_35 - (1 : Int32)) v9_36 a9_37 a9_38 a9_39 a9_40 a9_41 v9_42 a9_43 a9_44 a9_45 a9_46 a9_47 v9_48 v9_49 v9_50 v9_51 a9_52 a9_53 v9_54 v9_55 a9_56 a9_57 v9_58 a9_59 a9_60 a9_61)), (a9_34, .inl (cyI, 202, .inl g9_34))]) [0, 1] rfl
          have hD9 := hD.sub (ws' := [(o9, .inr (9, x_O9 v9_0 v9_1 v9_2 v9_3 a9_4 a9_5 a9_6 a9_7 a9_8 a9_9 a9_10 a9_11 a9_12 v9_13 v9_14 v9_15 v9_16 v9_17 v9_18 a9_19 v9_20 v9_21 v9_22 a9_23 a9_24 a9_25 a9_26 a9_27 a9_28 a9_29 a9_30 a9_31 a9_32 a9_33 a9_34 (v9_35 - (1 : Int32)) v9_36 a9_37 a9_38 a9_39 a9_40 a9_41 v9_42 a9_43 a9_44 a9_45 a9_46 a9_47 v9_48 v9_49 v9_50 v9_51 a9_52 a9_53 v9_54 v9_55 a9_56 a9_57 v9_58 a9_59 a9_60 a9_61)), (a9_34, .inl (cyI, 202, .inl g9_34))]) [0, 1] (by decide) rfl
          exact W.zret (ty := .boolean) hx hb hr rfl (fun t ht hW => ⟨⟨_, (), rfl, ⟨rfl, rfl⟩, by rw [ht]; exact hP9, va_K.moved hW.alike hK, hD9⟩, hS.F ht⟩) hS.2.2 dX9_array_54
    · replace hf := x_ip c_3 hf
      refine lv_iconst (v := 1) hx hb dX9_array_31 (by decide) ?_
      obtain rfl := Option.some.inj hf
      have hP9 := hP.sub (ws' := [(o9, .inr (9, x_O9 v9_0 v9_1 v9_2 v9_3 a9_4 a9_5 a9_6 a9_7 a9_8 a9_9 a9_10 a9_11 a9_12 v9_13 v9_14 v9_15 v9_16 v9_17 v9_18 a9_19 v9_20 v9_21 v9_22 a9_23 a9_24 a9_25 a9_26 a9_27 a9_28 a9_29 a9_30 a9_31 a9_32 a9_33 a9_34 (v9_35 - (1 : Int32)) v9_36 a9_37 a9_38 a9_39 a9_40 a9_41 v9_42 a9_43 a9_44 a9_45 a9_46 a9_47 v9_48 v9_49 v9_50 v9_51 a9_52 a9_53 v9_54 v9_55 a9_56 a9_57 v9_58 a9_59 a9_60 a9_61)), (a9_34, .inl (cyI, 202, .inl g9_34))]) [0, 1] rfl
      have hD9 := hD.sub (ws' := [(o9, .inr (9, x_O9 v9_0 v9_1 v9_2 v9_3 a9_4 a9_5 a9_6 a9_7 a9_8 a9_9 a9_10 a9_11 a9_12 v9_13 v9_14 v9_15 v9_16 v9_17 v9_18 a9_19 v9_20 v9_21 v9_22 a9_23 a9_24 a9_25 a9_26 a9_27 a9_28 a9_29 a9_30 a9_31 a9_32 a9_33 a9_34 (v9_35 - (1 : Int32)) v9_36 a9_37 a9_38 a9_39 a9_40 a9_41 v9_42 a9_43 a9_44 a9_45 a9_46 a9_47 v9_48 v9_49 v9_50 v9_51 a9_52 a9_53 v9_54 v9_55 a9_56 a9_57 v9_58 a9_59 a9_60 a9_61)), (a9_34, .inl (cyI, 202, .inl g9_34))]) [0, 1] (by decide) rfl
      exact W.zret (ty := .boolean) hx hb hr rfl (fun t ht hW => ⟨⟨_, (), rfl, ⟨rfl, rfl⟩, by rw [ht]; exact hP9, va_K.moved hW.alike hK, hD9⟩, hS.F ht⟩) hS.2.2 dX9_array_32
  · replace hf := x_ip c_1 hf
    refine lv_iconst (v := 0) hx hb dX9_array_7 (by decide) ?_
    obtain rfl := Option.some.inj hf
    have hP9 := hP.sub (ws' := [(o9, .inr (9, x_O9 v9_0 v9_1 v9_2 v9_3 a9_4 a9_5 a9_6 a9_7 a9_8 a9_9 a9_10 a9_11 a9_12 v9_13 v9_14 v9_15 v9_16 v9_17 v9_18 a9_19 v9_20 v9_21 v9_22 a9_23 a9_24 a9_25 a9_26 a9_27 a9_28 a9_29 a9_30 a9_31 a9_32 a9_33 a9_34 v9_35 v9_36 a9_37 a9_38 a9_39 a9_40 a9_41 v9_42 a9_43 a9_44 a9_45 a9_46 a9_47 v9_48 v9_49 v9_50 v9_51 a9_52 a9_53 v9_54 v9_55 a9_56 a9_57 v9_58 a9_59 a9_60 a9_61)), (a9_34, .inl (cyI, 202, .inl g9_34))]) [0, 1] rfl
    have hD9 := hD.sub (ws' := [(o9, .inr (9, x_O9 v9_0 v9_1 v9_2 v9_3 a9_4 a9_5 a9_6 a9_7 a9_8 a9_9 a9_10 a9_11 a9_12 v9_13 v9_14 v9_15 v9_16 v9_17 v9_18 a9_19 v9_20 v9_21 v9_22 a9_23 a9_24 a9_25 a9_26 a9_27 a9_28 a9_29 a9_30 a9_31 a9_32 a9_33 a9_34 v9_35 v9_36 a9_37 a9_38 a9_39 a9_40 a9_41 v9_42 a9_43 a9_44 a9_45 a9_46 a9_47 v9_48 v9_49 v9_50 v9_51 a9_52 a9_53 v9_54 v9_55 a9_56 a9_57 v9_58 a9_59 a9_60 a9_61)), (a9_34, .inl (cyI, 202, .inl g9_34))]) [0, 1] (by decide) rfl
    exact W.zret (ty := .boolean) hx hb hr rfl (fun t ht hW => ⟨⟨_, (), rfl, ⟨rfl, rfl⟩, by rw [ht]; exact hP9, va_K.moved hW.alike hK, hD9⟩, hS.F ht⟩) hS.2.2 dX9_array_8

def f_X9_arrayLoad (v9_17 : Int32) (v9_35 : Int32) (g9_34 : Nat → Int32) (p1 : Int32) : Option (Int32 × Int32 × (Nat → Int32)) := (f_X9_pop v9_35 g9_34 1) >>= (fun r_1 => if r_1.1 = (0 : Int32) then some (0, r_1.2, g9_34) else if r_1.2 = (0 : Int32) then some (0, r_1.2, g9_34) else if x_gd (r_1.2 - (1 : Int32)) 202 = true then (f_X9_array r_1.2 g9_34 (p1 - (46 : Int32))) >>= (fun r_5 => if r_5.1 = (0 : Int32) then some (0, r_5.2, g9_34) else if p1 = (50 : Int32) then if (g9_34 (Int32.toNatClampNeg (r_1.2 - (1 : Int32)))) = (5 : Int32) then (f_X9_push v9_17 r_5.2 g9_34 5) >>= (fun r_17 => some (r_17.1, r_17.2.1, r_17.2.2)) else (f_X9_push v9_17 r_5.2 g9_34 ((g9_34 (Int32.toNatClampNeg (r_1.2 - (1 : Int32)))) - (1048576 : Int32))) >>= (fun r_16 => some (r_16.1, r_16.2.1, r_16.2.2)) else if p1 = (47 : Int32) then (f_X9_push v9_17 r_5.2 g9_34 3) >>= (fun r_14 => some (r_14.1, r_14.2.1, r_14.2.2)) else if p1 = (48 : Int32) then (f_X9_push v9_17 r_5.2 g9_34 2) >>= (fun r_13 => some (r_13.1, r_13.2.1, r_13.2.2)) else if p1 = (49 : Int32) then (f_X9_push v9_17 r_5.2 g9_34 4) >>= (fun r_12 => some (r_12.1, r_12.2.1, r_12.2.2)) else (f_X9_push v9_17 r_5.2 g9_34 1) >>= (fun r_11 => some (r_11.1, r_11.2.1, r_11.2.2))) else none)
theorem i_X9_arrayLoad_X9 : ∀ w ∈ wsX90, w ∈ wsX9_arrayLoad := fun _ h => List.mem_cons_of_mem _ (List.mem_append_right _ h)
set_option maxHeartbeats 4000000 in
set_option maxRecDepth 100000 in
theorem c_X9_arrayLoad (l : Launch) (dC : Nat → ClassId) (dI : Nat → Nat → Nat) (cyI cyZ cyJ : ClassId) (sz : Nat) (o9 : Nat) (v9_0 : Int32) (v9_1 : Int32) (v9_2 : Int32) (v9_3 : Int32) (a9_4 : Nat) (a9_5 : Nat) (a9_6 : Nat) (a9_7 : Nat) (a9_8 : Nat) (a9_9 : Nat) (a9_10 : Nat) (a9_11 : Nat) (a9_12 : Nat) (v9_13 : Int32) (v9_14 : Int32) (v9_15 : Int32) (v9_16 : Int32) (v9_17 : Int32) (v9_18 : Int32) (a9_19 : Nat) (v9_20 : Int32) (v9_21 : Int32) (v9_22 : Int32) (a9_23 : Nat) (a9_24 : Nat) (a9_25 : Nat) (a9_26 : Nat) (a9_27 : Nat) (a9_28 : Nat) (a9_29 : Nat) (a9_30 : Nat) (a9_31 : Nat) (a9_32 : Nat) (a9_33 : Nat) (a9_34 : Nat) (v9_35 : Int32) (v9_36 : Int32) (a9_37 : Nat) (a9_38 : Nat) (a9_39 : Nat) (a9_40 : Nat) (a9_41 : Nat) (v9_42 : Int32) (a9_43 : Nat) (a9_44 : Nat) (a9_45 : Nat) (a9_46 : Nat) (a9_47 : Nat) (v9_48 : Int32) (v9_49 : Int32) (v9_50 : Int32) (v9_51 : Int32) (a9_52 : Nat) (a9_53 : Nat) (v9_54 : Int32) (v9_55 : Int32) (a9_56 : Nat) (a9_57 : Nat) (v9_58 : Int32) (a9_59 : Nat) (a9_60 : Nat) (a9_61 : Nat) (g9_34 : Nat → Int32) (p1 : Int32) (R : Int32 × Int32 × (Nat → Int32)) (hf : f_X9_arrayLoad v9_17 v9_35 g9_34 p1 = some R) : Met l yX9_arrayLoad wsX9_arrayLoad ({ frames := 1, cells := 0, slots := 0, locals := 25 }) (va_Pc [.ref o9, .int p1] (x_PreD (dC, dI) (x_T cyI cyZ cyJ) [(o9, .inr (9, x_O9 v9_0 v9_1 v9_2 v9_3 a9_4 a9_5 a9_6 a9_7 a9_8 a9_9 a9_10 a9_11 a9_12 v9_13 v9_14 v9_15 v9_16 v9_17 v9_18 a9_19 v9_20 v9_21 v9_22 a9_23 a9_24 a9_25 a9_26 a9_27 a9_28 a9_29 a9_30 a9_31 a9_32 a9_33 a9_34 v9_35 v9_36 a9_37 a9_38 a9_39 a9_40 a9_41 v9_42 a9_43 a9_44 a9_45 a9_46 a9_47 v9_48 v9_49 v9_50 v9_51 a9_52 a9_53 v9_54 v9_55 a9_56 a9_57 v9_58 a9_59 a9_60 a9_61)), (a9_34, .inl (cyI, 202, .inl g9_34))] sz)) (va_Qi (fun (r : Int32) (_ : Unit) => r = R.1 ∧ x_nb r) (fun (_ : Unit) (t : State) => va_P (dC, dI) vwCl [(o9, .inr (9, x_O9 v9_0 v9_1 v9_2 v9_3 a9_4 a9_5 a9_6 a9_7 a9_8 a9_9 a9_10 a9_11 a9_12 v9_13 v9_14 v9_15 v9_16 v9_17 v9_18 a9_19 v9_20 v9_21 v9_22 a9_23 a9_24 a9_25 a9_26 a9_27 a9_28 a9_29 a9_30 a9_31 a9_32 a9_33 a9_34 (R.2.1) v9_36 a9_37 a9_38 a9_39 a9_40 a9_41 v9_42 a9_43 a9_44 a9_45 a9_46 a9_47 v9_48 v9_49 v9_50 v9_51 a9_52 a9_53 v9_54 v9_55 a9_56 a9_57 v9_58 a9_59 a9_60 a9_61)), (a9_34, .inl (cyI, 202, .inl R.2.2))] t.heap ∧ va_K (dC, dI) vwCl (x_T cyI cyZ cyJ) t ∧ va_D (va_A [(o9, .inr (9, x_O9 v9_0 v9_1 v9_2 v9_3 a9_4 a9_5 a9_6 a9_7 a9_8 a9_9 a9_10 a9_11 a9_12 v9_13 v9_14 v9_15 v9_16 v9_17 v9_18 a9_19 v9_20 v9_21 v9_22 a9_23 a9_24 a9_25 a9_26 a9_27 a9_28 a9_29 a9_30 a9_31 a9_32 a9_33 a9_34 v9_35 v9_36 a9_37 a9_38 a9_39 a9_40 a9_41 v9_42 a9_43 a9_44 a9_45 a9_46 a9_47 v9_48 v9_49 v9_50 v9_51 a9_52 a9_53 v9_54 v9_55 a9_56 a9_57 v9_58 a9_59 a9_60 a9_61)), (a9_34, .inl (cyI, 202, .inl g9_34))] sz) [(o9, .inr (9, x_O9 v9_0 v9_1 v9_2 v9_3 a9_4 a9_5 a9_6 a9_7 a9_8 a9_9 a9_10 a9_11 a9_12 v9_13 v9_14 v9_15 v9_16 v9_17 v9_18 a9_19 v9_20 v9_21 v9_22 a9_23 a9_24 a9_25 a9_26 a9_27 a9_28 a9_29 a9_30 a9_31 a9_32 a9_33 a9_34 (R.2.1) v9_36 a9_37 a9_38 a9_39 a9_40 a9_41 v9_42 a9_43 a9_44 a9_45 a9_46 a9_47 v9_48 v9_49 v9_50 v9_51 a9_52 a9_53 v9_54 v9_55 a9_56 a9_57 v9_58 a9_59 a9_60 a9_61)), (a9_34, .inl (cyI, 202, .inl R.2.2))]) (va_A [(o9, .inr (9, x_O9 v9_0 v9_1 v9_2 v9_3 a9_4 a9_5 a9_6 a9_7 a9_8 a9_9 a9_10 a9_11 a9_12 v9_13 v9_14 v9_15 v9_16 v9_17 v9_18 a9_19 v9_20 v9_21 v9_22 a9_23 a9_24 a9_25 a9_26 a9_27 a9_28 a9_29 a9_30 a9_31 a9_32 a9_33 a9_34 v9_35 v9_36 a9_37 a9_38 a9_39 a9_40 a9_41 v9_42 a9_43 a9_44 a9_45 a9_46 a9_47 v9_48 v9_49 v9_50 v9_51 a9_52 a9_53 v9_54 v9_55 a9_56 a9_57 v9_58 a9_59 a9_60 a9_61)), (a9_34, .inl (cyI, 202, .inl g9_34))] sz)) 0 0 (va_A [(o9, .inr (9, x_O9 v9_0 v9_1 v9_2 v9_3 a9_4 a9_5 a9_6 a9_7 a9_8 a9_9 a9_10 a9_11 a9_12 v9_13 v9_14 v9_15 v9_16 v9_17 v9_18 a9_19 v9_20 v9_21 v9_22 a9_23 a9_24 a9_25 a9_26 a9_27 a9_28 a9_29 a9_30 a9_31 a9_32 a9_33 a9_34 v9_35 v9_36 a9_37 a9_38 a9_39 a9_40 a9_41 v9_42 a9_43 a9_44 a9_45 a9_46 a9_47 v9_48 v9_49 v9_50 v9_51 a9_52 a9_53 v9_54 v9_55 a9_56 a9_57 v9_58 a9_59 a9_60 a9_61)), (a9_34, .inl (cyI, 202, .inl g9_34))] sz) := by
  refine Met.ofW (cc := cX9_arrayLoad) (maxL := 3) (ret := (some .boolean)) (by decide) rfl ?_
  intro p e s m args below meth c s₁ B hml hv
  obtain ⟨rfl, ⟨hsz, hP, hK, hN⟩, hD0⟩ := hv
  have hx := B.exec
  have hb := B.bytes
  have hr := B.returns
  have hts := atoms_spec (ws := wsX9_arrayLoad) B.pre
  have hown : s.vm.findClass RX9 = some m.cls := findClass_of_methodNamed B.named
  have k_1 := hts (.fieldLink RX9 215 "FlowJudgeModel" "h" "I") (by decide +kernel)
  have k_2 := hts (.fieldLink RX9 85 "FlowJudgeModel" "st" "[I") (by decide +kernel)
  have k_3 := hts (.constant RX9 351 (1048576)) (by decide +kernel)
  subst hsz
  have hD := hD0.self (sz := s.heap.size)
  generalize hAe : va_A [(o9, .inr (9, x_O9 v9_0 v9_1 v9_2 v9_3 a9_4 a9_5 a9_6 a9_7 a9_8 a9_9 a9_10 a9_11 a9_12 v9_13 v9_14 v9_15 v9_16 v9_17 v9_18 a9_19 v9_20 v9_21 v9_22 a9_23 a9_24 a9_25 a9_26 a9_27 a9_28 a9_29 a9_30 a9_31 a9_32 a9_33 a9_34 v9_35 v9_36 a9_37 a9_38 a9_39 a9_40 a9_41 v9_42 a9_43 a9_44 a9_45 a9_46 a9_47 v9_48 v9_49 v9_50 v9_51 a9_52 a9_53 v9_54 v9_55 a9_56 a9_57 v9_58 a9_59 a9_60 a9_61)), (a9_34, .inl (cyI, 202, .inl g9_34))] s.heap.size = A at hD ⊢
  have hA : ∀ q : Nat, s.heap.size ≤ q → A q := fun q h => by rw [← hAe]; exact Or.inr h
  have hP : va_P (dC, dI) vwCl [(o9, .inr (9, x_O9 v9_0 v9_1 v9_2 v9_3 a9_4 a9_5 a9_6 a9_7 a9_8 a9_9 a9_10 a9_11 a9_12 v9_13 v9_14 v9_15 v9_16 v9_17 v9_18 a9_19 v9_20 v9_21 v9_22 a9_23 a9_24 a9_25 a9_26 a9_27 a9_28 a9_29 a9_30 a9_31 a9_32 a9_33 a9_34 v9_35 v9_36 a9_37 a9_38 a9_39 a9_40 a9_41 v9_42 a9_43 a9_44 a9_45 a9_46 a9_47 v9_48 v9_49 v9_50 v9_51 a9_52 a9_53 v9_54 v9_55 a9_56 a9_57 v9_58 a9_59 a9_60 a9_61)), (a9_34, .inl (cyI, 202, .inl g9_34))] s.heap := hP
  have hl := lv_entry ([.ref o9, .int p1]) (n := 3) (Nat.le_of_ble_eq_true rfl)
  rw [lg_entry_eq]
  generalize (lg_sl ([.ref o9, .int p1]) ++ List.replicate (3 - (lg_sl ([.ref o9, .int p1])).length) Slot.unset).toArray = ls at hl ⊢
  have hl : lv_has ls 3 [(0, .ref o9), (1, .int p1)] := hl
  obtain ⟨H, hH⟩ : ∃ z, z = s.heap := ⟨_, rfl⟩
  refine x_here hH ?_
  have hP : va_P (dC, dI) vwCl [(o9, .inr (9, x_O9 v9_0 v9_1 v9_2 v9_3 a9_4 a9_5 a9_6 a9_7 a9_8 a9_9 a9_10 a9_11 a9_12 v9_13 v9_14 v9_15 v9_16 v9_17 v9_18 a9_19 v9_20 v9_21 v9_22 a9_23 a9_24 a9_25 a9_26 a9_27 a9_28 a9_29 a9_30 a9_31 a9_32 a9_33 a9_34 v9_35 v9_36 a9_37 a9_38 a9_39 a9_40 a9_41 v9_42 a9_43 a9_44 a9_45 a9_46 a9_47 v9_48 v9_49 v9_50 v9_51 a9_52 a9_53 v9_54 v9_55 a9_56 a9_57 v9_58 a9_59 a9_60 a9_61)), (a9_34, .inl (cyI, 202, .inl g9_34))] H := by rw [hH]; exact hP
  have hS : va_S A s.heap H [] := by rw [hH]; exact va_S.rf
  clear hH
  obtain ⟨locs, hlo⟩ : ∃ z : List Loc, z = [] := ⟨_, rfl⟩
  refine x_herl hlo ?_
  have hS : va_S A s.heap H locs := by rw [hlo]; exact hS
  clear hlo
  unfold f_X9_arrayLoad at hf
  refine lv_aload_n hx hb dX9_arrayLoad_0 rfl (lv_at hl 0 rfl) ?_
  refine lv_iconst (v := 1) hx hb dX9_arrayLoad_1 (by decide) ?_
  obtain ⟨r_1, h_1, hf⟩ := x_bi hf
  have hPc := hP.sub (ws' := [(o9, .inr (9, x_O9 v9_0 v9_1 v9_2 v9_3 a9_4 a9_5 a9_6 a9_7 a9_8 a9_9 a9_10 a9_11 a9_12 v9_13 v9_14 v9_15 v9_16 v9_17 v9_18 a9_19 v9_20 v9_21 v9_22 a9_23 a9_24 a9_25 a9_26 a9_27 a9_28 a9_29 a9_30 a9_31 a9_32 a9_33 a9_34 v9_35 v9_36 a9_37 a9_38 a9_39 a9_40 a9_41 v9_42 a9_43 a9_44 a9_45 a9_46 a9_47 v9_48 v9_49 v9_50 v9_51 a9_52 a9_53 v9_54 v9_55 a9_56 a9_57 v9_58 a9_59 a9_60 a9_61)), (a9_34, .inl (cyI, 202, .inl g9_34))]) [0, 1] rfl
  have hDc := hD.sub (ws' := [(o9, .inr (9, x_O9 v9_0 v9_1 v9_2 v9_3 a9_4 a9_5 a9_6 a9_7 a9_8 a9_9 a9_10 a9_11 a9_12 v9_13 v9_14 v9_15 v9_16 v9_17 v9_18 a9_19 v9_20 v9_21 v9_22 a9_23 a9_24 a9_25 a9_26 a9_27 a9_28 a9_29 a9_30 a9_31 a9_32 a9_33 a9_34 v9_35 v9_36 a9_37 a9_38 a9_39 a9_40 a9_41 v9_42 a9_43 a9_44 a9_45 a9_46 a9_47 v9_48 v9_49 v9_50 v9_51 a9_52 a9_53 v9_54 v9_55 a9_56 a9_57 v9_58 a9_59 a9_60 a9_61)), (a9_34, .inl (cyI, 202, .inl g9_34))]) [0, 1] (by decide) rfl
  have hFc := va_free (wc := [(o9, .inr (9, x_O9 v9_0 v9_1 v9_2 v9_3 a9_4 a9_5 a9_6 a9_7 a9_8 a9_9 a9_10 a9_11 a9_12 v9_13 v9_14 v9_15 v9_16 v9_17 v9_18 a9_19 v9_20 v9_21 v9_22 a9_23 a9_24 a9_25 a9_26 a9_27 a9_28 a9_29 a9_30 a9_31 a9_32 a9_33 a9_34 v9_35 v9_36 a9_37 a9_38 a9_39 a9_40 a9_41 v9_42 a9_43 a9_44 a9_45 a9_46 a9_47 v9_48 v9_49 v9_50 v9_51 a9_52 a9_53 v9_54 v9_55 a9_56 a9_57 v9_58 a9_59 a9_60 a9_61)), (a9_34, .inl (cyI, 202, .inl g9_34))]) hD hS hA [0, 1] rfl
  refine va_calli (va_runV (As := [.int 1]) (rest := []) ⟨hx, hb, hml, hown, hts⟩ (c_X9_pop l dC dI cyI cyZ cyJ H.size o9 v9_0 v9_1 v9_2 v9_3 a9_4 a9_5 a9_6 a9_7 a9_8 a9_9 a9_10 a9_11 a9_12 v9_13 v9_14 v9_15 v9_16 v9_17 v9_18 a9_19 v9_20 v9_21 v9_22 a9_23 a9_24 a9_25 a9_26 a9_27 a9_28 a9_29 a9_30 a9_31 a9_32 a9_33 a9_34 v9_35 v9_36 a9_37 a9_38 a9_39 a9_40 a9_41 v9_42 a9_43 a9_44 a9_45 a9_46 a9_47 v9_48 v9_49 v9_50 v9_51 a9_52 a9_53 v9_54 v9_55 a9_56 a9_57 v9_58 a9_59 a9_60 a9_61 g9_34 1 r_1 h_1) (cwV 1 hts gX9_arrayLoad_X9_pop rfl rfl rfl (by decide +kernel) ⟨Nat.le_of_ble_eq_true rfl, Nat.le_of_ble_eq_true rfl⟩) (x_pVD hN hK hPc hDc (ci := 9) (q0 := 0) rfl rfl) rfl rfl hl.1 rfl (lv_room (Nat.le_of_ble_eq_true rfl)) dX9_arrayLoad_2 ⟨Nat.le_of_ble_eq_true rfl, Nat.le_of_ble_eq_true rfl⟩) hS (fun q _ h => hFc q h) hFc (fun q_1 u t H1 locs ht hvm hw hB hz1 hk1 hS => ?_)
  obtain ⟨hP1, hK1, hD1⟩ := hB
  rw [ht] at hP1
  obtain ⟨hP, hD⟩ := va_join (wr := []) (w1 := [(o9, .inr (9, x_O9 v9_0 v9_1 v9_2 v9_3 a9_4 a9_5 a9_6 a9_7 a9_8 a9_9 a9_10 a9_11 a9_12 v9_13 v9_14 v9_15 v9_16 v9_17 v9_18 a9_19 v9_20 v9_21 v9_22 a9_23 a9_24 a9_25 a9_26 a9_27 a9_28 a9_29 a9_30 a9_31 a9_32 a9_33 a9_34 (r_1.2) v9_36 a9_37 a9_38 a9_39 a9_40 a9_41 v9_42 a9_43 a9_44 a9_45 a9_46 a9_47 v9_48 v9_49 v9_50 v9_51 a9_52 a9_53 v9_54 v9_55 a9_56 a9_57 v9_58 a9_59 a9_60 a9_61)), (a9_34, .inl (cyI, 202, .inl g9_34))]) hP hD [0, 1] [] rfl rfl (by decide) (by decide) hk1 hFc hP1 hD1
  clear hz1 hk1 hPc hDc hFc hP1 hK1 hD1 ht hvm t u
  generalize H1 = H at hP hS ⊢
  have hP : va_P (dC, dI) vwCl [(o9, .inr (9, x_O9 v9_0 v9_1 v9_2 v9_3 a9_4 a9_5 a9_6 a9_7 a9_8 a9_9 a9_10 a9_11 a9_12 v9_13 v9_14 v9_15 v9_16 v9_17 v9_18 a9_19 v9_20 v9_21 v9_22 a9_23 a9_24 a9_25 a9_26 a9_27 a9_28 a9_29 a9_30 a9_31 a9_32 a9_33 a9_34 (r_1.2) v9_36 a9_37 a9_38 a9_39 a9_40 a9_41 v9_42 a9_43 a9_44 a9_45 a9_46 a9_47 v9_48 v9_49 v9_50 v9_51 a9_52 a9_53 v9_54 v9_55 a9_56 a9_57 v9_58 a9_59 a9_60 a9_61)), (a9_34, .inl (cyI, 202, .inl g9_34))] H := hP
  have hD : va_D A [(o9, .inr (9, x_O9 v9_0 v9_1 v9_2 v9_3 a9_4 a9_5 a9_6 a9_7 a9_8 a9_9 a9_10 a9_11 a9_12 v9_13 v9_14 v9_15 v9_16 v9_17 v9_18 a9_19 v9_20 v9_21 v9_22 a9_23 a9_24 a9_25 a9_26 a9_27 a9_28 a9_29 a9_30 a9_31 a9_32 a9_33 a9_34 (r_1.2) v9_36 a9_37 a9_38 a9_39 a9_40 a9_41 v9_42 a9_43 a9_44 a9_45 a9_46 a9_47 v9_48 v9_49 v9_50 v9_51 a9_52 a9_53 v9_54 v9_55 a9_56 a9_57 v9_58 a9_59 a9_60 a9_61)), (a9_34, .inl (cyI, 202, .inl g9_34))] := hD
  obtain ⟨hw, b_1⟩ := hw
  obtain rfl := hw.symm
  refine lv_if_eq (tgt := 15) hx hb dX9_arrayLoad_5 (by decide) (fun c_2 => ?_) (fun c_2 => ?_)
  · replace hf := x_ip c_2 hf
    refine lv_iconst (v := 0) hx hb dX9_arrayLoad_15 (by decide) ?_
    obtain rfl := Option.some.inj hf
    have hP9 := hP.sub (ws' := [(o9, .inr (9, x_O9 v9_0 v9_1 v9_2 v9_3 a9_4 a9_5 a9_6 a9_7 a9_8 a9_9 a9_10 a9_11 a9_12 v9_13 v9_14 v9_15 v9_16 v9_17 v9_18 a9_19 v9_20 v9_21 v9_22 a9_23 a9_24 a9_25 a9_26 a9_27 a9_28 a9_29 a9_30 a9_31 a9_32 a9_33 a9_34 (r_1.2) v9_36 a9_37 a9_38 a9_39 a9_40 a9_41 v9_42 a9_43 a9_44 a9_45 a9_46 a9_47 v9_48 v9_49 v9_50 v9_51 a9_52 a9_53 v9_54 v9_55 a9_56 a9_57 v9_58 a9_59 a9_60 a9_61)), (a9_34, .inl (cyI, 202, .inl g9_34))]) [0, 1] rfl
    have hD9 := hD.sub (ws' := [(o9, .inr (9, x_O9 v9_0 v9_1 v9_2 v9_3 a9_4 a9_5 a9_6 a9_7 a9_8 a9_9 a9_10 a9_11 a9_12 v9_13 v9_14 v9_15 v9_16 v9_17 v9_18 a9_19 v9_20 v9_21 v9_22 a9_23 a9_24 a9_25 a9_26 a9_27 a9_28 a9_29 a9_30 a9_31 a9_32 a9_33 a9_34 (r_1.2) v9_36 a9_37 a9_38 a9_39 a9_40 a9_41 v9_42 a9_43 a9_44 a9_45 a9_46 a9_47 v9_48 v9_49 v9_50 v9_51 a9_52 a9_53 v9_54 v9_55 a9_56 a9_57 v9_58 a9_59 a9_60 a9_61)), (a9_34, .inl (cyI, 202, .inl g9_34))]) [0, 1] (by decide) rfl
    exact W.zret (ty := .boolean) hx hb hr rfl (fun t ht hW => ⟨⟨_, (), rfl, ⟨rfl, rfl⟩, by rw [ht]; exact hP9, va_K.moved hW.alike hK, hD9⟩, hS.F ht⟩) hS.2.2 dX9_arrayLoad_16
  · replace hf := x_in c_2 hf
    refine lv_aload_n hx hb dX9_arrayLoad_8 rfl (lv_at hl 0 rfl) ?_
    refine va_get (D := (dC, dI)) (ci := 9) (v := .int (r_1.2)) (C := RX9) (T := TX9) (N := 62) hx hb hts i_X9_arrayLoad_X9 hown hK hP 0 rfl rfl 35 (by decide) k_1 (fun _ h9 => h9) rfl dX9_arrayLoad_9 ?_
    refine lv_if_ne (tgt := 17) hx hb dX9_arrayLoad_12 (by decide) (fun c_3 => ?_) (fun c_3 => ?_)
    · replace hf := x_in c_3 hf
      refine lv_aload_n hx hb dX9_arrayLoad_17 rfl (lv_at hl 0 rfl) ?_
      refine va_get (D := (dC, dI)) (ci := 9) (v := .ref a9_34) (C := RX9) (T := TX9) (N := 62) hx hb hts i_X9_arrayLoad_X9 hown hK hP 0 rfl rfl 34 (by decide) k_2 (fun _ h9 => h9) rfl dX9_arrayLoad_18 ?_
      refine lv_aload_n hx hb dX9_arrayLoad_21 rfl (lv_at hl 0 rfl) ?_
      refine va_get (D := (dC, dI)) (ci := 9) (v := .int (r_1.2)) (C := RX9) (T := TX9) (N := 62) hx hb hts i_X9_arrayLoad_X9 hown hK hP 0 rfl rfl 35 (by decide) k_1 (fun _ h9 => h9) rfl dX9_arrayLoad_22 ?_
      refine lv_iconst (v := 1) hx hb dX9_arrayLoad_25 (by decide) ?_
      refine lv_isub hx hb dX9_arrayLoad_26 ?_
      obtain ⟨g_4, hf⟩ := x_gu hf
      refine va_iald hx hb hK hP 1 0 rfl rfl (x_gdin g_4) dX9_arrayLoad_27 ?_
      refine lv_istore_n (lv' := [(2, .int (g9_34 (Int32.toNatClampNeg (r_1.2 - (1 : Int32))))), (0, .ref o9), (1, .int p1)]) hx hb dX9_arrayLoad_28 rfl hl (by decide) rfl (fun ls hl => ?_)
      refine lv_aload_n hx hb dX9_arrayLoad_29 rfl (lv_at hl 1 rfl) ?_
      refine lv_iload_n hx hb dX9_arrayLoad_30 rfl (lv_at hl 2 rfl) ?_
      refine lv_bipush (v := 46) hx hb dX9_arrayLoad_31 (by decide) ?_
      refine lv_isub hx hb dX9_arrayLoad_33 ?_
      obtain ⟨r_5, h_5, hf⟩ := x_bi hf
      have hPc := hP.sub (ws' := [(o9, .inr (9, x_O9 v9_0 v9_1 v9_2 v9_3 a9_4 a9_5 a9_6 a9_7 a9_8 a9_9 a9_10 a9_11 a9_12 v9_13 v9_14 v9_15 v9_16 v9_17 v9_18 a9_19 v9_20 v9_21 v9_22 a9_23 a9_24 a9_25 a9_26 a9_27 a9_28 a9_29 a9_30 a9_31 a9_32 a9_33 a9_34 (r_1.2) v9_36 a9_37 a9_38 a9_39 a9_40 a9_41 v9_42 a9_43 a9_44 a9_45 a9_46 a9_47 v9_48 v9_49 v9_50 v9_51 a9_52 a9_53 v9_54 v9_55 a9_56 a9_57 v9_58 a9_59 a9_60 a9_61)), (a9_34, .inl (cyI, 202, .inl g9_34))]) [0, 1] rfl
      have hDc := hD.sub (ws' := [(o9, .inr (9, x_O9 v9_0 v9_1 v9_2 v9_3 a9_4 a9_5 a9_6 a9_7 a9_8 a9_9 a9_10 a9_11 a9_12 v9_13 v9_14 v9_15 v9_16 v9_17 v9_18 a9_19 v9_20 v9_21 v9_22 a9_23 a9_24 a9_25 a9_26 a9_27 a9_28 a9_29 a9_30 a9_31 a9_32 a9_33 a9_34 (r_1.2) v9_36 a9_37 a9_38 a9_39 a9_40 a9_41 v9_42 a9_43 a9_44 a9_45 a9_46 a9_47 v9_48 v9_49 v9_50 v9_51 a9_52 a9_53 v9_54 v9_55 a9_56 a9_57 v9_58 a9_59 a9_60 a9_61)), (a9_34, .inl (cyI, 202, .inl g9_34))]) [0, 1] (by decide) rfl
      have hFc := va_free (wc := [(o9, .inr (9, x_O9 v9_0 v9_1 v9_2 v9_3 a9_4 a9_5 a9_6 a9_7 a9_8 a9_9 a9_10 a9_11 a9_12 v9_13 v9_14 v9_15 v9_16 v9_17 v9_18 a9_19 v9_20 v9_21 v9_22 a9_23 a9_24 a9_25 a9_26 a9_27 a9_28 a9_29 a9_30 a9_31 a9_32 a9_33 a9_34 (r_1.2) v9_36 a9_37 a9_38 a9_39 a9_40 a9_41 v9_42 a9_43 a9_44 a9_45 a9_46 a9_47 v9_48 v9_49 v9_50 v9_51 a9_52 a9_53 v9_54 v9_55 a9_56 a9_57 v9_58 a9_59 a9_60 a9_61)), (a9_34, .inl (cyI, 202, .inl g9_34))]) hD hS hA [0, 1] rfl
      refine va_calli (va_runV (As := [.int (p1 - (46 : Int32))]) (rest := []) ⟨hx, hb, hml, hown, hts⟩ (c_X9_array l dC dI cyI cyZ cyJ H.size o9 v9_0 v9_1 v9_2 v9_3 a9_4 a9_5 a9_6 a9_7 a9_8 a9_9 a9_10 a9_11 a9_12 v9_13 v9_14 v9_15 v9_16 v9_17 v9_18 a9_19 v9_20 v9_21 v9_22 a9_23 a9_24 a9_25 a9_26 a9_27 a9_28 a9_29 a9_30 a9_31 a9_32 a9_33 a9_34 r_1.2 v9_36 a9_37 a9_38 a9_39 a9_40 a9_41 v9_42 a9_43 a9_44 a9_45 a9_46 a9_47 v9_48 v9_49 v9_50 v9_51 a9_52 a9_53 v9_54 v9_55 a9_56 a9_57 v9_58 a9_59 a9_60 a9_61 g9_34 (p1 - (46 : Int32)) r_5 h_5) (cwV 1 hts gX9_arrayLoad_X9_array rfl rfl rfl (by decide +kernel) ⟨Nat.le_of_ble_eq_true rfl, Nat.le_of_ble_eq_true rfl⟩) (x_pVD hN hK hPc hDc (ci := 9) (q0 := 0) rfl rfl) rfl rfl hl.1 rfl (lv_room (Nat.le_of_ble_eq_true rfl)) dX9_arrayLoad_34 ⟨Nat.le_of_ble_eq_true rfl, Nat.le_of_ble_eq_true rfl⟩) hS (fun q _ h => hFc q h) hFc (fun q_5 u t H1 locs ht hvm hw hB hz1 hk1 hS => ?_)
      obtain ⟨hP1, hK1, hD1⟩ := hB
      rw [ht] at hP1
      obtain ⟨hP, hD⟩ := va_join (wr := []) (w1 := [(o9, .inr (9, x_O9 v9_0 v9_1 v9_2 v9_3 a9_4 a9_5 a9_6 a9_7 a9_8 a9_9 a9_10 a9_11 a9_12 v9_13 v9_14 v9_15 v9_16 v9_17 v9_18 a9_19 v9_20 v9_21 v9_22 a9_23 a9_24 a9_25 a9_26 a9_27 a9_28 a9_29 a9_30 a9_31 a9_32 a9_33 a9_34 (r_5.2) v9_36 a9_37 a9_38 a9_39 a9_40 a9_41 v9_42 a9_43 a9_44 a9_45 a9_46 a9_47 v9_48 v9_49 v9_50 v9_51 a9_52 a9_53 v9_54 v9_55 a9_56 a9_57 v9_58 a9_59 a9_60 a9_61)), (a9_34, .inl (cyI, 202, .inl g9_34))]) hP hD [0, 1] [] rfl rfl (by decide) (by decide) hk1 hFc hP1 hD1
      clear hz1 hk1 hPc hDc hFc hP1 hK1 hD1 ht hvm t u
      generalize H1 = H at hP hS ⊢
      have hP : va_P (dC, dI) vwCl [(o9, .inr (9, x_O9 v9_0 v9_1 v9_2 v9_3 a9_4 a9_5 a9_6 a9_7 a9_8 a9_9 a9_10 a9_11 a9_12 v9_13 v9_14 v9_15 v9_16 v9_17 v9_18 a9_19 v9_20 v9_21 v9_22 a9_23 a9_24 a9_25 a9_26 a9_27 a9_28 a9_29 a9_30 a9_31 a9_32 a9_33 a9_34 (r_5.2) v9_36 a9_37 a9_38 a9_39 a9_40 a9_41 v9_42 a9_43 a9_44 a9_45 a9_46 a9_47 v9_48 v9_49 v9_50 v9_51 a9_52 a9_53 v9_54 v9_55 a9_56 a9_57 v9_58 a9_59 a9_60 a9_61)), (a9_34, .inl (cyI, 202, .inl g9_34))] H := hP
      have hD : va_D A [(o9, .inr (9, x_O9 v9_0 v9_1 v9_2 v9_3 a9_4 a9_5 a9_6 a9_7 a9_8 a9_9 a9_10 a9_11 a9_12 v9_13 v9_14 v9_15 v9_16 v9_17 v9_18 a9_19 v9_20 v9_21 v9_22 a9_23 a9_24 a9_25 a9_26 a9_27 a9_28 a9_29 a9_30 a9_31 a9_32 a9_33 a9_34 (r_5.2) v9_36 a9_37 a9_38 a9_39 a9_40 a9_41 v9_42 a9_43 a9_44 a9_45 a9_46 a9_47 v9_48 v9_49 v9_50 v9_51 a9_52 a9_53 v9_54 v9_55 a9_56 a9_57 v9_58 a9_59 a9_60 a9_61)), (a9_34, .inl (cyI, 202, .inl g9_34))] := hD
      obtain ⟨hw, b_5⟩ := hw
      obtain rfl := hw.symm
      refine lv_if_ne (tgt := 42) hx hb dX9_arrayLoad_37 (by decide) (fun c_6 => ?_) (fun c_6 => ?_)
      · replace hf := x_in c_6 hf
        refine lv_iload_n hx hb dX9_arrayLoad_42 rfl (lv_at hl 2 rfl) ?_
        refine lv_bipush (v := 50) hx hb dX9_arrayLoad_43 (by decide) ?_
        refine lv_icmp_ne (tgt := 67) hx hb dX9_arrayLoad_45 (by decide) (fun c_7 => ?_) (fun c_7 => ?_)
        · replace hf := x_in c_7 hf
          refine lv_aload_n hx hb dX9_arrayLoad_67 rfl (lv_at hl 1 rfl) ?_
          refine lv_iload_n hx hb dX9_arrayLoad_68 rfl (lv_at hl 2 rfl) ?_
          refine lv_bipush (v := 47) hx hb dX9_arrayLoad_69 (by decide) ?_
          refine lv_icmp_ne (tgt := 78) hx hb dX9_arrayLoad_71 (by decide) (fun c_8 => ?_) (fun c_8 => ?_)
          · replace hf := x_in c_8 hf
            refine lv_iload_n hx hb dX9_arrayLoad_78 rfl (lv_at hl 2 rfl) ?_
            refine lv_bipush (v := 48) hx hb dX9_arrayLoad_79 (by decide) ?_
            refine lv_icmp_ne (tgt := 88) hx hb dX9_arrayLoad_81 (by decide) (fun c_9 => ?_) (fun c_9 => ?_)
            · replace hf := x_in c_9 hf
              refine lv_iload_n hx hb dX9_arrayLoad_88 rfl (lv_at hl 2 rfl) ?_
              refine lv_bipush (v := 49) hx hb dX9_arrayLoad_89 (by decide) ?_
              refine lv_icmp_ne (tgt := 98) hx hb dX9_arrayLoad_91 (by decide) (fun c_10 => ?_) (fun c_10 => ?_)
              · replace hf := x_in c_10 hf
                refine lv_iconst (v := 1) hx hb dX9_arrayLoad_98 (by decide) ?_
                obtain ⟨r_11, h_11, hf⟩ := x_bi hf
                have hPc := hP.sub (ws' := [(o9, .inr (9, x_O9 v9_0 v9_1 v9_2 v9_3 a9_4 a9_5 a9_6 a9_7 a9_8 a9_9 a9_10 a9_11 a9_12 v9_13 v9_14 v9_15 v9_16 v9_17 v9_18 a9_19 v9_20 v9_21 v9_22 a9_23 a9_24 a9_25 a9_26 a9_27 a9_28 a9_29 a9_30 a9_31 a9_32 a9_33 a9_34 (r_5.2) v9_36 a9_37 a9_38 a9_39 a9_40 a9_41 v9_42 a9_43 a9_44 a9_45 a9_46 a9_47 v9_48 v9_49 v9_50 v9_51 a9_52 a9_53 v9_54 v9_55 a9_56 a9_57 v9_58 a9_59 a9_60 a9_61)), (a9_34, .inl (cyI, 202, .inl g9_34))]) [0, 1] rfl
                have hDc := hD.sub (ws' := [(o9, .inr (9, x_O9 v9_0 v9_1 v9_2 v9_3 a9_4 a9_5 a9_6 a9_7 a9_8 a9_9 a9_10 a9_11 a9_12 v9_13 v9_14 v9_15 v9_16 v9_17 v9_18 a9_19 v9_20 v9_21 v9_22 a9_23 a9_24 a9_25 a9_26 a9_27 a9_28 a9_29 a9_30 a9_31 a9_32 a9_33 a9_34 (r_5.2) v9_36 a9_37 a9_38 a9_39 a9_40 a9_41 v9_42 a9_43 a9_44 a9_45 a9_46 a9_47 v9_48 v9_49 v9_50 v9_51 a9_52 a9_53 v9_54 v9_55 a9_56 a9_57 v9_58 a9_59 a9_60 a9_61)), (a9_34, .inl (cyI, 202, .inl g9_34))]) [0, 1] (by decide) rfl
                have hFc := va_free (wc := [(o9, .inr (9, x_O9 v9_0 v9_1 v9_2 v9_3 a9_4 a9_5 a9_6 a9_7 a9_8 a9_9 a9_10 a9_11 a9_12 v9_13 v9_14 v9_15 v9_16 v9_17 v9_18 a9_19 v9_20 v9_21 v9_22 a9_23 a9_24 a9_25 a9_26 a9_27 a9_28 a9_29 a9_30 a9_31 a9_32 a9_33 a9_34 (r_5.2) v9_36 a9_37 a9_38 a9_39 a9_40 a9_41 v9_42 a9_43 a9_44 a9_45 a9_46 a9_47 v9_48 v9_49 v9_50 v9_51 a9_52 a9_53 v9_54 v9_55 a9_56 a9_57 v9_58 a9_59 a9_60 a9_61)), (a9_34, .inl (cyI, 202, .inl g9_34))]) hD hS hA [0, 1] rfl
                refine va_calli (va_runV (As := [.int 1]) (rest := []) ⟨hx, hb, hml, hown, hts⟩ (c_X9_push l dC dI cyI cyZ cyJ H.size o9 v9_0 v9_1 v9_2 v9_3 a9_4 a9_5 a9_6 a9_7 a9_8 a9_9 a9_10 a9_11 a9_12 v9_13 v9_14 v9_15 v9_16 v9_17 v9_18 a9_19 v9_20 v9_21 v9_22 a9_23 a9_24 a9_25 a9_26 a9_27 a9_28 a9_29 a9_30 a9_31 a9_32 a9_33 a9_34 r_5.2 v9_36 a9_37 a9_38 a9_39 a9_40 a9_41 v9_42 a9_43 a9_44 a9_45 a9_46 a9_47 v9_48 v9_49 v9_50 v9_51 a9_52 a9_53 v9_54 v9_55 a9_56 a9_57 v9_58 a9_59 a9_60 a9_61 g9_34 1 r_11 h_11) (cwV 1 hts gX9_arrayLoad_X9_push rfl rfl rfl (by decide +kernel) ⟨Nat.le_of_ble_eq_true rfl, Nat.le_of_ble_eq_true rfl⟩) (x_pVD hN hK hPc hDc (ci := 9) (q0 := 0) rfl rfl) rfl rfl hl.1 rfl (lv_room (Nat.le_of_ble_eq_true rfl)) dX9_arrayLoad_99 ⟨Nat.le_of_ble_eq_true rfl, Nat.le_of_ble_eq_true rfl⟩) hS (fun q _ h => hFc q h) hFc (fun q_11 u t H1 locs ht hvm hw hB hz1 hk1 hS => ?_)
                obtain ⟨hP1, hK1, hD1⟩ := hB
                rw [ht] at hP1
                obtain ⟨hP, hD⟩ := va_join (wr := []) (w1 := [(o9, .inr (9, x_O9 v9_0 v9_1 v9_2 v9_3 a9_4 a9_5 a9_6 a9_7 a9_8 a9_9 a9_10 a9_11 a9_12 v9_13 v9_14 v9_15 v9_16 v9_17 v9_18 a9_19 v9_20 v9_21 v9_22 a9_23 a9_24 a9_25 a9_26 a9_27 a9_28 a9_29 a9_30 a9_31 a9_32 a9_33 a9_34 (r_11.2.1) v9_36 a9_37 a9_38 a9_39 a9_40 a9_41 v9_42 a9_43 a9_44 a9_45 a9_46 a9_47 v9_48 v9_49 v9_50 v9_51 a9_52 a9_53 v9_54 v9_55 a9_56 a9_57 v9_58 a9_59 a9_60 a9_61)), (a9_34, .inl (cyI, 202, .inl r_11.2.2))]) hP hD [0, 1] [] rfl rfl (by decide) (by decide) hk1 hFc hP1 hD1
                clear hz1 hk1 hPc hDc hFc hP1 hK1 hD1 ht hvm t u
                generalize H1 = H at hP hS ⊢
                have hP : va_P (dC, dI) vwCl [(o9, .inr (9, x_O9 v9_0 v9_1 v9_2 v9_3 a9_4 a9_5 a9_6 a9_7 a9_8 a9_9 a9_10 a9_11 a9_12 v9_13 v9_14 v9_15 v9_16 v9_17 v9_18 a9_19 v9_20 v9_21 v9_22 a9_23 a9_24 a9_25 a9_26 a9_27 a9_28 a9_29 a9_30 a9_31 a9_32 a9_33 a9_34 (r_11.2.1) v9_36 a9_37 a9_38 a9_39 a9_40 a9_41 v9_42 a9_43 a9_44 a9_45 a9_46 a9_47 v9_48 v9_49 v9_50 v9_51 a9_52 a9_53 v9_54 v9_55 a9_56 a9_57 v9_58 a9_59 a9_60 a9_61)), (a9_34, .inl (cyI, 202, .inl r_11.2.2))] H := hP
                have hD : va_D A [(o9, .inr (9, x_O9 v9_0 v9_1 v9_2 v9_3 a9_4 a9_5 a9_6 a9_7 a9_8 a9_9 a9_10 a9_11 a9_12 v9_13 v9_14 v9_15 v9_16 v9_17 v9_18 a9_19 v9_20 v9_21 v9_22 a9_23 a9_24 a9_25 a9_26 a9_27 a9_28 a9_29 a9_30 a9_31 a9_32 a9_33 a9_34 (r_11.2.1) v9_36 a9_37 a9_38 a9_39 a9_40 a9_41 v9_42 a9_43 a9_44 a9_45 a9_46 a9_47 v9_48 v9_49 v9_50 v9_51 a9_52 a9_53 v9_54 v9_55 a9_56 a9_57 v9_58 a9_59 a9_60 a9_61)), (a9_34, .inl (cyI, 202, .inl r_11.2.2))] := hD
                obtain ⟨hw, b_11⟩ := hw
                obtain rfl := hw.symm
                obtain rfl := Option.some.inj hf
                have hP9 := hP.sub (ws' := [(o9, .inr (9, x_O9 v9_0 v9_1 v9_2 v9_3 a9_4 a9_5 a9_6 a9_7 a9_8 a9_9 a9_10 a9_11 a9_12 v9_13 v9_14 v9_15 v9_16 v9_17 v9_18 a9_19 v9_20 v9_21 v9_22 a9_23 a9_24 a9_25 a9_26 a9_27 a9_28 a9_29 a9_30 a9_31 a9_32 a9_33 a9_34 (r_11.2.1) v9_36 a9_37 a9_38 a9_39 a9_40 a9_41 v9_42 a9_43 a9_44 a9_45 a9_46 a9_47 v9_48 v9_49 v9_50 v9_51 a9_52 a9_53 v9_54 v9_55 a9_56 a9_57 v9_58 a9_59 a9_60 a9_61)), (a9_34, .inl (cyI, 202, .inl r_11.2.2))]) [0, 1] rfl
                have hD9 := hD.sub (ws' := [(o9, .inr (9, x_O9 v9_0 v9_1 v9_2 v9_3 a9_4 a9_5 a9_6 a9_7 a9_8 a9_9 a9_10 a9_11 a9_12 v9_13 v9_14 v9_15 v9_16 v9_17 v9_18 a9_19 v9_20 v9_21 v9_22 a9_23 a9_24 a9_25 a9_26 a9_27 a9_28 a9_29 a9_30 a9_31 a9_32 a9_33 a9_34 (r_11.2.1) v9_36 a9_37 a9_38 a9_39 a9_40 a9_41 v9_42 a9_43 a9_44 a9_45 a9_46 a9_47 v9_48 v9_49 v9_50 v9_51 a9_52 a9_53 v9_54 v9_55 a9_56 a9_57 v9_58 a9_59 a9_60 a9_61)), (a9_34, .inl (cyI, 202, .inl r_11.2.2))]) [0, 1] (by decide) rfl
                exact W.zret (ty := .boolean) hx hb hr b_11 (fun t ht hW => ⟨⟨_, (), rfl, ⟨rfl, b_11⟩, by rw [ht]; exact hP9, va_K.moved hW.alike hK, hD9⟩, hS.F ht⟩) hS.2.2 dX9_arrayLoad_102
              · replace hf := x_ip c_10 hf
                refine lv_iconst (v := 4) hx hb dX9_arrayLoad_94 (by decide) ?_
                refine lv_goto (tgt := 99) hx hb dX9_arrayLoad_95 (by decide) ?_
                obtain ⟨r_12, h_12, hf⟩ := x_bi hf
                have hPc := hP.sub (ws' := [(o9, .inr (9, x_O9 v9_0 v9_1 v9_2 v9_3 a9_4 a9_5 a9_6 a9_7 a9_8 a9_9 a9_10 a9_11 a9_12 v9_13 v9_14 v9_15 v9_16 v9_17 v9_18 a9_19 v9_20 v9_21 v9_22 a9_23 a9_24 a9_25 a9_26 a9_27 a9_28 a9_29 a9_30 a9_31 a9_32 a9_33 a9_34 (r_5.2) v9_36 a9_37 a9_38 a9_39 a9_40 a9_41 v9_42 a9_43 a9_44 a9_45 a9_46 a9_47 v9_48 v9_49 v9_50 v9_51 a9_52 a9_53 v9_54 v9_55 a9_56 a9_57 v9_58 a9_59 a9_60 a9_61)), (a9_34, .inl (cyI, 202, .inl g9_34))]) [0, 1] rfl
                have hDc := hD.sub (ws' := [(o9, .inr (9, x_O9 v9_0 v9_1 v9_2 v9_3 a9_4 a9_5 a9_6 a9_7 a9_8 a9_9 a9_10 a9_11 a9_12 v9_13 v9_14 v9_15 v9_16 v9_17 v9_18 a9_19 v9_20 v9_21 v9_22 a9_23 a9_24 a9_25 a9_26 a9_27 a9_28 a9_29 a9_30 a9_31 a9_32 a9_33 a9_34 (r_5.2) v9_36 a9_37 a9_38 a9_39 a9_40 a9_41 v9_42 a9_43 a9_44 a9_45 a9_46 a9_47 v9_48 v9_49 v9_50 v9_51 a9_52 a9_53 v9_54 v9_55 a9_56 a9_57 v9_58 a9_59 a9_60 a9_61)), (a9_34, .inl (cyI, 202, .inl g9_34))]) [0, 1] (by decide) rfl
                have hFc := va_free (wc := [(o9, .inr (9, x_O9 v9_0 v9_1 v9_2 v9_3 a9_4 a9_5 a9_6 a9_7 a9_8 a9_9 a9_10 a9_11 a9_12 v9_13 v9_14 v9_15 v9_16 v9_17 v9_18 a9_19 v9_20 v9_21 v9_22 a9_23 a9_24 a9_25 a9_26 a9_27 a9_28 a9_29 a9_30 a9_31 a9_32 a9_33 a9_34 (r_5.2) v9_36 a9_37 a9_38 a9_39 a9_40 a9_41 v9_42 a9_43 a9_44 a9_45 a9_46 a9_47 v9_48 v9_49 v9_50 v9_51 a9_52 a9_53 v9_54 v9_55 a9_56 a9_57 v9_58 a9_59 a9_60 a9_61)), (a9_34, .inl (cyI, 202, .inl g9_34))]) hD hS hA [0, 1] rfl
                refine va_calli (va_runV (As := [.int 4]) (rest := []) ⟨hx, hb, hml, hown, hts⟩ (c_X9_push l dC dI cyI cyZ cyJ H.size o9 v9_0 v9_1 v9_2 v9_3 a9_4 a9_5 a9_6 a9_7 a9_8 a9_9 a9_10 a9_11 a9_12 v9_13 v9_14 v9_15 v9_16 v9_17 v9_18 a9_19 v9_20 v9_21 v9_22 a9_23 a9_24 a9_25 a9_26 a9_27 a9_28 a9_29 a9_30 a9_31 a9_32 a9_33 a9_34 r_5.2 v9_36 a9_37 a9_38 a9_39 a9_40 a9_41 v9_42 a9_43 a9_44 a9_45 a9_46 a9_47 v9_48 v9_49 v9_50 v9_51 a9_52 a9_53 v9_54 v9_55 a9_56 a9_57 v9_58 a9_59 a9_60 a9_61 g9_34 4 r_12 h_12) (cwV 1 hts gX9_arrayLoad_X9_push rfl rfl rfl (by decide +kernel) ⟨Nat.le_of_ble_eq_true rfl, Nat.le_of_ble_eq_true rfl⟩) (x_pVD hN hK hPc hDc (ci := 9) (q0 := 0) rfl rfl) rfl rfl hl.1 rfl (lv_room (Nat.le_of_ble_eq_true rfl)) dX9_arrayLoad_99 ⟨Nat.le_of_ble_eq_true rfl, Nat.le_of_ble_eq_true rfl⟩) hS (fun q _ h => hFc q h) hFc (fun q_12 u t H1 locs ht hvm hw hB hz1 hk1 hS => ?_)
                obtain ⟨hP1, hK1, hD1⟩ := hB
                rw [ht] at hP1
                obtain ⟨hP, hD⟩ := va_join (wr := []) (w1 := [(o9, .inr (9, x_O9 v9_0 v9_1 v9_2 v9_3 a9_4 a9_5 a9_6 a9_7 a9_8 a9_9 a9_10 a9_11 a9_12 v9_13 v9_14 v9_15 v9_16 v9_17 v9_18 a9_19 v9_20 v9_21 v9_22 a9_23 a9_24 a9_25 a9_26 a9_27 a9_28 a9_29 a9_30 a9_31 a9_32 a9_33 a9_34 (r_12.2.1) v9_36 a9_37 a9_38 a9_39 a9_40 a9_41 v9_42 a9_43 a9_44 a9_45 a9_46 a9_47 v9_48 v9_49 v9_50 v9_51 a9_52 a9_53 v9_54 v9_55 a9_56 a9_57 v9_58 a9_59 a9_60 a9_61)), (a9_34, .inl (cyI, 202, .inl r_12.2.2))]) hP hD [0, 1] [] rfl rfl (by decide) (by decide) hk1 hFc hP1 hD1
                clear hz1 hk1 hPc hDc hFc hP1 hK1 hD1 ht hvm t u
                generalize H1 = H at hP hS ⊢
                have hP : va_P (dC, dI) vwCl [(o9, .inr (9, x_O9 v9_0 v9_1 v9_2 v9_3 a9_4 a9_5 a9_6 a9_7 a9_8 a9_9 a9_10 a9_11 a9_12 v9_13 v9_14 v9_15 v9_16 v9_17 v9_18 a9_19 v9_20 v9_21 v9_22 a9_23 a9_24 a9_25 a9_26 a9_27 a9_28 a9_29 a9_30 a9_31 a9_32 a9_33 a9_34 (r_12.2.1) v9_36 a9_37 a9_38 a9_39 a9_40 a9_41 v9_42 a9_43 a9_44 a9_45 a9_46 a9_47 v9_48 v9_49 v9_50 v9_51 a9_52 a9_53 v9_54 v9_55 a9_56 a9_57 v9_58 a9_59 a9_60 a9_61)), (a9_34, .inl (cyI, 202, .inl r_12.2.2))] H := hP
                have hD : va_D A [(o9, .inr (9, x_O9 v9_0 v9_1 v9_2 v9_3 a9_4 a9_5 a9_6 a9_7 a9_8 a9_9 a9_10 a9_11 a9_12 v9_13 v9_14 v9_15 v9_16 v9_17 v9_18 a9_19 v9_20 v9_21 v9_22 a9_23 a9_24 a9_25 a9_26 a9_27 a9_28 a9_29 a9_30 a9_31 a9_32 a9_33 a9_34 (r_12.2.1) v9_36 a9_37 a9_38 a9_39 a9_40 a9_41 v9_42 a9_43 a9_44 a9_45 a9_46 a9_47 v9_48 v9_49 v9_50 v9_51 a9_52 a9_53 v9_54 v9_55 a9_56 a9_57 v9_58 a9_59 a9_60 a9_61)), (a9_34, .inl (cyI, 202, .inl r_12.2.2))] := hD
                obtain ⟨hw, b_12⟩ := hw
                obtain rfl := hw.symm
                obtain rfl := Option.some.inj hf
                have hP9 := hP.sub (ws' := [(o9, .inr (9, x_O9 v9_0 v9_1 v9_2 v9_3 a9_4 a9_5 a9_6 a9_7 a9_8 a9_9 a9_10 a9_11 a9_12 v9_13 v9_14 v9_15 v9_16 v9_17 v9_18 a9_19 v9_20 v9_21 v9_22 a9_23 a9_24 a9_25 a9_26 a9_27 a9_28 a9_29 a9_30 a9_31 a9_32 a9_33 a9_34 (r_12.2.1) v9_36 a9_37 a9_38 a9_39 a9_40 a9_41 v9_42 a9_43 a9_44 a9_45 a9_46 a9_47 v9_48 v9_49 v9_50 v9_51 a9_52 a9_53 v9_54 v9_55 a9_56 a9_57 v9_58 a9_59 a9_60 a9_61)), (a9_34, .inl (cyI, 202, .inl r_12.2.2))]) [0, 1] rfl
                have hD9 := hD.sub (ws' := [(o9, .inr (9, x_O9 v9_0 v9_1 v9_2 v9_3 a9_4 a9_5 a9_6 a9_7 a9_8 a9_9 a9_10 a9_11 a9_12 v9_13 v9_14 v9_15 v9_16 v9_17 v9_18 a9_19 v9_20 v9_21 v9_22 a9_23 a9_24 a9_25 a9_26 a9_27 a9_28 a9_29 a9_30 a9_31 a9_32 a9_33 a9_34 (r_12.2.1) v9_36 a9_37 a9_38 a9_39 a9_40 a9_41 v9_42 a9_43 a9_44 a9_45 a9_46 a9_47 v9_48 v9_49 v9_50 v9_51 a9_52 a9_53 v9_54 v9_55 a9_56 a9_57 v9_58 a9_59 a9_60 a9_61)), (a9_34, .inl (cyI, 202, .inl r_12.2.2))]) [0, 1] (by decide) rfl
                exact W.zret (ty := .boolean) hx hb hr b_12 (fun t ht hW => ⟨⟨_, (), rfl, ⟨rfl, b_12⟩, by rw [ht]; exact hP9, va_K.moved hW.alike hK, hD9⟩, hS.F ht⟩) hS.2.2 dX9_arrayLoad_102
            · replace hf := x_ip c_9 hf
              refine lv_iconst (v := 2) hx hb dX9_arrayLoad_84 (by decide) ?_
              refine lv_goto (tgt := 99) hx hb dX9_arrayLoad_85 (by decide) ?_
              obtain ⟨r_13, h_13, hf⟩ := x_bi hf
              have hPc := hP.sub (ws' := [(o9, .inr (9, x_O9 v9_0 v9_1 v9_2 v9_3 a9_4 a9_5 a9_6 a9_7 a9_8 a9_9 a9_10 a9_11 a9_12 v9_13 v9_14 v9_15 v9_16 v9_17 v9_18 a9_19 v9_20 v9_21 v9_22 a9_23 a9_24 a9_25 a9_26 a9_27 a9_28 a9_29 a9_30 a9_31 a9_32 a9_33 a9_34 (r_5.2) v9_36 a9_37 a9_38 a9_39 a9_40 a9_41 v9_42 a9_43 a9_44 a9_45 a9_46 a9_47 v9_48 v9_49 v9_50 v9_51 a9_52 a9_53 v9_54 v9_55 a9_56 a9_57 v9_58 a9_59 a9_60 a9_61)), (a9_34, .inl (cyI, 202, .inl g9_34))]) [0, 1] rfl
              have hDc := hD.sub (ws' := [(o9, .inr (9, x_O9 v9_0 v9_1 v9_2 v9_3 a9_4 a9_5 a9_6 a9_7 a9_8 a9_9 a9_10 a9_11 a9_12 v9_13 v9_14 v9_15 v9_16 v9_17 v9_18 a9_19 v9_20 v9_21 v9_22 a9_23 a9_24 a9_25 a9_26 a9_27 a9_28 a9_29 a9_30 a9_31 a9_32 a9_33 a9_34 (r_5.2) v9_36 a9_37 a9_38 a9_39 a9_40 a9_41 v9_42 a9_43 a9_44 a9_45 a9_46 a9_47 v9_48 v9_49 v9_50 v9_51 a9_52 a9_53 v9_54 v9_55 a9_56 a9_57 v9_58 a9_59 a9_60 a9_61)), (a9_34, .inl (cyI, 202, .inl g9_34))]) [0, 1] (by decide) rfl
              have hFc := va_free (wc := [(o9, .inr (9, x_O9 v9_0 v9_1 v9_2 v9_3 a9_4 a9_5 a9_6 a9_7 a9_8 a9_9 a9_10 a9_11 a9_12 v9_13 v9_14 v9_15 v9_16 v9_17 v9_18 a9_19 v9_20 v9_21 v9_22 a9_23 a9_24 a9_25 a9_26 a9_27 a9_28 a9_29 a9_30 a9_31 a9_32 a9_33 a9_34 (r_5.2) v9_36 a9_37 a9_38 a9_39 a9_40 a9_41 v9_42 a9_43 a9_44 a9_45 a9_46 a9_47 v9_48 v9_49 v9_50 v9_51 a9_52 a9_53 v9_54 v9_55 a9_56 a9_57 v9_58 a9_59 a9_60 a9_61)), (a9_34, .inl (cyI, 202, .inl g9_34))]) hD hS hA [0, 1] rfl
              refine va_calli (va_runV (As := [.int 2]) (rest := []) ⟨hx, hb, hml, hown, hts⟩ (c_X9_push l dC dI cyI cyZ cyJ H.size o9 v9_0 v9_1 v9_2 v9_3 a9_4 a9_5 a9_6 a9_7 a9_8 a9_9 a9_10 a9_11 a9_12 v9_13 v9_14 v9_15 v9_16 v9_17 v9_18 a9_19 v9_20 v9_21 v9_22 a9_23 a9_24 a9_25 a9_26 a9_27 a9_28 a9_29 a9_30 a9_31 a9_32 a9_33 a9_34 r_5.2 v9_36 a9_37 a9_38 a9_39 a9_40 a9_41 v9_42 a9_43 a9_44 a9_45 a9_46 a9_47 v9_48 v9_49 v9_50 v9_51 a9_52 a9_53 v9_54 v9_55 a9_56 a9_57 v9_58 a9_59 a9_60 a9_61 g9_34 2 r_13 h_13) (cwV 1 hts gX9_arrayLoad_X9_push rfl rfl rfl (by decide +kernel) ⟨Nat.le_of_ble_eq_true rfl, Nat.le_of_ble_eq_true rfl⟩) (x_pVD hN hK hPc hDc (ci := 9) (q0 := 0) rfl rfl) rfl rfl hl.1 rfl (lv_room (Nat.le_of_ble_eq_true rfl)) dX9_arrayLoad_99 ⟨Nat.le_of_ble_eq_true rfl, Nat.le_of_ble_eq_true rfl⟩) hS (fun q _ h => hFc q h) hFc (fun q_13 u t H1 locs ht hvm hw hB hz1 hk1 hS => ?_)
              obtain ⟨hP1, hK1, hD1⟩ := hB
              rw [ht] at hP1
              obtain ⟨hP, hD⟩ := va_join (wr := []) (w1 := [(o9, .inr (9, x_O9 v9_0 v9_1 v9_2 v9_3 a9_4 a9_5 a9_6 a9_7 a9_8 a9_9 a9_10 a9_11 a9_12 v9_13 v9_14 v9_15 v9_16 v9_17 v9_18 a9_19 v9_20 v9_21 v9_22 a9_23 a9_24 a9_25 a9_26 a9_27 a9_28 a9_29 a9_30 a9_31 a9_32 a9_33 a9_34 (r_13.2.1) v9_36 a9_37 a9_38 a9_39 a9_40 a9_41 v9_42 a9_43 a9_44 a9_45 a9_46 a9_47 v9_48 v9_49 v9_50 v9_51 a9_52 a9_53 v9_54 v9_55 a9_56 a9_57 v9_58 a9_59 a9_60 a9_61)), (a9_34, .inl (cyI, 202, .inl r_13.2.2))]) hP hD [0, 1] [] rfl rfl (by decide) (by decide) hk1 hFc hP1 hD1
              clear hz1 hk1 hPc hDc hFc hP1 hK1 hD1 ht hvm t u
              generalize H1 = H at hP hS ⊢
              have hP : va_P (dC, dI) vwCl [(o9, .inr (9, x_O9 v9_0 v9_1 v9_2 v9_3 a9_4 a9_5 a9_6 a9_7 a9_8 a9_9 a9_10 a9_11 a9_12 v9_13 v9_14 v9_15 v9_16 v9_17 v9_18 a9_19 v9_20 v9_21 v9_22 a9_23 a9_24 a9_25 a9_26 a9_27 a9_28 a9_29 a9_30 a9_31 a9_32 a9_33 a9_34 (r_13.2.1) v9_36 a9_37 a9_38 a9_39 a9_40 a9_41 v9_42 a9_43 a9_44 a9_45 a9_46 a9_47 v9_48 v9_49 v9_50 v9_51 a9_52 a9_53 v9_54 v9_55 a9_56 a9_57 v9_58 a9_59 a9_60 a9_61)), (a9_34, .inl (cyI, 202, .inl r_13.2.2))] H := hP
              have hD : va_D A [(o9, .inr (9, x_O9 v9_0 v9_1 v9_2 v9_3 a9_4 a9_5 a9_6 a9_7 a9_8 a9_9 a9_10 a9_11 a9_12 v9_13 v9_14 v9_15 v9_16 v9_17 v9_18 a9_19 v9_20 v9_21 v9_22 a9_23 a9_24 a9_25 a9_26 a9_27 a9_28 a9_29 a9_30 a9_31 a9_32 a9_33 a9_34 (r_13.2.1) v9_36 a9_37 a9_38 a9_39 a9_40 a9_41 v9_42 a9_43 a9_44 a9_45 a9_46 a9_47 v9_48 v9_49 v9_50 v9_51 a9_52 a9_53 v9_54 v9_55 a9_56 a9_57 v9_58 a9_59 a9_60 a9_61)), (a9_34, .inl (cyI, 202, .inl r_13.2.2))] := hD
              obtain ⟨hw, b_13⟩ := hw
              obtain rfl := hw.symm
              obtain rfl := Option.some.inj hf
              have hP9 := hP.sub (ws' := [(o9, .inr (9, x_O9 v9_0 v9_1 v9_2 v9_3 a9_4 a9_5 a9_6 a9_7 a9_8 a9_9 a9_10 a9_11 a9_12 v9_13 v9_14 v9_15 v9_16 v9_17 v9_18 a9_19 v9_20 v9_21 v9_22 a9_23 a9_24 a9_25 a9_26 a9_27 a9_28 a9_29 a9_30 a9_31 a9_32 a9_33 a9_34 (r_13.2.1) v9_36 a9_37 a9_38 a9_39 a9_40 a9_41 v9_42 a9_43 a9_44 a9_45 a9_46 a9_47 v9_48 v9_49 v9_50 v9_51 a9_52 a9_53 v9_54 v9_55 a9_56 a9_57 v9_58 a9_59 a9_60 a9_61)), (a9_34, .inl (cyI, 202, .inl r_13.2.2))]) [0, 1] rfl
              have hD9 := hD.sub (ws' := [(o9, .inr (9, x_O9 v9_0 v9_1 v9_2 v9_3 a9_4 a9_5 a9_6 a9_7 a9_8 a9_9 a9_10 a9_11 a9_12 v9_13 v9_14 v9_15 v9_16 v9_17 v9_18 a9_19 v9_20 v9_21 v9_22 a9_23 a9_24 a9_25 a9_26 a9_27 a9_28 a9_29 a9_30 a9_31 a9_32 a9_33 a9_34 (r_13.2.1) v9_36 a9_37 a9_38 a9_39 a9_40 a9_41 v9_42 a9_43 a9_44 a9_45 a9_46 a9_47 v9_48 v9_49 v9_50 v9_51 a9_52 a9_53 v9_54 v9_55 a9_56 a9_57 v9_58 a9_59 a9_60 a9_61)), (a9_34, .inl (cyI, 202, .inl r_13.2.2))]) [0, 1] (by decide) rfl
              exact W.zret (ty := .boolean) hx hb hr b_13 (fun t ht hW => ⟨⟨_, (), rfl, ⟨rfl, b_13⟩, by rw [ht]; exact hP9, va_K.moved hW.alike hK, hD9⟩, hS.F ht⟩) hS.2.2 dX9_arrayLoad_102
          · replace hf := x_ip c_8 hf
            refine lv_iconst (v := 3) hx hb dX9_arrayLoad_74 (by decide) ?_
            refine lv_goto (tgt := 99) hx hb dX9_arrayLoad_75 (by decide) ?_
            obtain ⟨r_14, h_14, hf⟩ := x_bi hf
            have hPc := hP.sub (ws' := [(o9, .inr (9, x_O9 v9_0 v9_1 v9_2 v9_3 a9_4 a9_5 a9_6 a9_7 a9_8 a9_9 a9_10 a9_11 a9_12 v9_13 v9_14 v9_15 v9_16 v9_17 v9_18 a9_19 v9_20 v9_21 v9_22 a9_23 a9_24 a9_25 a9_26 a9_27 a9_28 a9_29 a9_30 a9_31 a9_32 a9_33 a9_34 (r_5.2) v9_36 a9_37 a9_38 a9_39 a9_40 a9_41 v9_42 a9_43 a9_44 a9_45 a9_46 a9_47 v9_48 v9_49 v9_50 v9_51 a9_52 a9_53 v9_54 v9_55 a9_56 a9_57 v9_58 a9_59 a9_60 a9_61)), (a9_34, .inl (cyI, 202, .inl g9_34))]) [0, 1] rfl
            have hDc := hD.sub (ws' := [(o9, .inr (9, x_O9 v9_0 v9_1 v9_2 v9_3 a9_4 a9_5 a9_6 a9_7 a9_8 a9_9 a9_10 a9_11 a9_12 v9_13 v9_14 v9_15 v9_16 v9_17 v9_18 a9_19 v9_20 v9_21 v9_22 a9_23 a9_24 a9_25 a9_26 a9_27 a9_28 a9_29 a9_30 a9_31 a9_32 a9_33 a9_34 (r_5.2) v9_36 a9_37 a9_38 a9_39 a9_40 a9_41 v9_42 a9_43 a9_44 a9_45 a9_46 a9_47 v9_48 v9_49 v9_50 v9_51 a9_52 a9_53 v9_54 v9_55 a9_56 a9_57 v9_58 a9_59 a9_60 a9_61)), (a9_34, .inl (cyI, 202, .inl g9_34))]) [0, 1] (by decide) rfl
            have hFc := va_free (wc := [(o9, .inr (9, x_O9 v9_0 v9_1 v9_2 v9_3 a9_4 a9_5 a9_6 a9_7 a9_8 a9_9 a9_10 a9_11 a9_12 v9_13 v9_14 v9_15 v9_16 v9_17 v9_18 a9_19 v9_20 v9_21 v9_22 a9_23 a9_24 a9_25 a9_26 a9_27 a9_28 a9_29 a9_30 a9_31 a9_32 a9_33 a9_34 (r_5.2) v9_36 a9_37 a9_38 a9_39 a9_40 a9_41 v9_42 a9_43 a9_44 a9_45 a9_46 a9_47 v9_48 v9_49 v9_50 v9_51 a9_52 a9_53 v9_54 v9_55 a9_56 a9_57 v9_58 a9_59 a9_60 a9_61)), (a9_34, .inl (cyI, 202, .inl g9_34))]) hD hS hA [0, 1] rfl
            refine va_calli (va_runV (As := [.int 3]) (rest := []) ⟨hx, hb, hml, hown, hts⟩ (c_X9_push l dC dI cyI cyZ cyJ H.size o9 v9_0 v9_1 v9_2 v9_3 a9_4 a9_5 a9_6 a9_7 a9_8 a9_9 a9_10 a9_11 a9_12 v9_13 v9_14 v9_15 v9_16 v9_17 v9_18 a9_19 v9_20 v9_21 v9_22 a9_23 a9_24 a9_25 a9_26 a9_27 a9_28 a9_29 a9_30 a9_31 a9_32 a9_33 a9_34 r_5.2 v9_36 a9_37 a9_38 a9_39 a9_40 a9_41 v9_42 a9_43 a9_44 a9_45 a9_46 a9_47 v9_48 v9_49 v9_50 v9_51 a9_52 a9_53 v9_54 v9_55 a9_56 a9_57 v9_58 a9_59 a9_60 a9_61 g9_34 3 r_14 h_14) (cwV 1 hts gX9_arrayLoad_X9_push rfl rfl rfl (by decide +kernel) ⟨Nat.le_of_ble_eq_true rfl, Nat.le_of_ble_eq_true rfl⟩) (x_pVD hN hK hPc hDc (ci := 9) (q0 := 0) rfl rfl) rfl rfl hl.1 rfl (lv_room (Nat.le_of_ble_eq_true rfl)) dX9_arrayLoad_99 ⟨Nat.le_of_ble_eq_true rfl, Nat.le_of_ble_eq_true rfl⟩) hS (fun q _ h => hFc q h) hFc (fun q_14 u t H1 locs ht hvm hw hB hz1 hk1 hS => ?_)
            obtain ⟨hP1, hK1, hD1⟩ := hB
            rw [ht] at hP1
            obtain ⟨hP, hD⟩ := va_join (wr := []) (w1 := [(o9, .inr (9, x_O9 v9_0 v9_1 v9_2 v9_3 a9_4 a9_5 a9_6 a9_7 a9_8 a9_9 a9_10 a9_11 a9_12 v9_13 v9_14 v9_15 v9_16 v9_17 v9_18 a9_19 v9_20 v9_21 v9_22 a9_23 a9_24 a9_25 a9_26 a9_27 a9_28 a9_29 a9_30 a9_31 a9_32 a9_33 a9_34 (r_14.2.1) v9_36 a9_37 a9_38 a9_39 a9_40 a9_41 v9_42 a9_43 a9_44 a9_45 a9_46 a9_47 v9_48 v9_49 v9_50 v9_51 a9_52 a9_53 v9_54 v9_55 a9_56 a9_57 v9_58 a9_59 a9_60 a9_61)), (a9_34, .inl (cyI, 202, .inl r_14.2.2))]) hP hD [0, 1] [] rfl rfl (by decide) (by decide) hk1 hFc hP1 hD1
            clear hz1 hk1 hPc hDc hFc hP1 hK1 hD1 ht hvm t u
            generalize H1 = H at hP hS ⊢
            have hP : va_P (dC, dI) vwCl [(o9, .inr (9, x_O9 v9_0 v9_1 v9_2 v9_3 a9_4 a9_5 a9_6 a9_7 a9_8 a9_9 a9_10 a9_11 a9_12 v9_13 v9_14 v9_15 v9_16 v9_17 v9_18 a9_19 v9_20 v9_21 v9_22 a9_23 a9_24 a9_25 a9_26 a9_27 a9_28 a9_29 a9_30 a9_31 a9_32 a9_33 a9_34 (r_14.2.1) v9_36 a9_37 a9_38 a9_39 a9_40 a9_41 v9_42 a9_43 a9_44 a9_45 a9_46 a9_47 v9_48 v9_49 v9_50 v9_51 a9_52 a9_53 v9_54 v9_55 a9_56 a9_57 v9_58 a9_59 a9_60 a9_61)), (a9_34, .inl (cyI, 202, .inl r_14.2.2))] H := hP
            have hD : va_D A [(o9, .inr (9, x_O9 v9_0 v9_1 v9_2 v9_3 a9_4 a9_5 a9_6 a9_7 a9_8 a9_9 a9_10 a9_11 a9_12 v9_13 v9_14 v9_15 v9_16 v9_17 v9_18 a9_19 v9_20 v9_21 v9_22 a9_23 a9_24 a9_25 a9_26 a9_27 a9_28 a9_29 a9_30 a9_31 a9_32 a9_33 a9_34 (r_14.2.1) v9_36 a9_37 a9_38 a9_39 a9_40 a9_41 v9_42 a9_43 a9_44 a9_45 a9_46 a9_47 v9_48 v9_49 v9_50 v9_51 a9_52 a9_53 v9_54 v9_55 a9_56 a9_57 v9_58 a9_59 a9_60 a9_61)), (a9_34, .inl (cyI, 202, .inl r_14.2.2))] := hD
            obtain ⟨hw, b_14⟩ := hw
            obtain rfl := hw.symm
            obtain rfl := Option.some.inj hf
            have hP9 := hP.sub (ws' := [(o9, .inr (9, x_O9 v9_0 v9_1 v9_2 v9_3 a9_4 a9_5 a9_6 a9_7 a9_8 a9_9 a9_10 a9_11 a9_12 v9_13 v9_14 v9_15 v9_16 v9_17 v9_18 a9_19 v9_20 v9_21 v9_22 a9_23 a9_24 a9_25 a9_26 a9_27 a9_28 a9_29 a9_30 a9_31 a9_32 a9_33 a9_34 (r_14.2.1) v9_36 a9_37 a9_38 a9_39 a9_40 a9_41 v9_42 a9_43 a9_44 a9_45 a9_46 a9_47 v9_48 v9_49 v9_50 v9_51 a9_52 a9_53 v9_54 v9_55 a9_56 a9_57 v9_58 a9_59 a9_60 a9_61)), (a9_34, .inl (cyI, 202, .inl r_14.2.2))]) [0, 1] rfl
            have hD9 := hD.sub (ws' := [(o9, .inr (9, x_O9 v9_0 v9_1 v9_2 v9_3 a9_4 a9_5 a9_6 a9_7 a9_8 a9_9 a9_10 a9_11 a9_12 v9_13 v9_14 v9_15 v9_16 v9_17 v9_18 a9_19 v9_20 v9_21 v9_22 a9_23 a9_24 a9_25 a9_26 a9_27 a9_28 a9_29 a9_30 a9_31 a9_32 a9_33 a9_34 (r_14.2.1) v9_36 a9_37 a9_38 a9_39 a9_40 a9_41 v9_42 a9_43 a9_44 a9_45 a9_46 a9_47 v9_48 v9_49 v9_50 v9_51 a9_52 a9_53 v9_54 v9_55 a9_56 a9_57 v9_58 a9_59 a9_60 a9_61)), (a9_34, .inl (cyI, 202, .inl r_14.2.2))]) [0, 1] (by decide) rfl
            exact W.zret (ty := .boolean) hx hb hr b_14 (fun t ht hW => ⟨⟨_, (), rfl, ⟨rfl, b_14⟩, by rw [ht]; exact hP9, va_K.moved hW.alike hK, hD9⟩, hS.F ht⟩) hS.2.2 dX9_arrayLoad_102
        · replace hf := x_ip c_7 hf
          refine lv_aload_n hx hb dX9_arrayLoad_48 rfl (lv_at hl 1 rfl) ?_
          refine lv_iload_n hx hb dX9_arrayLoad_49 rfl (lv_at hl 0 rfl) ?_
          refine lv_iconst (v := 5) hx hb dX9_arrayLoad_50 (by decide) ?_
          refine lv_icmp_ne (tgt := 58) hx hb dX9_arrayLoad_51 (by decide) (fun c_15 => ?_) (fun c_15 => ?_)
          · replace hf := x_in c_15 hf
            refine lv_iload_n hx hb dX9_arrayLoad_58 rfl (lv_at hl 0 rfl) ?_
            refine lv_ldcw (v := 1048576) hx hb hown k_3 dX9_arrayLoad_59 ?_
            refine lv_isub hx hb dX9_arrayLoad_62 ?_
            obtain ⟨r_16, h_16, hf⟩ := x_bi hf
            have hPc := hP.sub (ws' := [(o9, .inr (9, x_O9 v9_0 v9_1 v9_2 v9_3 a9_4 a9_5 a9_6 a9_7 a9_8 a9_9 a9_10 a9_11 a9_12 v9_13 v9_14 v9_15 v9_16 v9_17 v9_18 a9_19 v9_20 v9_21 v9_22 a9_23 a9_24 a9_25 a9_26 a9_27 a9_28 a9_29 a9_30 a9_31 a9_32 a9_33 a9_34 (r_5.2) v9_36 a9_37 a9_38 a9_39 a9_40 a9_41 v9_42 a9_43 a9_44 a9_45 a9_46 a9_47 v9_48 v9_49 v9_50 v9_51 a9_52 a9_53 v9_54 v9_55 a9_56 a9_57 v9_58 a9_59 a9_60 a9_61)), (a9_34, .inl (cyI, 202, .inl g9_34))]) [0, 1] rfl
            have hDc := hD.sub (ws' := [(o9, .inr (9, x_O9 v9_0 v9_1 v9_2 v9_3 a9_4 a9_5 a9_6 a9_7 a9_8 a9_9 a9_10 a9_11 a9_12 v9_13 v9_14 v9_15 v9_16 v9_17 v9_18 a9_19 v9_20 v9_21 v9_22 a9_23 a9_24 a9_25 a9_26 a9_27 a9_28 a9_29 a9_30 a9_31 a9_32 a9_33 a9_34 (r_5.2) v9_36 a9_37 a9_38 a9_39 a9_40 a9_41 v9_42 a9_43 a9_44 a9_45 a9_46 a9_47 v9_48 v9_49 v9_50 v9_51 a9_52 a9_53 v9_54 v9_55 a9_56 a9_57 v9_58 a9_59 a9_60 a9_61)), (a9_34, .inl (cyI, 202, .inl g9_34))]) [0, 1] (by decide) rfl
            have hFc := va_free (wc := [(o9, .inr (9, x_O9 v9_0 v9_1 v9_2 v9_3 a9_4 a9_5 a9_6 a9_7 a9_8 a9_9 a9_10 a9_11 a9_12 v9_13 v9_14 v9_15 v9_16 v9_17 v9_18 a9_19 v9_20 v9_21 v9_22 a9_23 a9_24 a9_25 a9_26 a9_27 a9_28 a9_29 a9_30 a9_31 a9_32 a9_33 a9_34 (r_5.2) v9_36 a9_37 a9_38 a9_39 a9_40 a9_41 v9_42 a9_43 a9_44 a9_45 a9_46 a9_47 v9_48 v9_49 v9_50 v9_51 a9_52 a9_53 v9_54 v9_55 a9_56 a9_57 v9_58 a9_59 a9_60 a9_61)), (a9_34, .inl (cyI, 202, .inl g9_34))]) hD hS hA [0, 1] rfl
            refine va_calli (va_runV (As := [.int ((g9_34 (Int32.toNatClampNeg (r_1.2 - (1 : Int32)))) - (1048576 : Int32))]) (rest := []) ⟨hx, hb, hml, hown, hts⟩ (c_X9_push l dC dI cyI cyZ cyJ H.size o9 v9_0 v9_1 v9_2 v9_3 a9_4 a9_5 a9_6 a9_7 a9_8 a9_9 a9_10 a9_11 a9_12 v9_13 v9_14 v9_15 v9_16 v9_17 v9_18 a9_19 v9_20 v9_21 v9_22 a9_23 a9_24 a9_25 a9_26 a9_27 a9_28 a9_29 a9_30 a9_31 a9_32 a9_33 a9_34 r_5.2 v9_36 a9_37 a9_38 a9_39 a9_40 a9_41 v9_42 a9_43 a9_44 a9_45 a9_46 a9_47 v9_48 v9_49 v9_50 v9_51 a9_52 a9_53 v9_54 v9_55 a9_56 a9_57 v9_58 a9_59 a9_60 a9_61 g9_34 ((g9_34 (Int32.toNatClampNeg (r_1.2 - (1 : Int32)))) - (1048576 : Int32)) r_16 h_16) (cwV 1 hts gX9_arrayLoad_X9_push rfl rfl rfl (by decide +kernel) ⟨Nat.le_of_ble_eq_true rfl, Nat.le_of_ble_eq_true rfl⟩) (x_pVD hN hK hPc hDc (ci := 9) (q0 := 0) rfl rfl) rfl rfl hl.1 rfl (lv_room (Nat.le_of_ble_eq_true rfl)) dX9_arrayLoad_63 ⟨Nat.le_of_ble_eq_true rfl, Nat.le_of_ble_eq_true rfl⟩) hS (fun q _ h => hFc q h) hFc (fun q_16 u t H1 locs ht hvm hw hB hz1 hk1 hS => ?_)
            obtain ⟨hP1, hK1, hD1⟩ := hB
            rw [ht] at hP1
            obtain ⟨hP, hD⟩ := va_join (wr := []) (w1 := [(o9, .inr (9, x_O9 v9_0 v9_1 v9_2 v9_3 a9_4 a9_5 a9_6 a9_7 a9_8 a9_9 a9_10 a9_11 a9_12 v9_13 v9_14 v9_15 v9_16 v9_17 v9_18 a9_19 v9_20 v9_21 v9_22 a9_23 a9_24 a9_25 a9_26 a9_27 a9_28 a9_29 a9_30 a9_31 a9_32 a9_33 a9_34 (r_16.2.1) v9_36 a9_37 a9_38 a9_39 a9_40 a9_41 v9_42 a9_43 a9_44 a9_45 a9_46 a9_47 v9_48 v9_49 v9_50 v9_51 a9_52 a9_53 v9_54 v9_55 a9_56 a9_57 v9_58 a9_59 a9_60 a9_61)), (a9_34, .inl (cyI, 202, .inl r_16.2.2))]) hP hD [0, 1] [] rfl rfl (by decide) (by decide) hk1 hFc hP1 hD1
            clear hz1 hk1 hPc hDc hFc hP1 hK1 hD1 ht hvm t u
            generalize H1 = H at hP hS ⊢
            have hP : va_P (dC, dI) vwCl [(o9, .inr (9, x_O9 v9_0 v9_1 v9_2 v9_3 a9_4 a9_5 a9_6 a9_7 a9_8 a9_9 a9_10 a9_11 a9_12 v9_13 v9_14 v9_15 v9_16 v9_17 v9_18 a9_19 v9_20 v9_21 v9_22 a9_23 a9_24 a9_25 a9_26 a9_27 a9_28 a9_29 a9_30 a9_31 a9_32 a9_33 a9_34 (r_16.2.1) v9_36 a9_37 a9_38 a9_39 a9_40 a9_41 v9_42 a9_43 a9_44 a9_45 a9_46 a9_47 v9_48 v9_49 v9_50 v9_51 a9_52 a9_53 v9_54 v9_55 a9_56 a9_57 v9_58 a9_59 a9_60 a9_61)), (a9_34, .inl (cyI, 202, .inl r_16.2.2))] H := hP
            have hD : va_D A [(o9, .inr (9, x_O9 v9_0 v9_1 v9_2 v9_3 a9_4 a9_5 a9_6 a9_7 a9_8 a9_9 a9_10 a9_11 a9_12 v9_13 v9_14 v9_15 v9_16 v9_17 v9_18 a9_19 v9_20 v9_21 v9_22 a9_23 a9_24 a9_25 a9_26 a9_27 a9_28 a9_29 a9_30 a9_31 a9_32 a9_33 a9_34 (r_16.2.1) v9_36 a9_37 a9_38 a9_39 a9_40 a9_41 v9_42 a9_43 a9_44 a9_45 a9_46 a9_47 v9_48 v9_49 v9_50 v9_51 a9_52 a9_53 v9_54 v9_55 a9_56 a9_57 v9_58 a9_59 a9_60 a9_61)), (a9_34, .inl (cyI, 202, .inl r_16.2.2))] := hD
            obtain ⟨hw, b_16⟩ := hw
            obtain rfl := hw.symm
            obtain rfl := Option.some.inj hf
            have hP9 := hP.sub (ws' := [(o9, .inr (9, x_O9 v9_0 v9_1 v9_2 v9_3 a9_4 a9_5 a9_6 a9_7 a9_8 a9_9 a9_10 a9_11 a9_12 v9_13 v9_14 v9_15 v9_16 v9_17 v9_18 a9_19 v9_20 v9_21 v9_22 a9_23 a9_24 a9_25 a9_26 a9_27 a9_28 a9_29 a9_30 a9_31 a9_32 a9_33 a9_34 (r_16.2.1) v9_36 a9_37 a9_38 a9_39 a9_40 a9_41 v9_42 a9_43 a9_44 a9_45 a9_46 a9_47 v9_48 v9_49 v9_50 v9_51 a9_52 a9_53 v9_54 v9_55 a9_56 a9_57 v9_58 a9_59 a9_60 a9_61)), (a9_34, .inl (cyI, 202, .inl r_16.2.2))]) [0, 1] rfl
            have hD9 := hD.sub (ws' := [(o9, .inr (9, x_O9 v9_0 v9_1 v9_2 v9_3 a9_4 a9_5 a9_6 a9_7 a9_8 a9_9 a9_10 a9_11 a9_12 v9_13 v9_14 v9_15 v9_16 v9_17 v9_18 a9_19 v9_20 v9_21 v9_22 a9_23 a9_24 a9_25 a9_26 a9_27 a9_28 a9_29 a9_30 a9_31 a9_32 a9_33 a9_34 (r_16.2.1) v9_36 a9_37 a9_38 a9_39 a9_40 a9_41 v9_42 a9_43 a9_44 a9_45 a9_46 a9_47 v9_48 v9_49 v9_50 v9_51 a9_52 a9_53 v9_54 v9_55 a9_56 a9_57 v9_58 a9_59 a9_60 a9_61)), (a9_34, .inl (cyI, 202, .inl r_16.2.2))]) [0, 1] (by decide) rfl
            exact W.zret (ty := .boolean) hx hb hr b_16 (fun t ht hW => ⟨⟨_, (), rfl, ⟨rfl, b_16⟩, by rw [ht]; exact hP9, va_K.moved hW.alike hK, hD9⟩, hS.F ht⟩) hS.2.2 dX9_arrayLoad_66
          · replace hf := x_ip c_15 hf
            refine lv_iconst (v := 5) hx hb dX9_arrayLoad_54 (by decide) ?_
            refine lv_goto (tgt := 63) hx hb dX9_arrayLoad_55 (by decide) ?_
            obtain ⟨r_17, h_17, hf⟩ := x_bi hf
            have hPc := hP.sub (ws' := [(o9, .inr (9, x_O9 v9_0 v9_1 v9_2 v9_3 a9_4 a9_5 a9_6 a9_7 a9_8 a9_9 a9_10 a9_11 a9_12 v9_13 v9_14 v9_15 v9_16 v9_17 v9_18 a9_19 v9_20 v9_21 v9_22 a9_23 a9_24 a9_25 a9_26 a9_27 a9_28 a9_29 a9_30 a9_31 a9_32 a9_33 a9_34 (r_5.2) v9_36 a9_37 a9_38 a9_39 a9_40 a9_41 v9_42 a9_43 a9_44 a9_45 a9_46 a9_47 v9_48 v9_49 v9_50 v9_51 a9_52 a9_53 v9_54 v9_55 a9_56 a9_57 v9_58 a9_59 a9_60 a9_61)), (a9_34, .inl (cyI, 202, .inl g9_34))]) [0, 1] rfl
            have hDc := hD.sub (ws' := [(o9, .inr (9, x_O9 v9_0 v9_1 v9_2 v9_3 a9_4 a9_5 a9_6 a9_7 a9_8 a9_9 a9_10 a9_11 a9_12 v9_13 v9_14 v9_15 v9_16 v9_17 v9_18 a9_19 v9_20 v9_21 v9_22 a9_23 a9_24 a9_25 a9_26 a9_27 a9_28 a9_29 a9_30 a9_31 a9_32 a9_33 a9_34 (r_5.2) v9_36 a9_37 a9_38 a9_39 a9_40 a9_41 v9_42 a9_43 a9_44 a9_45 a9_46 a9_47 v9_48 v9_49 v9_50 v9_51 a9_52 a9_53 v9_54 v9_55 a9_56 a9_57 v9_58 a9_59 a9_60 a9_61)), (a9_34, .inl (cyI, 202, .inl g9_34))]) [0, 1] (by decide) rfl
            have hFc := va_free (wc := [(o9, .inr (9, x_O9 v9_0 v9_1 v9_2 v9_3 a9_4 a9_5 a9_6 a9_7 a9_8 a9_9 a9_10 a9_11 a9_12 v9_13 v9_14 v9_15 v9_16 v9_17 v9_18 a9_19 v9_20 v9_21 v9_22 a9_23 a9_24 a9_25 a9_26 a9_27 a9_28 a9_29 a9_30 a9_31 a9_32 a9_33 a9_34 (r_5.2) v9_36 a9_37 a9_38 a9_39 a9_40 a9_41 v9_42 a9_43 a9_44 a9_45 a9_46 a9_47 v9_48 v9_49 v9_50 v9_51 a9_52 a9_53 v9_54 v9_55 a9_56 a9_57 v9_58 a9_59 a9_60 a9_61)), (a9_34, .inl (cyI, 202, .inl g9_34))]) hD hS hA [0, 1] rfl
            refine va_calli (va_runV (As := [.int 5]) (rest := []) ⟨hx, hb, hml, hown, hts⟩ (c_X9_push l dC dI cyI cyZ cyJ H.size o9 v9_0 v9_1 v9_2 v9_3 a9_4 a9_5 a9_6 a9_7 a9_8 a9_9 a9_10 a9_11 a9_12 v9_13 v9_14 v9_15 v9_16 v9_17 v9_18 a9_19 v9_20 v9_21 v9_22 a9_23 a9_24 a9_25 a9_26 a9_27 a9_28 a9_29 a9_30 a9_31 a9_32 a9_33 a9_34 r_5.2 v9_36 a9_37 a9_38 a9_39 a9_40 a9_41 v9_42 a9_43 a9_44 a9_45 a9_46 a9_47 v9_48 v9_49 v9_50 v9_51 a9_52 a9_53 v9_54 v9_55 a9_56 a9_57 v9_58 a9_59 a9_60 a9_61 g9_34 5 r_17 h_17) (cwV 1 hts gX9_arrayLoad_X9_push rfl rfl rfl (by decide +kernel) ⟨Nat.le_of_ble_eq_true rfl, Nat.le_of_ble_eq_true rfl⟩) (x_pVD hN hK hPc hDc (ci := 9) (q0 := 0) rfl rfl) rfl rfl hl.1 rfl (lv_room (Nat.le_of_ble_eq_true rfl)) dX9_arrayLoad_63 ⟨Nat.le_of_ble_eq_true rfl, Nat.le_of_ble_eq_true rfl⟩) hS (fun q _ h => hFc q h) hFc (fun q_17 u t H1 locs ht hvm hw hB hz1 hk1 hS => ?_)
            obtain ⟨hP1, hK1, hD1⟩ := hB
            rw [ht] at hP1
            obtain ⟨hP, hD⟩ := va_join (wr := []) (w1 := [(o9, .inr (9, x_O9 v9_0 v9_1 v9_2 v9_3 a9_4 a9_5 a9_6 a9_7 a9_8 a9_9 a9_10 a9_11 a9_12 v9_13 v9_14 v9_15 v9_16 v9_17 v9_18 a9_19 v9_20 v9_21 v9_22 a9_23 a9_24 a9_25 a9_26 a9_27 a9_28 a9_29 a9_30 a9_31 a9_32 a9_33 a9_34 (r_17.2.1) v9_36 a9_37 a9_38 a9_39 a9_40 a9_41 v9_42 a9_43 a9_44 a9_45 a9_46 a9_47 v9_48 v9_49 v9_50 v9_51 a9_52 a9_53 v9_54 v9_55 a9_56 a9_57 v9_58 a9_59 a9_60 a9_61)), (a9_34, .inl (cyI, 202, .inl r_17.2.2))]) hP hD [0, 1] [] rfl rfl (by decide) (by decide) hk1 hFc hP1 hD1
            clear hz1 hk1 hPc hDc hFc hP1 hK1 hD1 ht hvm t u
            generalize H1 = H at hP hS ⊢
            have hP : va_P (dC, dI) vwCl [(o9, .inr (9, x_O9 v9_0 v9_1 v9_2 v9_3 a9_4 a9_5 a9_6 a9_7 a9_8 a9_9 a9_10 a9_11 a9_12 v9_13 v9_14 v9_15 v9_16 v9_17 v9_18 a9_19 v9_20 v9_21 v9_22 a9_23 a9_24 a9_25 a9_26 a9_27 a9_28 a9_29 a9_30 a9_31 a9_32 a9_33 a9_34 (r_17.2.1) v9_36 a9_37 a9_38 a9_39 a9_40 a9_41 v9_42 a9_43 a9_44 a9_45 a9_46 a9_47 v9_48 v9_49 v9_50 v9_51 a9_52 a9_53 v9_54 v9_55 a9_56 a9_57 v9_58 a9_59 a9_60 a9_61)), (a9_34, .inl (cyI, 202, .inl r_17.2.2))] H := hP
            have hD : va_D A [(o9, .inr (9, x_O9 v9_0 v9_1 v9_2 v9_3 a9_4 a9_5 a9_6 a9_7 a9_8 a9_9 a9_10 a9_11 a9_12 v9_13 v9_14 v9_15 v9_16 v9_17 v9_18 a9_19 v9_20 v9_21 v9_22 a9_23 a9_24 a9_25 a9_26 a9_27 a9_28 a9_29 a9_30 a9_31 a9_32 a9_33 a9_34 (r_17.2.1) v9_36 a9_37 a9_38 a9_39 a9_40 a9_41 v9_42 a9_43 a9_44 a9_45 a9_46 a9_47 v9_48 v9_49 v9_50 v9_51 a9_52 a9_53 v9_54 v9_55 a9_56 a9_57 v9_58 a9_59 a9_60 a9_61)), (a9_34, .inl (cyI, 202, .inl r_17.2.2))] := hD
            obtain ⟨hw, b_17⟩ := hw
            obtain rfl := hw.symm
            obtain rfl := Option.some.inj hf
            have hP9 := hP.sub (ws' := [(o9, .inr (9, x_O9 v9_0 v9_1 v9_2 v9_3 a9_4 a9_5 a9_6 a9_7 a9_8 a9_9 a9_10 a9_11 a9_12 v9_13 v9_14 v9_15 v9_16 v9_17 v9_18 a9_19 v9_20 v9_21 v9_22 a9_23 a9_24 a9_25 a9_26 a9_27 a9_28 a9_29 a9_30 a9_31 a9_32 a9_33 a9_34 (r_17.2.1) v9_36 a9_37 a9_38 a9_39 a9_40 a9_41 v9_42 a9_43 a9_44 a9_45 a9_46 a9_47 v9_48 v9_49 v9_50 v9_51 a9_52 a9_53 v9_54 v9_55 a9_56 a9_57 v9_58 a9_59 a9_60 a9_61)), (a9_34, .inl (cyI, 202, .inl r_17.2.2))]) [0, 1] rfl
            have hD9 := hD.sub (ws' := [(o9, .inr (9, x_O9 v9_0 v9_1 v9_2 v9_3 a9_4 a9_5 a9_6 a9_7 a9_8 a9_9 a9_10 a9_11 a9_12 v9_13 v9_14 v9_15 v9_16 v9_17 v9_18 a9_19 v9_20 v9_21 v9_22 a9_23 a9_24 a9_25 a9_26 a9_27 a9_28 a9_29 a9_30 a9_31 a9_32 a9_33 a9_34 (r_17.2.1) v9_36 a9_37 a9_38 a9_39 a9_40 a9_41 v9_42 a9_43 a9_44 a9_45 a9_46 a9_47 v9_48 v9_49 v9_50 v9_51 a9_52 a9_53 v9_54 v9_55 a9_56 a9_57 v9_58 a9_59 a9_60 a9_61)), (a9_34, .inl (cyI, 202, .inl r_17.2.2))]) [0, 1] (by decide) rfl
            exact W.zret (ty := .boolean) hx hb hr b_17 (fun t ht hW => ⟨⟨_, (), rfl, ⟨rfl, b_17⟩, by rw [ht]; exact hP9, va_K.moved hW.alike hK, hD9⟩, hS.F ht⟩) hS.2.2 dX9_arrayLoad_66
      · replace hf := x_ip c_6 hf
        refine lv_iconst (v := 0) hx hb dX9_arrayLoad_40 (by decide) ?_
        obtain rfl := Option.some.inj hf
        have hP9 := hP.sub (ws' := [(o9, .inr (9, x_O9 v9_0 v9_1 v9_2 v9_3 a9_4 a9_5 a9_6 a9_7 a9_8 a9_9 a9_10 a9_11 a9_12 v9_13 v9_14 v9_15 v9_16 v9_17 v9_18 a9_19 v9_20 v9_21 v9_22 a9_23 a9_24 a9_25 a9_26 a9_27 a9_28 a9_29 a9_30 a9_31 a9_32 a9_33 a9_34 (r_5.2) v9_36 a9_37 a9_38 a9_39 a9_40 a9_41 v9_42 a9_43 a9_44 a9_45 a9_46 a9_47 v9_48 v9_49 v9_50 v9_51 a9_52 a9_53 v9_54 v9_55 a9_56 a9_57 v9_58 a9_59 a9_60 a9_61)), (a9_34, .inl (cyI, 202, .inl g9_34))]) [0, 1] rfl
        have hD9 := hD.sub (ws' := [(o9, .inr (9, x_O9 v9_0 v9_1 v9_2 v9_3 a9_4 a9_5 a9_6 a9_7 a9_8 a9_9 a9_10 a9_11 a9_12 v9_13 v9_14 v9_15 v9_16 v9_17 v9_18 a9_19 v9_20 v9_21 v9_22 a9_23 a9_24 a9_25 a9_26 a9_27 a9_28 a9_29 a9_30 a9_31 a9_32 a9_33 a9_34 (r_5.2) v9_36 a9_37 a9_38 a9_39 a9_40 a9_41 v9_42 a9_43 a9_44 a9_45 a9_46 a9_47 v9_48 v9_49 v9_50 v9_51 a9_52 a9_53 v9_54 v9_55 a9_56 a9_57 v9_58 a9_59 a9_60 a9_61)), (a9_34, .inl (cyI, 202, .inl g9_34))]) [0, 1] (by decide) rfl
        exact W.zret (ty := .boolean) hx hb hr rfl (fun t ht hW => ⟨⟨_, (), rfl, ⟨rfl, rfl⟩, by rw [ht]; exact hP9, va_K.moved hW.alike hK, hD9⟩, hS.F ht⟩) hS.2.2 dX9_arrayLoad_41
    · replace hf := x_ip c_3 hf
      refine lv_iconst (v := 0) hx hb dX9_arrayLoad_15 (by decide) ?_
      obtain rfl := Option.some.inj hf
      have hP9 := hP.sub (ws' := [(o9, .inr (9, x_O9 v9_0 v9_1 v9_2 v9_3 a9_4 a9_5 a9_6 a9_7 a9_8 a9_9 a9_10 a9_11 a9_12 v9_13 v9_14 v9_15 v9_16 v9_17 v9_18 a9_19 v9_20 v9_21 v9_22 a9_23 a9_24 a9_25 a9_26 a9_27 a9_28 a9_29 a9_30 a9_31 a9_32 a9_33 a9_34 (r_1.2) v9_36 a9_37 a9_38 a9_39 a9_40 a9_41 v9_42 a9_43 a9_44 a9_45 a9_46 a9_47 v9_48 v9_49 v9_50 v9_51 a9_52 a9_53 v9_54 v9_55 a9_56 a9_57 v9_58 a9_59 a9_60 a9_61)), (a9_34, .inl (cyI, 202, .inl g9_34))]) [0, 1] rfl
      have hD9 := hD.sub (ws' := [(o9, .inr (9, x_O9 v9_0 v9_1 v9_2 v9_3 a9_4 a9_5 a9_6 a9_7 a9_8 a9_9 a9_10 a9_11 a9_12 v9_13 v9_14 v9_15 v9_16 v9_17 v9_18 a9_19 v9_20 v9_21 v9_22 a9_23 a9_24 a9_25 a9_26 a9_27 a9_28 a9_29 a9_30 a9_31 a9_32 a9_33 a9_34 (r_1.2) v9_36 a9_37 a9_38 a9_39 a9_40 a9_41 v9_42 a9_43 a9_44 a9_45 a9_46 a9_47 v9_48 v9_49 v9_50 v9_51 a9_52 a9_53 v9_54 v9_55 a9_56 a9_57 v9_58 a9_59 a9_60 a9_61)), (a9_34, .inl (cyI, 202, .inl g9_34))]) [0, 1] (by decide) rfl
      exact W.zret (ty := .boolean) hx hb hr rfl (fun t ht hW => ⟨⟨_, (), rfl, ⟨rfl, rfl⟩, by rw [ht]; exact hP9, va_K.moved hW.alike hK, hD9⟩, hS.F ht⟩) hS.2.2 dX9_arrayLoad_16

