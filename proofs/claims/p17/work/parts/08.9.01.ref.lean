def f_X9_push (v9_17 : Int32) (v9_35 : Int32) (g9_34 : Nat → Int32) (p1 : Int32) : Option (Int32 × Int32 × (Nat → Int32)) := if p1 = (3 : Int32) then if (v9_35 + (2 : Int32)) ≤ v9_17 then if x_gd v9_35 202 = true then if x_gd (v9_35 + (1 : Int32)) 202 = true then some (1, (v9_35 + (1 : Int32)) + (1 : Int32), upd (upd g9_34 (Int32.toNatClampNeg v9_35) p1) (Int32.toNatClampNeg (v9_35 + (1 : Int32))) 7) else none else none else some (0, v9_35, g9_34) else if p1 = (4 : Int32) then if (v9_35 + (2 : Int32)) ≤ v9_17 then if x_gd v9_35 202 = true then if x_gd (v9_35 + (1 : Int32)) 202 = true then some (1, (v9_35 + (1 : Int32)) + (1 : Int32), upd (upd g9_34 (Int32.toNatClampNeg v9_35) p1) (Int32.toNatClampNeg (v9_35 + (1 : Int32))) 7) else none else none else some (0, v9_35, g9_34) else if (v9_35 + (1 : Int32)) ≤ v9_17 then if x_gd v9_35 202 = true then some (1, v9_35 + (1 : Int32), upd g9_34 (Int32.toNatClampNeg v9_35) p1) else none else some (0, v9_35, g9_34)
theorem i_X9_push_X9 : ∀ w ∈ wsX90, w ∈ wsX9_push := fun _ h => List.mem_cons_of_mem _ (List.mem_append_right _ h)
set_option maxHeartbeats 4000000 in
set_option maxRecDepth 100000 in
theorem c_X9_push (l : Launch) (dC : Nat → ClassId) (dI : Nat → Nat → Nat) (cyI cyZ cyJ : ClassId) (sz : Nat) (o9 : Nat) (v9_0 : Int32) (v9_1 : Int32) (v9_2 : Int32) (v9_3 : Int32) (a9_4 : Nat) (a9_5 : Nat) (a9_6 : Nat) (a9_7 : Nat) (a9_8 : Nat) (a9_9 : Nat) (a9_10 : Nat) (a9_11 : Nat) (a9_12 : Nat) (v9_13 : Int32) (v9_14 : Int32) (v9_15 : Int32) (v9_16 : Int32) (v9_17 : Int32) (v9_18 : Int32) (a9_19 : Nat) (v9_20 : Int32) (v9_21 : Int32) (v9_22 : Int32) (a9_23 : Nat) (a9_24 : Nat) (a9_25 : Nat) (a9_26 : Nat) (a9_27 : Nat) (a9_28 : Nat) (a9_29 : Nat) (a9_30 : Nat) (a9_31 : Nat) (a9_32 : Nat) (a9_33 : Nat) (a9_34 : Nat) (v9_35 : Int32) (v9_36 : Int32) (a9_37 : Nat) (a9_38 : Nat) (a9_39 : Nat) (a9_40 : Nat) (a9_41 : Nat) (v9_42 : Int32) (a9_43 : Nat) (a9_44 : Nat) (a9_45 : Nat) (a9_46 : Nat) (a9_47 : Nat) (v9_48 : Int32) (v9_49 : Int32) (v9_50 : Int32) (v9_51 : Int32) (a9_52 : Nat) (a9_53 : Nat) (v9_54 : Int32) (v9_55 : Int32) (a9_56 : Nat) (a9_57 : Nat) (v9_58 : Int32) (a9_59 : Nat) (a9_60 : Nat) (a9_61 : Nat) (g9_34 : Nat → Int32) (p1 : Int32) (R : Int32 × Int32 × (Nat → Int32)) (hf : f_X9_push v9_17 v9_35 g9_34 p1 = some R) : Met l yX9_push wsX9_push ({ frames := 0, cells := 0, slots := 0, locals := 0 }) (va_Pc [.ref o9, .int p1] (x_PreD (dC, dI) (x_T cyI cyZ cyJ) [(o9, .inr (9, x_O9 v9_0 v9_1 v9_2 v9_3 a9_4 a9_5 a9_6 a9_7 a9_8 a9_9 a9_10 a9_11 a9_12 v9_13 v9_14 v9_15 v9_16 v9_17 v9_18 a9_19 v9_20 v9_21 v9_22 a9_23 a9_24 a9_25 a9_26 a9_27 a9_28 a9_29 a9_30 a9_31 a9_32 a9_33 a9_34 v9_35 v9_36 a9_37 a9_38 a9_39 a9_40 a9_41 v9_42 a9_43 a9_44 a9_45 a9_46 a9_47 v9_48 v9_49 v9_50 v9_51 a9_52 a9_53 v9_54 v9_55 a9_56 a9_57 v9_58 a9_59 a9_60 a9_61)), (a9_34, .inl (cyI, 202, .inl g9_34))] sz)) (va_Qi (fun (r : Int32) (_ : Unit) => r = R.1 ∧ x_nb r) (fun (_ : Unit) (t : State) => va_P (dC, dI) vwCl [(o9, .inr (9, x_O9 v9_0 v9_1 v9_2 v9_3 a9_4 a9_5 a9_6 a9_7 a9_8 a9_9 a9_10 a9_11 a9_12 v9_13 v9_14 v9_15 v9_16 v9_17 v9_18 a9_19 v9_20 v9_21 v9_22 a9_23 a9_24 a9_25 a9_26 a9_27 a9_28 a9_29 a9_30 a9_31 a9_32 a9_33 a9_34 (R.2.1) v9_36 a9_37 a9_38 a9_39 a9_40 a9_41 v9_42 a9_43 a9_44 a9_45 a9_46 a9_47 v9_48 v9_49 v9_50 v9_51 a9_52 a9_53 v9_54 v9_55 a9_56 a9_57 v9_58 a9_59 a9_60 a9_61)), (a9_34, .inl (cyI, 202, .inl R.2.2))] t.heap ∧ va_K (dC, dI) vwCl (x_T cyI cyZ cyJ) t ∧ va_D (va_A [(o9, .inr (9, x_O9 v9_0 v9_1 v9_2 v9_3 a9_4 a9_5 a9_6 a9_7 a9_8 a9_9 a9_10 a9_11 a9_12 v9_13 v9_14 v9_15 v9_16 v9_17 v9_18 a9_19 v9_20 v9_21 v9_22 a9_23 a9_24 a9_25 a9_26 a9_27 a9_28 a9_29 a9_30 a9_31 a9_32 a9_33 a9_34 v9_35 v9_36 a9_37 a9_38 a9_39 a9_40 a9_41 v9_42 a9_43 a9_44 a9_45 a9_46 a9_47 v9_48 v9_49 v9_50 v9_51 a9_52 a9_53 v9_54 v9_55 a9_56 a9_57 v9_58 a9_59 a9_60 a9_61)), (a9_34, .inl (cyI, 202, .inl g9_34))] sz) [(o9, .inr (9, x_O9 v9_0 v9_1 v9_2 v9_3 a9_4 a9_5 a9_6 a9_7 a9_8 a9_9 a9_10 a9_11 a9_12 v9_13 v9_14 v9_15 v9_16 v9_17 v9_18 a9_19 v9_20 v9_21 v9_22 a9_23 a9_24 a9_25 a9_26 a9_27 a9_28 a9_29 a9_30 a9_31 a9_32 a9_33 a9_34 (R.2.1) v9_36 a9_37 a9_38 a9_39 a9_40 a9_41 v9_42 a9_43 a9_44 a9_45 a9_46 a9_47 v9_48 v9_49 v9_50 v9_51 a9_52 a9_53 v9_54 v9_55 a9_56 a9_57 v9_58 a9_59 a9_60 a9_61)), (a9_34, .inl (cyI, 202, .inl R.2.2))]) (va_A [(o9, .inr (9, x_O9 v9_0 v9_1 v9_2 v9_3 a9_4 a9_5 a9_6 a9_7 a9_8 a9_9 a9_10 a9_11 a9_12 v9_13 v9_14 v9_15 v9_16 v9_17 v9_18 a9_19 v9_20 v9_21 v9_22 a9_23 a9_24 a9_25 a9_26 a9_27 a9_28 a9_29 a9_30 a9_31 a9_32 a9_33 a9_34 v9_35 v9_36 a9_37 a9_38 a9_39 a9_40 a9_41 v9_42 a9_43 a9_44 a9_45 a9_46 a9_47 v9_48 v9_49 v9_50 v9_51 a9_52 a9_53 v9_54 v9_55 a9_56 a9_57 v9_58 a9_59 a9_60 a9_61)), (a9_34, .inl (cyI, 202, .inl g9_34))] sz)) 0 0 (va_A [(o9, .inr (9, x_O9 v9_0 v9_1 v9_2 v9_3 a9_4 a9_5 a9_6 a9_7 a9_8 a9_9 a9_10 a9_11 a9_12 v9_13 v9_14 v9_15 v9_16 v9_17 v9_18 a9_19 v9_20 v9_21 v9_22 a9_23 a9_24 a9_25 a9_26 a9_27 a9_28 a9_29 a9_30 a9_31 a9_32 a9_33 a9_34 v9_35 v9_36 a9_37 a9_38 a9_39 a9_40 a9_41 v9_42 a9_43 a9_44 a9_45 a9_46 a9_47 v9_48 v9_49 v9_50 v9_51 a9_52 a9_53 v9_54 v9_55 a9_56 a9_57 v9_58 a9_59 a9_60 a9_61)), (a9_34, .inl (cyI, 202, .inl g9_34))] sz) := by
  refine Met.ofW (cc := cX9_push) (maxL := 3) (ret := (some .boolean)) (by decide) rfl ?_
  intro p e s m args below meth c s₁ B hml hv
  obtain ⟨rfl, ⟨hsz, hP, hK, hN⟩, hD0⟩ := hv
  have hx := B.exec
  have hb := B.bytes
  have hr := B.returns
  have hts := atoms_spec (ws := wsX9_push) B.pre
  have hown : s.vm.findClass RX9 = some m.cls := findClass_of_methodNamed B.named
  have k_1 := hts (.fieldLink RX9 215 "FlowJudgeModel" "h" "I") (by decide +kernel)
  have k_2 := hts (.fieldLink RX9 173 "FlowJudgeModel" "maxS" "I") (by decide +kernel)
  have k_3 := hts (.fieldLink RX9 85 "FlowJudgeModel" "st" "[I") (by decide +kernel)
  subst hsz
  have hD := hD0.self (sz := s.heap.size)
  generalize hAe : va_A [(o9, .inr (9, x_O9 v9_0 v9_1 v9_2 v9_3 a9_4 a9_5 a9_6 a9_7 a9_8 a9_9 a9_10 a9_11 a9_12 v9_13 v9_14 v9_15 v9_16 v9_17 v9_18 a9_19 v9_20 v9_21 v9_22 a9_23 a9_24 a9_25 a9_26 a9_27 a9_28 a9_29 a9_30 a9_31 a9_32 a9_33 a9_34 v9_35 v9_36 a9_37 a9_38 a9_39 a9_40 a9_41 v9_42 a9_43 a9_44 a9_45 a9_46 a9_47 v9_48 v9_49 v9_50 v9_51 a9_52 a9_53 v9_54 v9_55 a9_56 a9_57 v9_58 a9_59 a9_60 a9_61)), (a9_34, .inl (cyI, 202, .inl g9_34))] s.heap.size = A at hD ⊢
  have hA : ∀ q : Nat, s.heap.size ≤ q → A q := fun q h => by rw [← hAe]; exact Or.inr h
  have hP : va_P (dC, dI) vwCl [(o9, .inr (9, x_O9 v9_0 v9_1 v9_2 v9_3 a9_4 a9_5 a9_6 a9_7 a9_8 a9_9 a9_10 a9_11 a9_12 v9_13 v9_14 v9_15 v9_16 v9_17 v9_18 a9_19 v9_20 v9_21 v9_22 a9_23 a9_24 a9_25 a9_26 a9_27 a9_28 a9_29 a9_30 a9_31 a9_32 a9_33 a9_34 v9_35 v9_36 a9_37 a9_38 a9_39 a9_40 a9_41 v9_42 a9_43 a9_44 a9_45 a9_46 a9_47 v9_48 v9_49 v9_50 v9_51 a9_52 a9_53 v9_54 v9_55 a9_56 a9_57 v9_58 a9_59 a9_60 a9_61)), (a9_34, .inl (cyI, 202, .inl g9_34))] s.heap := hP
  have hl := lv_entry ([.ref o9, .int p1]) (n := 3) (Nat.le_of_ble_eq_true rfl)
  rw [lg_entry_eq]
  generalize (lg_sl ([.ref o9, .int p1]) ++ List.replicate (3 - (lg_sl ([.ref o9, .int p1])).length) Slot.unset).toArray = ls at hl ⊢
  have hl : lv_has ls 3 [(0, .ref o9), (1, .int p1)] := hl
  obtain ⟨H, hH⟩ : ∃ z, z = s.heap := ⟨_, rfl⟩
  refine x_here hH ?_
  have hP : va_P (dC, dI) vwCl [(o9, .inr (9, x_O9 v9_0 v9_1 v9_2 v9_3 a9_4 a9_5 a9_6 a9_7 a9_8 a9_9 a9_10 a9_11 a9_12 v9_13 v9_14 v9_15 v9_16 v9_17 v9_18 a9_19 v9_20 v9_21 v9_22 a9_23 a9_24 a9_25 a9_26 a9_27 a9_28 a9_29 a9_30 a9_31 a9_32 a9_33 a9_34 v9_35 v9_36 a9_37 a9_38 a9_39 a9_40 a9_41 v9_42 a9_43 a9_44 a9_45 a9_46 a9_47 v9_48 v9_49 v9_50 v9_51 a9_52 a9_53 v9_54 v9_55 a9_56 a9_57 v9_58 a9_59 a9_60 a9_61)), (a9_34, .inl (cyI, 202, .inl g9_34))] H := by rw [hH]; exact hP
  have hS : va_S A s.heap H [] := by rw [hH]; exact va_S.rf
  clear hH
  obtain ⟨locs, hlo⟩ : ∃ z : List Loc, z = [] := ⟨_, rfl⟩
  refine x_herl hlo ?_
  have hS : va_S A s.heap H locs := by rw [hlo]; exact hS
  clear hlo
  unfold f_X9_push at hf
  refine lv_iload_n hx hb dX9_push_0 rfl (lv_at hl 1 rfl) ?_
  refine lv_iconst (v := 3) hx hb dX9_push_1 (by decide) ?_
  refine lv_icmp_eq (tgt := 10) hx hb dX9_push_2 (by decide) (fun c_1 => ?_) (fun c_1 => ?_)
  · replace hf := x_ip c_1 hf
    refine lv_iconst (v := 2) hx hb dX9_push_10 (by decide) ?_
    refine lv_goto (tgt := 15) hx hb dX9_push_11 (by decide) ?_
    refine lv_istore_n (lv' := [(2, .int 2), (0, .ref o9), (1, .int p1)]) hx hb dX9_push_15 rfl hl (by decide) rfl (fun ls hl => ?_)
    refine lv_aload_n hx hb dX9_push_16 rfl (lv_at hl 1 rfl) ?_
    refine va_get (D := (dC, dI)) (ci := 9) (v := .int v9_35) (C := RX9) (T := TX9) (N := 62) hx hb hts i_X9_push_X9 hown hK hP 0 rfl rfl 35 (by decide) k_1 (fun _ h9 => h9) rfl dX9_push_17 ?_
    refine lv_iload_n hx hb dX9_push_20 rfl (lv_at hl 0 rfl) ?_
    refine lv_iadd hx hb dX9_push_21 ?_
    refine lv_aload_n hx hb dX9_push_22 rfl (lv_at hl 1 rfl) ?_
    refine va_get (D := (dC, dI)) (ci := 9) (v := .int v9_17) (C := RX9) (T := TX9) (N := 62) hx hb hts i_X9_push_X9 hown hK hP 0 rfl rfl 17 (by decide) k_2 (fun _ h9 => h9) rfl dX9_push_23 ?_
    refine lv_icmp_le (tgt := 31) hx hb dX9_push_26 (by decide) (fun c_2 => ?_) (fun c_2 => ?_)
    · replace hf := x_ip c_2 hf
      refine lv_aload_n hx hb dX9_push_31 rfl (lv_at hl 1 rfl) ?_
      refine va_get (D := (dC, dI)) (ci := 9) (v := .ref a9_34) (C := RX9) (T := TX9) (N := 62) hx hb hts i_X9_push_X9 hown hK hP 0 rfl rfl 34 (by decide) k_3 (fun _ h9 => h9) rfl dX9_push_32 ?_
      refine lv_aload_n hx hb dX9_push_35 rfl (lv_at hl 1 rfl) ?_
      refine lv_dup hx hb dX9_push_36 rfl ?_
      refine va_get (D := (dC, dI)) (ci := 9) (v := .int v9_35) (C := RX9) (T := TX9) (N := 62) hx hb hts i_X9_push_X9 hown hK hP 0 rfl rfl 35 (by decide) k_1 (fun _ h9 => h9) rfl dX9_push_37 ?_
      refine lv_dup_x1 hx hb dX9_push_40 rfl rfl ?_
      refine lv_iconst (v := 1) hx hb dX9_push_41 (by decide) ?_
      refine lv_iadd hx hb dX9_push_42 ?_
      refine va_put (D := (dC, dI)) (ci := 9) (v := .int (v9_35 + (1 : Int32))) (ty := .int) (C := RX9) (T := TX9) (N := 62) hx hb hts i_X9_push_X9 tyX9 tyX9_ok nmX9 hown hK hP hD hS 0 rfl rfl 35 (by decide) k_1 (fun _ h9 => h9) rfl (by decide +kernel) rfl rfl (Nat.le_of_ble_eq_true rfl) dX9_push_43 (fun H locs hP hD hS => ?_)
      have hP : va_P (dC, dI) vwCl [(o9, .inr (9, x_O9 v9_0 v9_1 v9_2 v9_3 a9_4 a9_5 a9_6 a9_7 a9_8 a9_9 a9_10 a9_11 a9_12 v9_13 v9_14 v9_15 v9_16 v9_17 v9_18 a9_19 v9_20 v9_21 v9_22 a9_23 a9_24 a9_25 a9_26 a9_27 a9_28 a9_29 a9_30 a9_31 a9_32 a9_33 a9_34 (v9_35 + (1 : Int32)) v9_36 a9_37 a9_38 a9_39 a9_40 a9_41 v9_42 a9_43 a9_44 a9_45 a9_46 a9_47 v9_48 v9_49 v9_50 v9_51 a9_52 a9_53 v9_54 v9_55 a9_56 a9_57 v9_58 a9_59 a9_60 a9_61)), (a9_34, .inl (cyI, 202, .inl g9_34))] H := hP
      have hD : va_D A [(o9, .inr (9, x_O9 v9_0 v9_1 v9_2 v9_3 a9_4 a9_5 a9_6 a9_7 a9_8 a9_9 a9_10 a9_11 a9_12 v9_13 v9_14 v9_15 v9_16 v9_17 v9_18 a9_19 v9_20 v9_21 v9_22 a9_23 a9_24 a9_25 a9_26 a9_27 a9_28 a9_29 a9_30 a9_31 a9_32 a9_33 a9_34 (v9_35 + (1 : Int32)) v9_36 a9_37 a9_38 a9_39 a9_40 a9_41 v9_42 a9_43 a9_44 a9_45 a9_46 a9_47 v9_48 v9_49 v9_50 v9_51 a9_52 a9_53 v9_54 v9_55 a9_56 a9_57 v9_58 a9_59 a9_60 a9_61)), (a9_34, .inl (cyI, 202, .inl g9_34))] := hD
      refine lv_iload_n hx hb dX9_push_46 rfl (lv_at hl 2 rfl) ?_
      obtain ⟨g_3, hf⟩ := x_gu hf
      refine va_iast hx hb hK hP hD hS 1 0 rfl rfl (x_gdin g_3) dX9_push_47 (fun H locs hP hD hS => ?_)
      have hP : va_P (dC, dI) vwCl [(o9, .inr (9, x_O9 v9_0 v9_1 v9_2 v9_3 a9_4 a9_5 a9_6 a9_7 a9_8 a9_9 a9_10 a9_11 a9_12 v9_13 v9_14 v9_15 v9_16 v9_17 v9_18 a9_19 v9_20 v9_21 v9_22 a9_23 a9_24 a9_25 a9_26 a9_27 a9_28 a9_29 a9_30 a9_31 a9_32 a9_33 a9_34 (v9_35 + (1 : Int32)) v9_36 a9_37 a9_38 a9_39 a9_40 a9_41 v9_42 a9_43 a9_44 a9_45 a9_46 a9_47 v9_48 v9_49 v9_50 v9_51 a9_52 a9_53 v9_54 v9_55 a9_56 a9_57 v9_58 a9_59 a9_60 a9_61)), (a9_34, .inl (cyI, 202, .inl (upd g9_34 (Int32.toNatClampNeg v9_35) p1)))] H := hP
      have hD : va_D A [(o9, .inr (9, x_O9 v9_0 v9_1 v9_2 v9_3 a9_4 a9_5 a9_6 a9_7 a9_8 a9_9 a9_10 a9_11 a9_12 v9_13 v9_14 v9_15 v9_16 v9_17 v9_18 a9_19 v9_20 v9_21 v9_22 a9_23 a9_24 a9_25 a9_26 a9_27 a9_28 a9_29 a9_30 a9_31 a9_32 a9_33 a9_34 (v9_35 + (1 : Int32)) v9_36 a9_37 a9_38 a9_39 a9_40 a9_41 v9_42 a9_43 a9_44 a9_45 a9_46 a9_47 v9_48 v9_49 v9_50 v9_51 a9_52 a9_53 v9_54 v9_55 a9_56 a9_57 v9_58 a9_59 a9_60 a9_61)), (a9_34, .inl (cyI, 202, .inl (upd g9_34 (Int32.toNatClampNeg v9_35) p1)))] := hD
      refine lv_iload_n hx hb dX9_push_48 rfl (lv_at hl 0 rfl) ?_
      refine lv_iconst (v := 2) hx hb dX9_push_49 (by decide) ?_
      refine lv_icmp_ne (tgt := 71) hx hb dX9_push_50 (by decide) (fun c_4 => absurd (by decide) c_4) (fun _ => ?_)
      refine lv_aload_n hx hb dX9_push_53 rfl (lv_at hl 1 rfl) ?_
      refine va_get (D := (dC, dI)) (ci := 9) (v := .ref a9_34) (C := RX9) (T := TX9) (N := 62) hx hb hts i_X9_push_X9 hown hK hP 0 rfl rfl 34 (by decide) k_3 (fun _ h9 => h9) rfl dX9_push_54 ?_
      refine lv_aload_n hx hb dX9_push_57 rfl (lv_at hl 1 rfl) ?_
      refine lv_dup hx hb dX9_push_58 rfl ?_
      refine va_get (D := (dC, dI)) (ci := 9) (v := .int (v9_35 + (1 : Int32))) (C := RX9) (T := TX9) (N := 62) hx hb hts i_X9_push_X9 hown hK hP 0 rfl rfl 35 (by decide) k_1 (fun _ h9 => h9) rfl dX9_push_59 ?_
      refine lv_dup_x1 hx hb dX9_push_62 rfl rfl ?_
      refine lv_iconst (v := 1) hx hb dX9_push_63 (by decide) ?_
      refine lv_iadd hx hb dX9_push_64 ?_
      refine va_put (D := (dC, dI)) (ci := 9) (v := .int ((v9_35 + (1 : Int32)) + (1 : Int32))) (ty := .int) (C := RX9) (T := TX9) (N := 62) hx hb hts i_X9_push_X9 tyX9 tyX9_ok nmX9 hown hK hP hD hS 0 rfl rfl 35 (by decide) k_1 (fun _ h9 => h9) rfl (by decide +kernel) rfl rfl (Nat.le_of_ble_eq_true rfl) dX9_push_65 (fun H locs hP hD hS => ?_)
      have hP : va_P (dC, dI) vwCl [(o9, .inr (9, x_O9 v9_0 v9_1 v9_2 v9_3 a9_4 a9_5 a9_6 a9_7 a9_8 a9_9 a9_10 a9_11 a9_12 v9_13 v9_14 v9_15 v9_16 v9_17 v9_18 a9_19 v9_20 v9_21 v9_22 a9_23 a9_24 a9_25 a9_26 a9_27 a9_28 a9_29 a9_30 a9_31 a9_32 a9_33 a9_34 ((v9_35 + (1 : Int32)) + (1 : Int32)) v9_36 a9_37 a9_38 a9_39 a9_40 a9_41 v9_42 a9_43 a9_44 a9_45 a9_46 a9_47 v9_48 v9_49 v9_50 v9_51 a9_52 a9_53 v9_54 v9_55 a9_56 a9_57 v9_58 a9_59 a9_60 a9_61)), (a9_34, .inl (cyI, 202, .inl (upd g9_34 (Int32.toNatClampNeg v9_35) p1)))] H := hP
      have hD : va_D A [(o9, .inr (9, x_O9 v9_0 v9_1 v9_2 v9_3 a9_4 a9_5 a9_6 a9_7 a9_8 a9_9 a9_10 a9_11 a9_12 v9_13 v9_14 v9_15 v9_16 v9_17 v9_18 a9_19 v9_20 v9_21 v9_22 a9_23 a9_24 a9_25 a9_26 a9_27 a9_28 a9_29 a9_30 a9_31 a9_32 a9_33 a9_34 ((v9_35 + (1 : Int32)) + (1 : Int32)) v9_36 a9_37 a9_38 a9_39 a9_40 a9_41 v9_42 a9_43 a9_44 a9_45 a9_46 a9_47 v9_48 v9_49 v9_50 v9_51 a9_52 a9_53 v9_54 v9_55 a9_56 a9_57 v9_58 a9_59 a9_60 a9_61)), (a9_34, .inl (cyI, 202, .inl (upd g9_34 (Int32.toNatClampNeg v9_35) p1)))] := hD
      refine lv_bipush (v := 7) hx hb dX9_push_68 (by decide) ?_
      obtain ⟨g_5, hf⟩ := x_gu hf
      refine va_iast hx hb hK hP hD hS 1 0 rfl rfl (x_gdin g_5) dX9_push_70 (fun H locs hP hD hS => ?_)
      have hP : va_P (dC, dI) vwCl [(o9, .inr (9, x_O9 v9_0 v9_1 v9_2 v9_3 a9_4 a9_5 a9_6 a9_7 a9_8 a9_9 a9_10 a9_11 a9_12 v9_13 v9_14 v9_15 v9_16 v9_17 v9_18 a9_19 v9_20 v9_21 v9_22 a9_23 a9_24 a9_25 a9_26 a9_27 a9_28 a9_29 a9_30 a9_31 a9_32 a9_33 a9_34 ((v9_35 + (1 : Int32)) + (1 : Int32)) v9_36 a9_37 a9_38 a9_39 a9_40 a9_41 v9_42 a9_43 a9_44 a9_45 a9_46 a9_47 v9_48 v9_49 v9_50 v9_51 a9_52 a9_53 v9_54 v9_55 a9_56 a9_57 v9_58 a9_59 a9_60 a9_61)), (a9_34, .inl (cyI, 202, .inl (upd (upd g9_34 (Int32.toNatClampNeg v9_35) p1) (Int32.toNatClampNeg (v9_35 + (1 : Int32))) 7)))] H := hP
      have hD : va_D A [(o9, .inr (9, x_O9 v9_0 v9_1 v9_2 v9_3 a9_4 a9_5 a9_6 a9_7 a9_8 a9_9 a9_10 a9_11 a9_12 v9_13 v9_14 v9_15 v9_16 v9_17 v9_18 a9_19 v9_20 v9_21 v9_22 a9_23 a9_24 a9_25 a9_26 a9_27 a9_28 a9_29 a9_30 a9_31 a9_32 a9_33 a9_34 ((v9_35 + (1 : Int32)) + (1 : Int32)) v9_36 a9_37 a9_38 a9_39 a9_40 a9_41 v9_42 a9_43 a9_44 a9_45 a9_46 a9_47 v9_48 v9_49 v9_50 v9_51 a9_52 a9_53 v9_54 v9_55 a9_56 a9_57 v9_58 a9_59 a9_60 a9_61)), (a9_34, .inl (cyI, 202, .inl (upd (upd g9_34 (Int32.toNatClampNeg v9_35) p1) (Int32.toNatClampNeg (v9_35 + (1 : Int32))) 7)))] := hD
      refine lv_iconst (v := 1) hx hb dX9_push_71 (by decide) ?_
      obtain rfl := Option.some.inj hf
      have hP9 := hP.sub (ws' := [(o9, .inr (9, x_O9 v9_0 v9_1 v9_2 v9_3 a9_4 a9_5 a9_6 a9_7 a9_8 a9_9 a9_10 a9_11 a9_12 v9_13 v9_14 v9_15 v9_16 v9_17 v9_18 a9_19 v9_20 v9_21 v9_22 a9_23 a9_24 a9_25 a9_26 a9_27 a9_28 a9_29 a9_30 a9_31 a9_32 a9_33 a9_34 ((v9_35 + (1 : Int32)) + (1 : Int32)) v9_36 a9_37 a9_38 a9_39 a9_40 a9_41 v9_42 a9_43 a9_44 a9_45 a9_46 a9_47 v9_48 v9_49 v9_50 v9_51 a9_52 a9_53 v9_54 v9_55 a9_56 a9_57 v9_58 a9_59 a9_60 a9_61)), (a9_34, .inl (cyI, 202, .inl (upd (upd g9_34 (Int32.toNatClampNeg v9_35) p1) (Int32.toNatClampNeg (v9_35 + (1 : Int32))) 7)))]) [0, 1] rfl
      have hD9 := hD.sub (ws' := [(o9, .inr (9, x_O9 v9_0 v9_1 v9_2 v9_3 a9_4 a9_5 a9_6 a9_7 a9_8 a9_9 a9_10 a9_11 a9_12 v9_13 v9_14 v9_15 v9_16 v9_17 v9_18 a9_19 v9_20 v9_21 v9_22 a9_23 a9_24 a9_25 a9_26 a9_27 a9_28 a9_29 a9_30 a9_31 a9_32 a9_33 a9_34 ((v9_35 + (1 : Int32)) + (1 : Int32)) v9_36 a9_37 a9_38 a9_39 a9_40 a9_41 v9_42 a9_43 a9_44 a9_45 a9_46 a9_47 v9_48 v9_49 v9_50 v9_51 a9_52 a9_53 v9_54 v9_55 a9_56 a9_57 v9_58 a9_59 a9_60 a9_61)), (a9_34, .inl (cyI, 202, .inl (upd (upd g9_34 (Int32.toNatClampNeg v9_35) p1) (Int32.toNatClampNeg (v9_35 + (1 : Int32))) 7)))]) [0, 1] (by decide) rfl
      exact W.zret (ty := .boolean) hx hb hr rfl (fun t ht hW => ⟨⟨_, (), rfl, ⟨rfl, rfl⟩, by rw [ht]; exact hP9, va_K.moved hW.alike hK, hD9⟩, hS.F ht⟩) hS.2.2 dX9_push_72
    · replace hf := x_in c_2 hf
      refine lv_iconst (v := 0) hx hb dX9_push_29 (by decide) ?_
      obtain rfl := Option.some.inj hf
      have hP9 := hP.sub (ws' := [(o9, .inr (9, x_O9 v9_0 v9_1 v9_2 v9_3 a9_4 a9_5 a9_6 a9_7 a9_8 a9_9 a9_10 a9_11 a9_12 v9_13 v9_14 v9_15 v9_16 v9_17 v9_18 a9_19 v9_20 v9_21 v9_22 a9_23 a9_24 a9_25 a9_26 a9_27 a9_28 a9_29 a9_30 a9_31 a9_32 a9_33 a9_34 v9_35 v9_36 a9_37 a9_38 a9_39 a9_40 a9_41 v9_42 a9_43 a9_44 a9_45 a9_46 a9_47 v9_48 v9_49 v9_50 v9_51 a9_52 a9_53 v9_54 v9_55 a9_56 a9_57 v9_58 a9_59 a9_60 a9_61)), (a9_34, .inl (cyI, 202, .inl g9_34))]) [0, 1] rfl
      have hD9 := hD.sub (ws' := [(o9, .inr (9, x_O9 v9_0 v9_1 v9_2 v9_3 a9_4 a9_5 a9_6 a9_7 a9_8 a9_9 a9_10 a9_11 a9_12 v9_13 v9_14 v9_15 v9_16 v9_17 v9_18 a9_19 v9_20 v9_21 v9_22 a9_23 a9_24 a9_25 a9_26 a9_27 a9_28 a9_29 a9_30 a9_31 a9_32 a9_33 a9_34 v9_35 v9_36 a9_37 a9_38 a9_39 a9_40 a9_41 v9_42 a9_43 a9_44 a9_45 a9_46 a9_47 v9_48 v9_49 v9_50 v9_51 a9_52 a9_53 v9_54 v9_55 a9_56 a9_57 v9_58 a9_59 a9_60 a9_61)), (a9_34, .inl (cyI, 202, .inl g9_34))]) [0, 1] (by decide) rfl
      exact W.zret (ty := .boolean) hx hb hr rfl (fun t ht hW => ⟨⟨_, (), rfl, ⟨rfl, rfl⟩, by rw [ht]; exact hP9, va_K.moved hW.alike hK, hD9⟩, hS.F ht⟩) hS.2.2 dX9_push_30
  · replace hf := x_in c_1 hf
    refine lv_iload_n hx hb dX9_push_5 rfl (lv_at hl 1 rfl) ?_
    refine lv_iconst (v := 4) hx hb dX9_push_6 (by decide) ?_
    refine lv_icmp_ne (tgt := 14) hx hb dX9_push_7 (by decide) (fun c_6 => ?_) (fun c_6 => ?_)
    · replace hf := x_in c_6 hf
      refine lv_iconst (v := 1) hx hb dX9_push_14 (by decide) ?_
      refine lv_istore_n (lv' := [(2, .int 1), (0, .ref o9), (1, .int p1)]) hx hb dX9_push_15 rfl hl (by decide) rfl (fun ls hl => ?_)
      refine lv_aload_n hx hb dX9_push_16 rfl (lv_at hl 1 rfl) ?_
      refine va_get (D := (dC, dI)) (ci := 9) (v := .int v9_35) (C := RX9) (T := TX9) (N := 62) hx hb hts i_X9_push_X9 hown hK hP 0 rfl rfl 35 (by decide) k_1 (fun _ h9 => h9) rfl dX9_push_17 ?_
      refine lv_iload_n hx hb dX9_push_20 rfl (lv_at hl 0 rfl) ?_
      refine lv_iadd hx hb dX9_push_21 ?_
      refine lv_aload_n hx hb dX9_push_22 rfl (lv_at hl 1 rfl) ?_
      refine va_get (D := (dC, dI)) (ci := 9) (v := .int v9_17) (C := RX9) (T := TX9) (N := 62) hx hb hts i_X9_push_X9 hown hK hP 0 rfl rfl 17 (by decide) k_2 (fun _ h9 => h9) rfl dX9_push_23 ?_
      refine lv_icmp_le (tgt := 31) hx hb dX9_push_26 (by decide) (fun c_7 => ?_) (fun c_7 => ?_)
      · replace hf := x_ip c_7 hf
        refine lv_aload_n hx hb dX9_push_31 rfl (lv_at hl 1 rfl) ?_
        refine va_get (D := (dC, dI)) (ci := 9) (v := .ref a9_34) (C := RX9) (T := TX9) (N := 62) hx hb hts i_X9_push_X9 hown hK hP 0 rfl rfl 34 (by decide) k_3 (fun _ h9 => h9) rfl dX9_push_32 ?_
        refine lv_aload_n hx hb dX9_push_35 rfl (lv_at hl 1 rfl) ?_
        refine lv_dup hx hb dX9_push_36 rfl ?_
        refine va_get (D := (dC, dI)) (ci := 9) (v := .int v9_35) (C := RX9) (T := TX9) (N := 62) hx hb hts i_X9_push_X9 hown hK hP 0 rfl rfl 35 (by decide) k_1 (fun _ h9 => h9) rfl dX9_push_37 ?_
        refine lv_dup_x1 hx hb dX9_push_40 rfl rfl ?_
        refine lv_iconst (v := 1) hx hb dX9_push_41 (by decide) ?_
        refine lv_iadd hx hb dX9_push_42 ?_
        refine va_put (D := (dC, dI)) (ci := 9) (v := .int (v9_35 + (1 : Int32))) (ty := .int) (C := RX9) (T := TX9) (N := 62) hx hb hts i_X9_push_X9 tyX9 tyX9_ok nmX9 hown hK hP hD hS 0 rfl rfl 35 (by decide) k_1 (fun _ h9 => h9) rfl (by decide +kernel) rfl rfl (Nat.le_of_ble_eq_true rfl) dX9_push_43 (fun H locs hP hD hS => ?_)
        have hP : va_P (dC, dI) vwCl [(o9, .inr (9, x_O9 v9_0 v9_1 v9_2 v9_3 a9_4 a9_5 a9_6 a9_7 a9_8 a9_9 a9_10 a9_11 a9_12 v9_13 v9_14 v9_15 v9_16 v9_17 v9_18 a9_19 v9_20 v9_21 v9_22 a9_23 a9_24 a9_25 a9_26 a9_27 a9_28 a9_29 a9_30 a9_31 a9_32 a9_33 a9_34 (v9_35 + (1 : Int32)) v9_36 a9_37 a9_38 a9_39 a9_40 a9_41 v9_42 a9_43 a9_44 a9_45 a9_46 a9_47 v9_48 v9_49 v9_50 v9_51 a9_52 a9_53 v9_54 v9_55 a9_56 a9_57 v9_58 a9_59 a9_60 a9_61)), (a9_34, .inl (cyI, 202, .inl g9_34))] H := hP
        have hD : va_D A [(o9, .inr (9, x_O9 v9_0 v9_1 v9_2 v9_3 a9_4 a9_5 a9_6 a9_7 a9_8 a9_9 a9_10 a9_11 a9_12 v9_13 v9_14 v9_15 v9_16 v9_17 v9_18 a9_19 v9_20 v9_21 v9_22 a9_23 a9_24 a9_25 a9_26 a9_27 a9_28 a9_29 a9_30 a9_31 a9_32 a9_33 a9_34 (v9_35 + (1 : Int32)) v9_36 a9_37 a9_38 a9_39 a9_40 a9_41 v9_42 a9_43 a9_44 a9_45 a9_46 a9_47 v9_48 v9_49 v9_50 v9_51 a9_52 a9_53 v9_54 v9_55 a9_56 a9_57 v9_58 a9_59 a9_60 a9_61)), (a9_34, .inl (cyI, 202, .inl g9_34))] := hD
        refine lv_iload_n hx hb dX9_push_46 rfl (lv_at hl 2 rfl) ?_
        obtain ⟨g_8, hf⟩ := x_gu hf
        refine va_iast hx hb hK hP hD hS 1 0 rfl rfl (x_gdin g_8) dX9_push_47 (fun H locs hP hD hS => ?_)
        have hP : va_P (dC, dI) vwCl [(o9, .inr (9, x_O9 v9_0 v9_1 v9_2 v9_3 a9_4 a9_5 a9_6 a9_7 a9_8 a9_9 a9_10 a9_11 a9_12 v9_13 v9_14 v9_15 v9_16 v9_17 v9_18 a9_19 v9_20 v9_21 v9_22 a9_23 a9_24 a9_25 a9_26 a9_27 a9_28 a9_29 a9_30 a9_31 a9_32 a9_33 a9_34 (v9_35 + (1 : Int32)) v9_36 a9_37 a9_38 a9_39 a9_40 a9_41 v9_42 a9_43 a9_44 a9_45 a9_46 a9_47 v9_48 v9_49 v9_50 v9_51 a9_52 a9_53 v9_54 v9_55 a9_56 a9_57 v9_58 a9_59 a9_60 a9_61)), (a9_34, .inl (cyI, 202, .inl (upd g9_34 (Int32.toNatClampNeg v9_35) p1)))] H := hP
        have hD : va_D A [(o9, .inr (9, x_O9 v9_0 v9_1 v9_2 v9_3 a9_4 a9_5 a9_6 a9_7 a9_8 a9_9 a9_10 a9_11 a9_12 v9_13 v9_14 v9_15 v9_16 v9_17 v9_18 a9_19 v9_20 v9_21 v9_22 a9_23 a9_24 a9_25 a9_26 a9_27 a9_28 a9_29 a9_30 a9_31 a9_32 a9_33 a9_34 (v9_35 + (1 : Int32)) v9_36 a9_37 a9_38 a9_39 a9_40 a9_41 v9_42 a9_43 a9_44 a9_45 a9_46 a9_47 v9_48 v9_49 v9_50 v9_51 a9_52 a9_53 v9_54 v9_55 a9_56 a9_57 v9_58 a9_59 a9_60 a9_61)), (a9_34, .inl (cyI, 202, .inl (upd g9_34 (Int32.toNatClampNeg v9_35) p1)))] := hD
        refine lv_iload_n hx hb dX9_push_48 rfl (lv_at hl 0 rfl) ?_
        refine lv_iconst (v := 2) hx hb dX9_push_49 (by decide) ?_
        refine lv_icmp_ne (tgt := 71) hx hb dX9_push_50 (by decide) (fun _ => ?_) (fun c_9 => absurd c_9 (by decide))
        refine lv_iconst (v := 1) hx hb dX9_push_71 (by decide) ?_
        obtain rfl := Option.some.inj hf
        have hP9 := hP.sub (ws' := [(o9, .inr (9, x_O9 v9_0 v9_1 v9_2 v9_3 a9_4 a9_5 a9_6 a9_7 a9_8 a9_9 a9_10 a9_11 a9_12 v9_13 v9_14 v9_15 v9_16 v9_17 v9_18 a9_19 v9_20 v9_21 v9_22 a9_23 a9_24 a9_25 a9_26 a9_27 a9_28 a9_29 a9_30 a9_31 a9_32 a9_33 a9_34 (v9_35 + (1 : Int32)) v9_36 a9_37 a9_38 a9_39 a9_40 a9_41 v9_42 a9_43 a9_44 a9_45 a9_46 a9_47 v9_48 v9_49 v9_50 v9_51 a9_52 a9_53 v9_54 v9_55 a9_56 a9_57 v9_58 a9_59 a9_60 a9_61)), (a9_34, .inl (cyI, 202, .inl (upd g9_34 (Int32.toNatClampNeg v9_35) p1)))]) [0, 1] rfl
        have hD9 := hD.sub (ws' := [(o9, .inr (9, x_O9 v9_0 v9_1 v9_2 v9_3 a9_4 a9_5 a9_6 a9_7 a9_8 a9_9 a9_10 a9_11 a9_12 v9_13 v9_14 v9_15 v9_16 v9_17 v9_18 a9_19 v9_20 v9_21 v9_22 a9_23 a9_24 a9_25 a9_26 a9_27 a9_28 a9_29 a9_30 a9_31 a9_32 a9_33 a9_34 (v9_35 + (1 : Int32)) v9_36 a9_37 a9_38 a9_39 a9_40 a9_41 v9_42 a9_43 a9_44 a9_45 a9_46 a9_47 v9_48 v9_49 v9_50 v9_51 a9_52 a9_53 v9_54 v9_55 a9_56 a9_57 v9_58 a9_59 a9_60 a9_61)), (a9_34, .inl (cyI, 202, .inl (upd g9_34 (Int32.toNatClampNeg v9_35) p1)))]) [0, 1] (by decide) rfl
        exact W.zret (ty := .boolean) hx hb hr rfl (fun t ht hW => ⟨⟨_, (), rfl, ⟨rfl, rfl⟩, by rw [ht]; exact hP9, va_K.moved hW.alike hK, hD9⟩, hS.F ht⟩) hS.2.2 dX9_push_72
      · replace hf := x_in c_7 hf
        refine lv_iconst (v := 0) hx hb dX9_push_29 (by decide) ?_
        obtain rfl := Option.some.inj hf
        have hP9 := hP.sub (ws' := [(o9, .inr (9, x_O9 v9_0 v9_1 v9_2 v9_3 a9_4 a9_5 a9_6 a9_7 a9_8 a9_9 a9_10 a9_11 a9_12 v9_13 v9_14 v9_15 v9_16 v9_17 v9_18 a9_19 v9_20 v9_21 v9_22 a9_23 a9_24 a9_25 a9_26 a9_27 a9_28 a9_29 a9_30 a9_31 a9_32 a9_33 a9_34 v9_35 v9_36 a9_37 a9_38 a9_39 a9_40 a9_41 v9_42 a9_43 a9_44 a9_45 a9_46 a9_47 v9_48 v9_49 v9_50 v9_51 a9_52 a9_53 v9_54 v9_55 a9_56 a9_57 v9_58 a9_59 a9_60 a9_61)), (a9_34, .inl (cyI, 202, .inl g9_34))]) [0, 1] rfl
        have hD9 := hD.sub (ws' := [(o9, .inr (9, x_O9 v9_0 v9_1 v9_2 v9_3 a9_4 a9_5 a9_6 a9_7 a9_8 a9_9 a9_10 a9_11 a9_12 v9_13 v9_14 v9_15 v9_16 v9_17 v9_18 a9_19 v9_20 v9_21 v9_22 a9_23 a9_24 a9_25 a9_26 a9_27 a9_28 a9_29 a9_30 a9_31 a9_32 a9_33 a9_34 v9_35 v9_36 a9_37 a9_38 a9_39 a9_40 a9_41 v9_42 a9_43 a9_44 a9_45 a9_46 a9_47 v9_48 v9_49 v9_50 v9_51 a9_52 a9_53 v9_54 v9_55 a9_56 a9_57 v9_58 a9_59 a9_60 a9_61)), (a9_34, .inl (cyI, 202, .inl g9_34))]) [0, 1] (by decide) rfl
        exact W.zret (ty := .boolean) hx hb hr rfl (fun t ht hW => ⟨⟨_, (), rfl, ⟨rfl, rfl⟩, by rw [ht]; exact hP9, va_K.moved hW.alike hK, hD9⟩, hS.F ht⟩) hS.2.2 dX9_push_30
    · replace hf := x_ip c_6 hf
      refine lv_iconst (v := 2) hx hb dX9_push_10 (by decide) ?_
      refine lv_goto (tgt := 15) hx hb dX9_push_11 (by decide) ?_
      refine lv_istore_n (lv' := [(2, .int 2), (0, .ref o9), (1, .int p1)]) hx hb dX9_push_15 rfl hl (by decide) rfl (fun ls hl => ?_)
      refine lv_aload_n hx hb dX9_push_16 rfl (lv_at hl 1 rfl) ?_
      refine va_get (D := (dC, dI)) (ci := 9) (v := .int v9_35) (C := RX9) (T := TX9) (N := 62) hx hb hts i_X9_push_X9 hown hK hP 0 rfl rfl 35 (by decide) k_1 (fun _ h9 => h9) rfl dX9_push_17 ?_
      refine lv_iload_n hx hb dX9_push_20 rfl (lv_at hl 0 rfl) ?_
      refine lv_iadd hx hb dX9_push_21 ?_
      refine lv_aload_n hx hb dX9_push_22 rfl (lv_at hl 1 rfl) ?_
      refine va_get (D := (dC, dI)) (ci := 9) (v := .int v9_17) (C := RX9) (T := TX9) (N := 62) hx hb hts i_X9_push_X9 hown hK hP 0 rfl rfl 17 (by decide) k_2 (fun _ h9 => h9) rfl dX9_push_23 ?_
      refine lv_icmp_le (tgt := 31) hx hb dX9_push_26 (by decide) (fun c_10 => ?_) (fun c_10 => ?_)
      · replace hf := x_ip c_10 hf
        refine lv_aload_n hx hb dX9_push_31 rfl (lv_at hl 1 rfl) ?_
        refine va_get (D := (dC, dI)) (ci := 9) (v := .ref a9_34) (C := RX9) (T := TX9) (N := 62) hx hb hts i_X9_push_X9 hown hK hP 0 rfl rfl 34 (by decide) k_3 (fun _ h9 => h9) rfl dX9_push_32 ?_
        refine lv_aload_n hx hb dX9_push_35 rfl (lv_at hl 1 rfl) ?_
        refine lv_dup hx hb dX9_push_36 rfl ?_
        refine va_get (D := (dC, dI)) (ci := 9) (v := .int v9_35) (C := RX9) (T := TX9) (N := 62) hx hb hts i_X9_push_X9 hown hK hP 0 rfl rfl 35 (by decide) k_1 (fun _ h9 => h9) rfl dX9_push_37 ?_
        refine lv_dup_x1 hx hb dX9_push_40 rfl rfl ?_
        refine lv_iconst (v := 1) hx hb dX9_push_41 (by decide) ?_
        refine lv_iadd hx hb dX9_push_42 ?_
        refine va_put (D := (dC, dI)) (ci := 9) (v := .int (v9_35 + (1 : Int32))) (ty := .int) (C := RX9) (T := TX9) (N := 62) hx hb hts i_X9_push_X9 tyX9 tyX9_ok nmX9 hown hK hP hD hS 0 rfl rfl 35 (by decide) k_1 (fun _ h9 => h9) rfl (by decide +kernel) rfl rfl (Nat.le_of_ble_eq_true rfl) dX9_push_43 (fun H locs hP hD hS => ?_)
        have hP : va_P (dC, dI) vwCl [(o9, .inr (9, x_O9 v9_0 v9_1 v9_2 v9_3 a9_4 a9_5 a9_6 a9_7 a9_8 a9_9 a9_10 a9_11 a9_12 v9_13 v9_14 v9_15 v9_16 v9_17 v9_18 a9_19 v9_20 v9_21 v9_22 a9_23 a9_24 a9_25 a9_26 a9_27 a9_28 a9_29 a9_30 a9_31 a9_32 a9_33 a9_34 (v9_35 + (1 : Int32)) v9_36 a9_37 a9_38 a9_39 a9_40 a9_41 v9_42 a9_43 a9_44 a9_45 a9_46 a9_47 v9_48 v9_49 v9_50 v9_51 a9_52 a9_53 v9_54 v9_55 a9_56 a9_57 v9_58 a9_59 a9_60 a9_61)), (a9_34, .inl (cyI, 202, .inl g9_34))] H := hP
        have hD : va_D A [(o9, .inr (9, x_O9 v9_0 v9_1 v9_2 v9_3 a9_4 a9_5 a9_6 a9_7 a9_8 a9_9 a9_10 a9_11 a9_12 v9_13 v9_14 v9_15 v9_16 v9_17 v9_18 a9_19 v9_20 v9_21 v9_22 a9_23 a9_24 a9_25 a9_26 a9_27 a9_28 a9_29 a9_30 a9_31 a9_32 a9_33 a9_34 (v9_35 + (1 : Int32)) v9_36 a9_37 a9_38 a9_39 a9_40 a9_41 v9_42 a9_43 a9_44 a9_45 a9_46 a9_47 v9_48 v9_49 v9_50 v9_51 a9_52 a9_53 v9_54 v9_55 a9_56 a9_57 v9_58 a9_59 a9_60 a9_61)), (a9_34, .inl (cyI, 202, .inl g9_34))] := hD
        refine lv_iload_n hx hb dX9_push_46 rfl (lv_at hl 2 rfl) ?_
        obtain ⟨g_11, hf⟩ := x_gu hf
        refine va_iast hx hb hK hP hD hS 1 0 rfl rfl (x_gdin g_11) dX9_push_47 (fun H locs hP hD hS => ?_)
        have hP : va_P (dC, dI) vwCl [(o9, .inr (9, x_O9 v9_0 v9_1 v9_2 v9_3 a9_4 a9_5 a9_6 a9_7 a9_8 a9_9 a9_10 a9_11 a9_12 v9_13 v9_14 v9_15 v9_16 v9_17 v9_18 a9_19 v9_20 v9_21 v9_22 a9_23 a9_24 a9_25 a9_26 a9_27 a9_28 a9_29 a9_30 a9_31 a9_32 a9_33 a9_34 (v9_35 + (1 : Int32)) v9_36 a9_37 a9_38 a9_39 a9_40 a9_41 v9_42 a9_43 a9_44 a9_45 a9_46 a9_47 v9_48 v9_49 v9_50 v9_51 a9_52 a9_53 v9_54 v9_55 a9_56 a9_57 v9_58 a9_59 a9_60 a9_61)), (a9_34, .inl (cyI, 202, .inl (upd g9_34 (Int32.toNatClampNeg v9_35) p1)))] H := hP
        have hD : va_D A [(o9, .inr (9, x_O9 v9_0 v9_1 v9_2 v9_3 a9_4 a9_5 a9_6 a9_7 a9_8 a9_9 a9_10 a9_11 a9_12 v9_13 v9_14 v9_15 v9_16 v9_17 v9_18 a9_19 v9_20 v9_21 v9_22 a9_23 a9_24 a9_25 a9_26 a9_27 a9_28 a9_29 a9_30 a9_31 a9_32 a9_33 a9_34 (v9_35 + (1 : Int32)) v9_36 a9_37 a9_38 a9_39 a9_40 a9_41 v9_42 a9_43 a9_44 a9_45 a9_46 a9_47 v9_48 v9_49 v9_50 v9_51 a9_52 a9_53 v9_54 v9_55 a9_56 a9_57 v9_58 a9_59 a9_60 a9_61)), (a9_34, .inl (cyI, 202, .inl (upd g9_34 (Int32.toNatClampNeg v9_35) p1)))] := hD
        refine lv_iload_n hx hb dX9_push_48 rfl (lv_at hl 0 rfl) ?_
        refine lv_iconst (v := 2) hx hb dX9_push_49 (by decide) ?_
        refine lv_icmp_ne (tgt := 71) hx hb dX9_push_50 (by decide) (fun c_12 => absurd (by decide) c_12) (fun _ => ?_)
        refine lv_aload_n hx hb dX9_push_53 rfl (lv_at hl 1 rfl) ?_
        refine va_get (D := (dC, dI)) (ci := 9) (v := .ref a9_34) (C := RX9) (T := TX9) (N := 62) hx hb hts i_X9_push_X9 hown hK hP 0 rfl rfl 34 (by decide) k_3 (fun _ h9 => h9) rfl dX9_push_54 ?_
        refine lv_aload_n hx hb dX9_push_57 rfl (lv_at hl 1 rfl) ?_
        refine lv_dup hx hb dX9_push_58 rfl ?_
        refine va_get (D := (dC, dI)) (ci := 9) (v := .int (v9_35 + (1 : Int32))) (C := RX9) (T := TX9) (N := 62) hx hb hts i_X9_push_X9 hown hK hP 0 rfl rfl 35 (by decide) k_1 (fun _ h9 => h9) rfl dX9_push_59 ?_
        refine lv_dup_x1 hx hb dX9_push_62 rfl rfl ?_
        refine lv_iconst (v := 1) hx hb dX9_push_63 (by decide) ?_
        refine lv_iadd hx hb dX9_push_64 ?_
        refine va_put (D := (dC, dI)) (ci := 9) (v := .int ((v9_35 + (1 : Int32)) + (1 : Int32))) (ty := .int) (C := RX9) (T := TX9) (N := 62) hx hb hts i_X9_push_X9 tyX9 tyX9_ok nmX9 hown hK hP hD hS 0 rfl rfl 35 (by decide) k_1 (fun _ h9 => h9) rfl (by decide +kernel) rfl rfl (Nat.le_of_ble_eq_true rfl) dX9_push_65 (fun H locs hP hD hS => ?_)
        have hP : va_P (dC, dI) vwCl [(o9, .inr (9, x_O9 v9_0 v9_1 v9_2 v9_3 a9_4 a9_5 a9_6 a9_7 a9_8 a9_9 a9_10 a9_11 a9_12 v9_13 v9_14 v9_15 v9_16 v9_17 v9_18 a9_19 v9_20 v9_21 v9_22 a9_23 a9_24 a9_25 a9_26 a9_27 a9_28 a9_29 a9_30 a9_31 a9_32 a9_33 a9_34 ((v9_35 + (1 : Int32)) + (1 : Int32)) v9_36 a9_37 a9_38 a9_39 a9_40 a9_41 v9_42 a9_43 a9_44 a9_45 a9_46 a9_47 v9_48 v9_49 v9_50 v9_51 a9_52 a9_53 v9_54 v9_55 a9_56 a9_57 v9_58 a9_59 a9_60 a9_61)), (a9_34, .inl (cyI, 202, .inl (upd g9_34 (Int32.toNatClampNeg v9_35) p1)))] H := hP
        have hD : va_D A [(o9, .inr (9, x_O9 v9_0 v9_1 v9_2 v9_3 a9_4 a9_5 a9_6 a9_7 a9_8 a9_9 a9_10 a9_11 a9_12 v9_13 v9_14 v9_15 v9_16 v9_17 v9_18 a9_19 v9_20 v9_21 v9_22 a9_23 a9_24 a9_25 a9_26 a9_27 a9_28 a9_29 a9_30 a9_31 a9_32 a9_33 a9_34 ((v9_35 + (1 : Int32)) + (1 : Int32)) v9_36 a9_37 a9_38 a9_39 a9_40 a9_41 v9_42 a9_43 a9_44 a9_45 a9_46 a9_47 v9_48 v9_49 v9_50 v9_51 a9_52 a9_53 v9_54 v9_55 a9_56 a9_57 v9_58 a9_59 a9_60 a9_61)), (a9_34, .inl (cyI, 202, .inl (upd g9_34 (Int32.toNatClampNeg v9_35) p1)))] := hD
        refine lv_bipush (v := 7) hx hb dX9_push_68 (by decide) ?_
        obtain ⟨g_13, hf⟩ := x_gu hf
        refine va_iast hx hb hK hP hD hS 1 0 rfl rfl (x_gdin g_13) dX9_push_70 (fun H locs hP hD hS => ?_)
        have hP : va_P (dC, dI) vwCl [(o9, .inr (9, x_O9 v9_0 v9_1 v9_2 v9_3 a9_4 a9_5 a9_6 a9_7 a9_8 a9_9 a9_10 a9_11 a9_12 v9_13 v9_14 v9_15 v9_16 v9_17 v9_18 a9_19 v9_20 v9_21 v9_22 a9_23 a9_24 a9_25 a9_26 a9_27 a9_28 a9_29 a9_30 a9_31 a9_32 a9_33 a9_34 ((v9_35 + (1 : Int32)) + (1 : Int32)) v9_36 a9_37 a9_38 a9_39 a9_40 a9_41 v9_42 a9_43 a9_44 a9_45 a9_46 a9_47 v9_48 v9_49 v9_50 v9_51 a9_52 a9_53 v9_54 v9_55 a9_56 a9_57 v9_58 a9_59 a9_60 a9_61)), (a9_34, .inl (cyI, 202, .inl (upd (upd g9_34 (Int32.toNatClampNeg v9_35) p1) (Int32.toNatClampNeg (v9_35 + (1 : Int32))) 7)))] H := hP
        have hD : va_D A [(o9, .inr (9, x_O9 v9_0 v9_1 v9_2 v9_3 a9_4 a9_5 a9_6 a9_7 a9_8 a9_9 a9_10 a9_11 a9_12 v9_13 v9_14 v9_15 v9_16 v9_17 v9_18 a9_19 v9_20 v9_21 v9_22 a9_23 a9_24 a9_25 a9_26 a9_27 a9_28 a9_29 a9_30 a9_31 a9_32 a9_33 a9_34 ((v9_35 + (1 : Int32)) + (1 : Int32)) v9_36 a9_37 a9_38 a9_39 a9_40 a9_41 v9_42 a9_43 a9_44 a9_45 a9_46 a9_47 v9_48 v9_49 v9_50 v9_51 a9_52 a9_53 v9_54 v9_55 a9_56 a9_57 v9_58 a9_59 a9_60 a9_61)), (a9_34, .inl (cyI, 202, .inl (upd (upd g9_34 (Int32.toNatClampNeg v9_35) p1) (Int32.toNatClampNeg (v9_35 + (1 : Int32))) 7)))] := hD
        refine lv_iconst (v := 1) hx hb dX9_push_71 (by decide) ?_
        obtain rfl := Option.some.inj hf
        have hP9 := hP.sub (ws' := [(o9, .inr (9, x_O9 v9_0 v9_1 v9_2 v9_3 a9_4 a9_5 a9_6 a9_7 a9_8 a9_9 a9_10 a9_11 a9_12 v9_13 v9_14 v9_15 v9_16 v9_17 v9_18 a9_19 v9_20 v9_21 v9_22 a9_23 a9_24 a9_25 a9_26 a9_27 a9_28 a9_29 a9_30 a9_31 a9_32 a9_33 a9_34 ((v9_35 + (1 : Int32)) + (1 : Int32)) v9_36 a9_37 a9_38 a9_39 a9_40 a9_41 v9_42 a9_43 a9_44 a9_45 a9_46 a9_47 v9_48 v9_49 v9_50 v9_51 a9_52 a9_53 v9_54 v9_55 a9_56 a9_57 v9_58 a9_59 a9_60 a9_61)), (a9_34, .inl (cyI, 202, .inl (upd (upd g9_34 (Int32.toNatClampNeg v9_35) p1) (Int32.toNatClampNeg (v9_35 + (1 : Int32))) 7)))]) [0, 1] rfl
        have hD9 := hD.sub (ws' := [(o9, .inr (9, x_O9 v9_0 v9_1 v9_2 v9_3 a9_4 a9_5 a9_6 a9_7 a9_8 a9_9 a9_10 a9_11 a9_12 v9_13 v9_14 v9_15 v9_16 v9_17 v9_18 a9_19 v9_20 v9_21 v9_22 a9_23 a9_24 a9_25 a9_26 a9_27 a9_28 a9_29 a9_30 a9_31 a9_32 a9_33 a9_34 ((v9_35 + (1 : Int32)) + (1 : Int32)) v9_36 a9_37 a9_38 a9_39 a9_40 a9_41 v9_42 a9_43 a9_44 a9_45 a9_46 a9_47 v9_48 v9_49 v9_50 v9_51 a9_52 a9_53 v9_54 v9_55 a9_56 a9_57 v9_58 a9_59 a9_60 a9_61)), (a9_34, .inl (cyI, 202, .inl (upd (upd g9_34 (Int32.toNatClampNeg v9_35) p1) (Int32.toNatClampNeg (v9_35 + (1 : Int32))) 7)))]) [0, 1] (by decide) rfl
        exact W.zret (ty := .boolean) hx hb hr rfl (fun t ht hW => ⟨⟨_, (), rfl, ⟨rfl, rfl⟩, by rw [ht]; exact hP9, va_K.moved hW.alike hK, hD9⟩, hS.F ht⟩) hS.2.2 dX9_push_72
      · replace hf := x_in c_10 hf
        refine lv_iconst (v := 0) hx hb dX9_push_29 (by decide) ?_
        obtain rfl := Option.some.inj hf
        have hP9 := hP.sub (ws' := [(o9, .inr (9, x_O9 v9_0 v9_1 v9_2 v9_3 a9_4 a9_5 a9_6 a9_7 a9_8 a9_9 a9_10 a9_11 a9_12 v9_13 v9_14 v9_15 v9_16 v9_17 v9_18 a9_19 v9_20 v9_21 v9_22 a9_23 a9_24 a9_25 a9_26 a9_27 a9_28 a9_29 a9_30 a9_31 a9_32 a9_33 a9_34 v9_35 v9_36 a9_37 a9_38 a9_39 a9_40 a9_41 v9_42 a9_43 a9_44 a9_45 a9_46 a9_47 v9_48 v9_49 v9_50 v9_51 a9_52 a9_53 v9_54 v9_55 a9_56 a9_57 v9_58 a9_59 a9_60 a9_61)), (a9_34, .inl (cyI, 202, .inl g9_34))]) [0, 1] rfl
        have hD9 := hD.sub (ws' := [(o9, .inr (9, x_O9 v9_0 v9_1 v9_2 v9_3 a9_4 a9_5 a9_6 a9_7 a9_8 a9_9 a9_10 a9_11 a9_12 v9_13 v9_14 v9_15 v9_16 v9_17 v9_18 a9_19 v9_20 v9_21 v9_22 a9_23 a9_24 a9_25 a9_26 a9_27 a9_28 a9_29 a9_30 a9_31 a9_32 a9_33 a9_34 v9_35 v9_36 a9_37 a9_38 a9_39 a9_40 a9_41 v9_42 a9_43 a9_44 a9_45 a9_46 a9_47 v9_48 v9_49 v9_50 v9_51 a9_52 a9_53 v9_54 v9_55 a9_56 a9_57 v9_58 a9_59 a9_60 a9_61)), (a9_34, .inl (cyI, 202, .inl g9_34))]) [0, 1] (by decide) rfl
        exact W.zret (ty := .boolean) hx hb hr rfl (fun t ht hW => ⟨⟨_, (), rfl, ⟨rfl, rfl⟩, by rw [ht]; exact hP9, va_K.moved hW.alike hK, hD9⟩, hS.F ht⟩) hS.2.2 dX9_push_30

def f_X9_pop (v9_35 : Int32) (g9_34 : Nat → Int32) (p1 : Int32) : Option (Int32 × Int32) := if p1 = (3 : Int32) then if v9_35 < (2 : Int32) then some (0, v9_35) else if x_gd (v9_35 - (2 : Int32)) 202 = true then if (g9_34 (Int32.toNatClampNeg (v9_35 - (2 : Int32)))) = p1 then if x_gd (v9_35 - (1 : Int32)) 202 = true then if (g9_34 (Int32.toNatClampNeg (v9_35 - (1 : Int32)))) = (7 : Int32) then some (1, v9_35 - (2 : Int32)) else some (0, v9_35) else none else some (0, v9_35) else none else if p1 = (4 : Int32) then if v9_35 < (2 : Int32) then some (0, v9_35) else if x_gd (v9_35 - (2 : Int32)) 202 = true then if (g9_34 (Int32.toNatClampNeg (v9_35 - (2 : Int32)))) = p1 then if x_gd (v9_35 - (1 : Int32)) 202 = true then if (g9_34 (Int32.toNatClampNeg (v9_35 - (1 : Int32)))) = (7 : Int32) then some (1, v9_35 - (2 : Int32)) else some (0, v9_35) else none else some (0, v9_35) else none else if v9_35 < (1 : Int32) then some (0, v9_35) else if x_gd (v9_35 - (1 : Int32)) 202 = true then if (g9_34 (Int32.toNatClampNeg (v9_35 - (1 : Int32)))) = p1 then some (1, v9_35 - (1 : Int32)) else some (0, v9_35) else none
theorem i_X9_pop_X9 : ∀ w ∈ wsX90, w ∈ wsX9_pop := fun _ h => List.mem_cons_of_mem _ (List.mem_append_right _ h)
set_option maxHeartbeats 4000000 in
set_option maxRecDepth 100000 in
theorem c_X9_pop (l : Launch) (dC : Nat → ClassId) (dI : Nat → Nat → Nat) (cyI cyZ cyJ : ClassId) (sz : Nat) (o9 : Nat) (v9_0 : Int32) (v9_1 : Int32) (v9_2 : Int32) (v9_3 : Int32) (a9_4 : Nat) (a9_5 : Nat) (a9_6 : Nat) (a9_7 : Nat) (a9_8 : Nat) (a9_9 : Nat) (a9_10 : Nat) (a9_11 : Nat) (a9_12 : Nat) (v9_13 : Int32) (v9_14 : Int32) (v9_15 : Int32) (v9_16 : Int32) (v9_17 : Int32) (v9_18 : Int32) (a9_19 : Nat) (v9_20 : Int32) (v9_21 : Int32) (v9_22 : Int32) (a9_23 : Nat) (a9_24 : Nat) (a9_25 : Nat) (a9_26 : Nat) (a9_27 : Nat) (a9_28 : Nat) (a9_29 : Nat) (a9_30 : Nat) (a9_31 : Nat) (a9_32 : Nat) (a9_33 : Nat) (a9_34 : Nat) (v9_35 : Int32) (v9_36 : Int32) (a9_37 : Nat) (a9_38 : Nat) (a9_39 : Nat) (a9_40 : Nat) (a9_41 : Nat) (v9_42 : Int32) (a9_43 : Nat) (a9_44 : Nat) (a9_45 : Nat) (a9_46 : Nat) (a9_47 : Nat) (v9_48 : Int32) (v9_49 : Int32) (v9_50 : Int32) (v9_51 : Int32) (a9_52 : Nat) (a9_53 : Nat) (v9_54 : Int32) (v9_55 : Int32) (a9_56 : Nat) (a9_57 : Nat) (v9_58 : Int32) (a9_59 : Nat) (a9_60 : Nat) (a9_61 : Nat) (g9_34 : Nat → Int32) (p1 : Int32) (R : Int32 × Int32) (hf : f_X9_pop v9_35 g9_34 p1 = some R) : Met l yX9_pop wsX9_pop ({ frames := 0, cells := 0, slots := 0, locals := 0 }) (va_Pc [.ref o9, .int p1] (x_PreD (dC, dI) (x_T cyI cyZ cyJ) [(o9, .inr (9, x_O9 v9_0 v9_1 v9_2 v9_3 a9_4 a9_5 a9_6 a9_7 a9_8 a9_9 a9_10 a9_11 a9_12 v9_13 v9_14 v9_15 v9_16 v9_17 v9_18 a9_19 v9_20 v9_21 v9_22 a9_23 a9_24 a9_25 a9_26 a9_27 a9_28 a9_29 a9_30 a9_31 a9_32 a9_33 a9_34 v9_35 v9_36 a9_37 a9_38 a9_39 a9_40 a9_41 v9_42 a9_43 a9_44 a9_45 a9_46 a9_47 v9_48 v9_49 v9_50 v9_51 a9_52 a9_53 v9_54 v9_55 a9_56 a9_57 v9_58 a9_59 a9_60 a9_61)), (a9_34, .inl (cyI, 202, .inl g9_34))] sz)) (va_Qi (fun (r : Int32) (_ : Unit) => r = R.1 ∧ x_nb r) (fun (_ : Unit) (t : State) => va_P (dC, dI) vwCl [(o9, .inr (9, x_O9 v9_0 v9_1 v9_2 v9_3 a9_4 a9_5 a9_6 a9_7 a9_8 a9_9 a9_10 a9_11 a9_12 v9_13 v9_14 v9_15 v9_16 v9_17 v9_18 a9_19 v9_20 v9_21 v9_22 a9_23 a9_24 a9_25 a9_26 a9_27 a9_28 a9_29 a9_30 a9_31 a9_32 a9_33 a9_34 (R.2) v9_36 a9_37 a9_38 a9_39 a9_40 a9_41 v9_42 a9_43 a9_44 a9_45 a9_46 a9_47 v9_48 v9_49 v9_50 v9_51 a9_52 a9_53 v9_54 v9_55 a9_56 a9_57 v9_58 a9_59 a9_60 a9_61)), (a9_34, .inl (cyI, 202, .inl g9_34))] t.heap ∧ va_K (dC, dI) vwCl (x_T cyI cyZ cyJ) t ∧ va_D (va_A [(o9, .inr (9, x_O9 v9_0 v9_1 v9_2 v9_3 a9_4 a9_5 a9_6 a9_7 a9_8 a9_9 a9_10 a9_11 a9_12 v9_13 v9_14 v9_15 v9_16 v9_17 v9_18 a9_19 v9_20 v9_21 v9_22 a9_23 a9_24 a9_25 a9_26 a9_27 a9_28 a9_29 a9_30 a9_31 a9_32 a9_33 a9_34 v9_35 v9_36 a9_37 a9_38 a9_39 a9_40 a9_41 v9_42 a9_43 a9_44 a9_45 a9_46 a9_47 v9_48 v9_49 v9_50 v9_51 a9_52 a9_53 v9_54 v9_55 a9_56 a9_57 v9_58 a9_59 a9_60 a9_61)), (a9_34, .inl (cyI, 202, .inl g9_34))] sz) [(o9, .inr (9, x_O9 v9_0 v9_1 v9_2 v9_3 a9_4 a9_5 a9_6 a9_7 a9_8 a9_9 a9_10 a9_11 a9_12 v9_13 v9_14 v9_15 v9_16 v9_17 v9_18 a9_19 v9_20 v9_21 v9_22 a9_23 a9_24 a9_25 a9_26 a9_27 a9_28 a9_29 a9_30 a9_31 a9_32 a9_33 a9_34 (R.2) v9_36 a9_37 a9_38 a9_39 a9_40 a9_41 v9_42 a9_43 a9_44 a9_45 a9_46 a9_47 v9_48 v9_49 v9_50 v9_51 a9_52 a9_53 v9_54 v9_55 a9_56 a9_57 v9_58 a9_59 a9_60 a9_61)), (a9_34, .inl (cyI, 202, .inl g9_34))]) (va_A [(o9, .inr (9, x_O9 v9_0 v9_1 v9_2 v9_3 a9_4 a9_5 a9_6 a9_7 a9_8 a9_9 a9_10 a9_11 a9_12 v9_13 v9_14 v9_15 v9_16 v9_17 v9_18 a9_19 v9_20 v9_21 v9_22 a9_23 a9_24 a9_25 a9_26 a9_27 a9_28 a9_29 a9_30 a9_31 a9_32 a9_33 a9_34 v9_35 v9_36 a9_37 a9_38 a9_39 a9_40 a9_41 v9_42 a9_43 a9_44 a9_45 a9_46 a9_47 v9_48 v9_49 v9_50 v9_51 a9_52 a9_53 v9_54 v9_55 a9_56 a9_57 v9_58 a9_59 a9_60 a9_61)), (a9_34, .inl (cyI, 202, .inl g9_34))] sz)) 0 0 (va_A [(o9, .inr (9, x_O9 v9_0 v9_1 v9_2 v9_3 a9_4 a9_5 a9_6 a9_7 a9_8 a9_9 a9_10 a9_11 a9_12 v9_13 v9_14 v9_15 v9_16 v9_17 v9_18 a9_19 v9_20 v9_21 v9_22 a9_23 a9_24 a9_25 a9_26 a9_27 a9_28 a9_29 a9_30 a9_31 a9_32 a9_33 a9_34 v9_35 v9_36 a9_37 a9_38 a9_39 a9_40 a9_41 v9_42 a9_43 a9_44 a9_45 a9_46 a9_47 v9_48 v9_49 v9_50 v9_51 a9_52 a9_53 v9_54 v9_55 a9_56 a9_57 v9_58 a9_59 a9_60 a9_61)), (a9_34, .inl (cyI, 202, .inl g9_34))] sz) := by
  refine Met.ofW (cc := cX9_pop) (maxL := 3) (ret := (some .boolean)) (by decide) rfl ?_
  intro p e s m args below meth c s₁ B hml hv
  obtain ⟨rfl, ⟨hsz, hP, hK, hN⟩, hD0⟩ := hv
  have hx := B.exec
  have hb := B.bytes
  have hr := B.returns
  have hts := atoms_spec (ws := wsX9_pop) B.pre
  have hown : s.vm.findClass RX9 = some m.cls := findClass_of_methodNamed B.named
  have k_1 := hts (.fieldLink RX9 215 "FlowJudgeModel" "h" "I") (by decide +kernel)
  have k_2 := hts (.fieldLink RX9 85 "FlowJudgeModel" "st" "[I") (by decide +kernel)
  subst hsz
  have hD := hD0.self (sz := s.heap.size)
  generalize hAe : va_A [(o9, .inr (9, x_O9 v9_0 v9_1 v9_2 v9_3 a9_4 a9_5 a9_6 a9_7 a9_8 a9_9 a9_10 a9_11 a9_12 v9_13 v9_14 v9_15 v9_16 v9_17 v9_18 a9_19 v9_20 v9_21 v9_22 a9_23 a9_24 a9_25 a9_26 a9_27 a9_28 a9_29 a9_30 a9_31 a9_32 a9_33 a9_34 v9_35 v9_36 a9_37 a9_38 a9_39 a9_40 a9_41 v9_42 a9_43 a9_44 a9_45 a9_46 a9_47 v9_48 v9_49 v9_50 v9_51 a9_52 a9_53 v9_54 v9_55 a9_56 a9_57 v9_58 a9_59 a9_60 a9_61)), (a9_34, .inl (cyI, 202, .inl g9_34))] s.heap.size = A at hD ⊢
  have hA : ∀ q : Nat, s.heap.size ≤ q → A q := fun q h => by rw [← hAe]; exact Or.inr h
  have hP : va_P (dC, dI) vwCl [(o9, .inr (9, x_O9 v9_0 v9_1 v9_2 v9_3 a9_4 a9_5 a9_6 a9_7 a9_8 a9_9 a9_10 a9_11 a9_12 v9_13 v9_14 v9_15 v9_16 v9_17 v9_18 a9_19 v9_20 v9_21 v9_22 a9_23 a9_24 a9_25 a9_26 a9_27 a9_28 a9_29 a9_30 a9_31 a9_32 a9_33 a9_34 v9_35 v9_36 a9_37 a9_38 a9_39 a9_40 a9_41 v9_42 a9_43 a9_44 a9_45 a9_46 a9_47 v9_48 v9_49 v9_50 v9_51 a9_52 a9_53 v9_54 v9_55 a9_56 a9_57 v9_58 a9_59 a9_60 a9_61)), (a9_34, .inl (cyI, 202, .inl g9_34))] s.heap := hP
  have hl := lv_entry ([.ref o9, .int p1]) (n := 3) (Nat.le_of_ble_eq_true rfl)
  rw [lg_entry_eq]
  generalize (lg_sl ([.ref o9, .int p1]) ++ List.replicate (3 - (lg_sl ([.ref o9, .int p1])).length) Slot.unset).toArray = ls at hl ⊢
  have hl : lv_has ls 3 [(0, .ref o9), (1, .int p1)] := hl
  obtain ⟨H, hH⟩ : ∃ z, z = s.heap := ⟨_, rfl⟩
  refine x_here hH ?_
  have hP : va_P (dC, dI) vwCl [(o9, .inr (9, x_O9 v9_0 v9_1 v9_2 v9_3 a9_4 a9_5 a9_6 a9_7 a9_8 a9_9 a9_10 a9_11 a9_12 v9_13 v9_14 v9_15 v9_16 v9_17 v9_18 a9_19 v9_20 v9_21 v9_22 a9_23 a9_24 a9_25 a9_26 a9_27 a9_28 a9_29 a9_30 a9_31 a9_32 a9_33 a9_34 v9_35 v9_36 a9_37 a9_38 a9_39 a9_40 a9_41 v9_42 a9_43 a9_44 a9_45 a9_46 a9_47 v9_48 v9_49 v9_50 v9_51 a9_52 a9_53 v9_54 v9_55 a9_56 a9_57 v9_58 a9_59 a9_60 a9_61)), (a9_34, .inl (cyI, 202, .inl g9_34))] H := by rw [hH]; exact hP
  have hS : va_S A s.heap H [] := by rw [hH]; exact va_S.rf
  clear hH
  obtain ⟨locs, hlo⟩ : ∃ z : List Loc, z = [] := ⟨_, rfl⟩
  refine x_herl hlo ?_
  have hS : va_S A s.heap H locs := by rw [hlo]; exact hS
  clear hlo
  unfold f_X9_pop at hf
  refine lv_iload_n hx hb dX9_pop_0 rfl (lv_at hl 1 rfl) ?_
  refine lv_iconst (v := 3) hx hb dX9_pop_1 (by decide) ?_
  refine lv_icmp_eq (tgt := 10) hx hb dX9_pop_2 (by decide) (fun c_1 => ?_) (fun c_1 => ?_)
  · replace hf := x_ip c_1 hf
    refine lv_iconst (v := 2) hx hb dX9_pop_10 (by decide) ?_
    refine lv_goto (tgt := 15) hx hb dX9_pop_11 (by decide) ?_
    refine lv_istore_n (lv' := [(2, .int 2), (0, .ref o9), (1, .int p1)]) hx hb dX9_pop_15 rfl hl (by decide) rfl (fun ls hl => ?_)
    refine lv_aload_n hx hb dX9_pop_16 rfl (lv_at hl 1 rfl) ?_
    refine va_get (D := (dC, dI)) (ci := 9) (v := .int v9_35) (C := RX9) (T := TX9) (N := 62) hx hb hts i_X9_pop_X9 hown hK hP 0 rfl rfl 35 (by decide) k_1 (fun _ h9 => h9) rfl dX9_pop_17 ?_
    refine lv_iload_n hx hb dX9_pop_20 rfl (lv_at hl 0 rfl) ?_
    refine lv_icmp_lt (tgt := 60) hx hb dX9_pop_21 (by decide) (fun c_2 => ?_) (fun c_2 => ?_)
    · replace hf := x_ip c_2 hf
      refine lv_iconst (v := 0) hx hb dX9_pop_60 (by decide) ?_
      obtain rfl := Option.some.inj hf
      have hP9 := hP.sub (ws' := [(o9, .inr (9, x_O9 v9_0 v9_1 v9_2 v9_3 a9_4 a9_5 a9_6 a9_7 a9_8 a9_9 a9_10 a9_11 a9_12 v9_13 v9_14 v9_15 v9_16 v9_17 v9_18 a9_19 v9_20 v9_21 v9_22 a9_23 a9_24 a9_25 a9_26 a9_27 a9_28 a9_29 a9_30 a9_31 a9_32 a9_33 a9_34 v9_35 v9_36 a9_37 a9_38 a9_39 a9_40 a9_41 v9_42 a9_43 a9_44 a9_45 a9_46 a9_47 v9_48 v9_49 v9_50 v9_51 a9_52 a9_53 v9_54 v9_55 a9_56 a9_57 v9_58 a9_59 a9_60 a9_61)), (a9_34, .inl (cyI, 202, .inl g9_34))]) [0, 1] rfl
      have hD9 := hD.sub (ws' := [(o9, .inr (9, x_O9 v9_0 v9_1 v9_2 v9_3 a9_4 a9_5 a9_6 a9_7 a9_8 a9_9 a9_10 a9_11 a9_12 v9_13 v9_14 v9_15 v9_16 v9_17 v9_18 a9_19 v9_20 v9_21 v9_22 a9_23 a9_24 a9_25 a9_26 a9_27 a9_28 a9_29 a9_30 a9_31 a9_32 a9_33 a9_34 v9_35 v9_36 a9_37 a9_38 a9_39 a9_40 a9_41 v9_42 a9_43 a9_44 a9_45 a9_46 a9_47 v9_48 v9_49 v9_50 v9_51 a9_52 a9_53 v9_54 v9_55 a9_56 a9_57 v9_58 a9_59 a9_60 a9_61)), (a9_34, .inl (cyI, 202, .inl g9_34))]) [0, 1] (by decide) rfl
      exact W.zret (ty := .boolean) hx hb hr rfl (fun t ht hW => ⟨⟨_, (), rfl, ⟨rfl, rfl⟩, by rw [ht]; exact hP9, va_K.moved hW.alike hK, hD9⟩, hS.F ht⟩) hS.2.2 dX9_pop_61
    · replace hf := x_in c_2 hf
      refine lv_aload_n hx hb dX9_pop_24 rfl (lv_at hl 1 rfl) ?_
      refine va_get (D := (dC, dI)) (ci := 9) (v := .ref a9_34) (C := RX9) (T := TX9) (N := 62) hx hb hts i_X9_pop_X9 hown hK hP 0 rfl rfl 34 (by decide) k_2 (fun _ h9 => h9) rfl dX9_pop_25 ?_
      refine lv_aload_n hx hb dX9_pop_28 rfl (lv_at hl 1 rfl) ?_
      refine va_get (D := (dC, dI)) (ci := 9) (v := .int v9_35) (C := RX9) (T := TX9) (N := 62) hx hb hts i_X9_pop_X9 hown hK hP 0 rfl rfl 35 (by decide) k_1 (fun _ h9 => h9) rfl dX9_pop_29 ?_
      refine lv_iload_n hx hb dX9_pop_32 rfl (lv_at hl 0 rfl) ?_
      refine lv_isub hx hb dX9_pop_33 ?_
      obtain ⟨g_3, hf⟩ := x_gu hf
      refine va_iald hx hb hK hP 1 0 rfl rfl (x_gdin g_3) dX9_pop_34 ?_
      refine lv_iload_n hx hb dX9_pop_35 rfl (lv_at hl 2 rfl) ?_
      refine lv_icmp_ne (tgt := 60) hx hb dX9_pop_36 (by decide) (fun c_4 => ?_) (fun c_4 => ?_)
      · replace hf := x_in c_4 hf
        refine lv_iconst (v := 0) hx hb dX9_pop_60 (by decide) ?_
        obtain rfl := Option.some.inj hf
        have hP9 := hP.sub (ws' := [(o9, .inr (9, x_O9 v9_0 v9_1 v9_2 v9_3 a9_4 a9_5 a9_6 a9_7 a9_8 a9_9 a9_10 a9_11 a9_12 v9_13 v9_14 v9_15 v9_16 v9_17 v9_18 a9_19 v9_20 v9_21 v9_22 a9_23 a9_24 a9_25 a9_26 a9_27 a9_28 a9_29 a9_30 a9_31 a9_32 a9_33 a9_34 v9_35 v9_36 a9_37 a9_38 a9_39 a9_40 a9_41 v9_42 a9_43 a9_44 a9_45 a9_46 a9_47 v9_48 v9_49 v9_50 v9_51 a9_52 a9_53 v9_54 v9_55 a9_56 a9_57 v9_58 a9_59 a9_60 a9_61)), (a9_34, .inl (cyI, 202, .inl g9_34))]) [0, 1] rfl
        have hD9 := hD.sub (ws' := [(o9, .inr (9, x_O9 v9_0 v9_1 v9_2 v9_3 a9_4 a9_5 a9_6 a9_7 a9_8 a9_9 a9_10 a9_11 a9_12 v9_13 v9_14 v9_15 v9_16 v9_17 v9_18 a9_19 v9_20 v9_21 v9_22 a9_23 a9_24 a9_25 a9_26 a9_27 a9_28 a9_29 a9_30 a9_31 a9_32 a9_33 a9_34 v9_35 v9_36 a9_37 a9_38 a9_39 a9_40 a9_41 v9_42 a9_43 a9_44 a9_45 a9_46 a9_47 v9_48 v9_49 v9_50 v9_51 a9_52 a9_53 v9_54 v9_55 a9_56 a9_57 v9_58 a9_59 a9_60 a9_61)), (a9_34, .inl (cyI, 202, .inl g9_34))]) [0, 1] (by decide) rfl
        exact W.zret (ty := .boolean) hx hb hr rfl (fun t ht hW => ⟨⟨_, (), rfl, ⟨rfl, rfl⟩, by rw [ht]; exact hP9, va_K.moved hW.alike hK, hD9⟩, hS.F ht⟩) hS.2.2 dX9_pop_61
      · replace hf := x_ip c_4 hf
        refine lv_iload_n hx hb dX9_pop_39 rfl (lv_at hl 0 rfl) ?_
        refine lv_iconst (v := 2) hx hb dX9_pop_40 (by decide) ?_
        refine lv_icmp_ne (tgt := 62) hx hb dX9_pop_41 (by decide) (fun c_5 => absurd (by decide) c_5) (fun _ => ?_)
        refine lv_aload_n hx hb dX9_pop_44 rfl (lv_at hl 1 rfl) ?_
        refine va_get (D := (dC, dI)) (ci := 9) (v := .ref a9_34) (C := RX9) (T := TX9) (N := 62) hx hb hts i_X9_pop_X9 hown hK hP 0 rfl rfl 34 (by decide) k_2 (fun _ h9 => h9) rfl dX9_pop_45 ?_
        refine lv_aload_n hx hb dX9_pop_48 rfl (lv_at hl 1 rfl) ?_
        refine va_get (D := (dC, dI)) (ci := 9) (v := .int v9_35) (C := RX9) (T := TX9) (N := 62) hx hb hts i_X9_pop_X9 hown hK hP 0 rfl rfl 35 (by decide) k_1 (fun _ h9 => h9) rfl dX9_pop_49 ?_
        refine lv_iconst (v := 1) hx hb dX9_pop_52 (by decide) ?_
        refine lv_isub hx hb dX9_pop_53 ?_
        obtain ⟨g_6, hf⟩ := x_gu hf
        refine va_iald hx hb hK hP 1 0 rfl rfl (x_gdin g_6) dX9_pop_54 ?_
        refine lv_bipush (v := 7) hx hb dX9_pop_55 (by decide) ?_
        refine lv_icmp_eq (tgt := 62) hx hb dX9_pop_57 (by decide) (fun c_7 => ?_) (fun c_7 => ?_)
        · replace hf := x_ip c_7 hf
          refine lv_aload_n hx hb dX9_pop_62 rfl (lv_at hl 1 rfl) ?_
          refine lv_dup hx hb dX9_pop_63 rfl ?_
          refine va_get (D := (dC, dI)) (ci := 9) (v := .int v9_35) (C := RX9) (T := TX9) (N := 62) hx hb hts i_X9_pop_X9 hown hK hP 0 rfl rfl 35 (by decide) k_1 (fun _ h9 => h9) rfl dX9_pop_64 ?_
          refine lv_iload_n hx hb dX9_pop_67 rfl (lv_at hl 0 rfl) ?_
          refine lv_isub hx hb dX9_pop_68 ?_
          refine va_put (D := (dC, dI)) (ci := 9) (v := .int (v9_35 - (2 : Int32))) (ty := .int) (C := RX9) (T := TX9) (N := 62) hx hb hts i_X9_pop_X9 tyX9 tyX9_ok nmX9 hown hK hP hD hS 0 rfl rfl 35 (by decide) k_1 (fun _ h9 => h9) rfl (by decide +kernel) rfl rfl (Nat.le_of_ble_eq_true rfl) dX9_pop_69 (fun H locs hP hD hS => ?_)
          have hP : va_P (dC, dI) vwCl [(o9, .inr (9, x_O9 v9_0 v9_1 v9_2 v9_3 a9_4 a9_5 a9_6 a9_7 a9_8 a9_9 a9_10 a9_11 a9_12 v9_13 v9_14 v9_15 v9_16 v9_17 v9_18 a9_19 v9_20 v9_21 v9_22 a9_23 a9_24 a9_25 a9_26 a9_27 a9_28 a9_29 a9_30 a9_31 a9_32 a9_33 a9_34 (v9_35 - (2 : Int32)) v9_36 a9_37 a9_38 a9_39 a9_40 a9_41 v9_42 a9_43 a9_44 a9_45 a9_46 a9_47 v9_48 v9_49 v9_50 v9_51 a9_52 a9_53 v9_54 v9_55 a9_56 a9_57 v9_58 a9_59 a9_60 a9_61)), (a9_34, .inl (cyI, 202, .inl g9_34))] H := hP
          have hD : va_D A [(o9, .inr (9, x_O9 v9_0 v9_1 v9_2 v9_3 a9_4 a9_5 a9_6 a9_7 a9_8 a9_9 a9_10 a9_11 a9_12 v9_13 v9_14 v9_15 v9_16 v9_17 v9_18 a9_19 v9_20 v9_21 v9_22 a9_23 a9_24 a9_25 a9_26 a9_27 a9_28 a9_29 a9_30 a9_31 a9_32 a9_33 a9_34 (v9_35 - (2 : Int32)) v9_36 a9_37 a9_38 a9_39 a9_40 a9_41 v9_42 a9_43 a9_44 a9_45 a9_46 a9_47 v9_48 v9_49 v9_50 v9_51 a9_52 a9_53 v9_54 v9_55 a9_56 a9_57 v9_58 a9_59 a9_60 a9_61)), (a9_34, .inl (cyI, 202, .inl g9_34))] := hD
          refine lv_iconst (v := 1) hx hb dX9_pop_72 (by decide) ?_
          obtain rfl := Option.some.inj hf
          have hP9 := hP.sub (ws' := [(o9, .inr (9, x_O9 v9_0 v9_1 v9_2 v9_3 a9_4 a9_5 a9_6 a9_7 a9_8 a9_9 a9_10 a9_11 a9_12 v9_13 v9_14 v9_15 v9_16 v9_17 v9_18 a9_19 v9_20 v9_21 v9_22 a9_23 a9_24 a9_25 a9_26 a9_27 a9_28 a9_29 a9_30 a9_31 a9_32 a9_33 a9_34 (v9_35 - (2 : Int32)) v9_36 a9_37 a9_38 a9_39 a9_40 a9_41 v9_42 a9_43 a9_44 a9_45 a9_46 a9_47 v9_48 v9_49 v9_50 v9_51 a9_52 a9_53 v9_54 v9_55 a9_56 a9_57 v9_58 a9_59 a9_60 a9_61)), (a9_34, .inl (cyI, 202, .inl g9_34))]) [0, 1] rfl
          have hD9 := hD.sub (ws' := [(o9, .inr (9, x_O9 v9_0 v9_1 v9_2 v9_3 a9_4 a9_5 a9_6 a9_7 a9_8 a9_9 a9_10 a9_11 a9_12 v9_13 v9_14 v9_15 v9_16 v9_17 v9_18 a9_19 v9_20 v9_21 v9_22 a9_23 a9_24 a9_25 a9_26 a9_27 a9_28 a9_29 a9_30 a9_31 a9_32 a9_33 a9_34 (v9_35 - (2 : Int32)) v9_36 a9_37 a9_38 a9_39 a9_40 a9_41 v9_42 a9_43 a9_44 a9_45 a9_46 a9_47 v9_48 v9_49 v9_50 v9_51 a9_52 a9_53 v9_54 v9_55 a9_56 a9_57 v9_58 a9_59 a9_60 a9_61)), (a9_34, .inl (cyI, 202, .inl g9_34))]) [0, 1] (by decide) rfl
          exact W.zret (ty := .boolean) hx hb hr rfl (fun t ht hW => ⟨⟨_, (), rfl, ⟨rfl, rfl⟩, by rw [ht]; exact hP9, va_K.moved hW.alike hK, hD9⟩, hS.F ht⟩) hS.2.2 dX9_pop_73
        · replace hf := x_in c_7 hf
          refine lv_iconst (v := 0) hx hb dX9_pop_60 (by decide) ?_
          obtain rfl := Option.some.inj hf
          have hP9 := hP.sub (ws' := [(o9, .inr (9, x_O9 v9_0 v9_1 v9_2 v9_3 a9_4 a9_5 a9_6 a9_7 a9_8 a9_9 a9_10 a9_11 a9_12 v9_13 v9_14 v9_15 v9_16 v9_17 v9_18 a9_19 v9_20 v9_21 v9_22 a9_23 a9_24 a9_25 a9_26 a9_27 a9_28 a9_29 a9_30 a9_31 a9_32 a9_33 a9_34 v9_35 v9_36 a9_37 a9_38 a9_39 a9_40 a9_41 v9_42 a9_43 a9_44 a9_45 a9_46 a9_47 v9_48 v9_49 v9_50 v9_51 a9_52 a9_53 v9_54 v9_55 a9_56 a9_57 v9_58 a9_59 a9_60 a9_61)), (a9_34, .inl (cyI, 202, .inl g9_34))]) [0, 1] rfl
          have hD9 := hD.sub (ws' := [(o9, .inr (9, x_O9 v9_0 v9_1 v9_2 v9_3 a9_4 a9_5 a9_6 a9_7 a9_8 a9_9 a9_10 a9_11 a9_12 v9_13 v9_14 v9_15 v9_16 v9_17 v9_18 a9_19 v9_20 v9_21 v9_22 a9_23 a9_24 a9_25 a9_26 a9_27 a9_28 a9_29 a9_30 a9_31 a9_32 a9_33 a9_34 v9_35 v9_36 a9_37 a9_38 a9_39 a9_40 a9_41 v9_42 a9_43 a9_44 a9_45 a9_46 a9_47 v9_48 v9_49 v9_50 v9_51 a9_52 a9_53 v9_54 v9_55 a9_56 a9_57 v9_58 a9_59 a9_60 a9_61)), (a9_34, .inl (cyI, 202, .inl g9_34))]) [0, 1] (by decide) rfl
          exact W.zret (ty := .boolean) hx hb hr rfl (fun t ht hW => ⟨⟨_, (), rfl, ⟨rfl, rfl⟩, by rw [ht]; exact hP9, va_K.moved hW.alike hK, hD9⟩, hS.F ht⟩) hS.2.2 dX9_pop_61
  · replace hf := x_in c_1 hf
    refine lv_iload_n hx hb dX9_pop_5 rfl (lv_at hl 1 rfl) ?_
    refine lv_iconst (v := 4) hx hb dX9_pop_6 (by decide) ?_
    refine lv_icmp_ne (tgt := 14) hx hb dX9_pop_7 (by decide) (fun c_8 => ?_) (fun c_8 => ?_)
    · replace hf := x_in c_8 hf
      refine lv_iconst (v := 1) hx hb dX9_pop_14 (by decide) ?_
      refine lv_istore_n (lv' := [(2, .int 1), (0, .ref o9), (1, .int p1)]) hx hb dX9_pop_15 rfl hl (by decide) rfl (fun ls hl => ?_)
      refine lv_aload_n hx hb dX9_pop_16 rfl (lv_at hl 1 rfl) ?_
      refine va_get (D := (dC, dI)) (ci := 9) (v := .int v9_35) (C := RX9) (T := TX9) (N := 62) hx hb hts i_X9_pop_X9 hown hK hP 0 rfl rfl 35 (by decide) k_1 (fun _ h9 => h9) rfl dX9_pop_17 ?_
      refine lv_iload_n hx hb dX9_pop_20 rfl (lv_at hl 0 rfl) ?_
      refine lv_icmp_lt (tgt := 60) hx hb dX9_pop_21 (by decide) (fun c_9 => ?_) (fun c_9 => ?_)
      · replace hf := x_ip c_9 hf
        refine lv_iconst (v := 0) hx hb dX9_pop_60 (by decide) ?_
        obtain rfl := Option.some.inj hf
        have hP9 := hP.sub (ws' := [(o9, .inr (9, x_O9 v9_0 v9_1 v9_2 v9_3 a9_4 a9_5 a9_6 a9_7 a9_8 a9_9 a9_10 a9_11 a9_12 v9_13 v9_14 v9_15 v9_16 v9_17 v9_18 a9_19 v9_20 v9_21 v9_22 a9_23 a9_24 a9_25 a9_26 a9_27 a9_28 a9_29 a9_30 a9_31 a9_32 a9_33 a9_34 v9_35 v9_36 a9_37 a9_38 a9_39 a9_40 a9_41 v9_42 a9_43 a9_44 a9_45 a9_46 a9_47 v9_48 v9_49 v9_50 v9_51 a9_52 a9_53 v9_54 v9_55 a9_56 a9_57 v9_58 a9_59 a9_60 a9_61)), (a9_34, .inl (cyI, 202, .inl g9_34))]) [0, 1] rfl
        have hD9 := hD.sub (ws' := [(o9, .inr (9, x_O9 v9_0 v9_1 v9_2 v9_3 a9_4 a9_5 a9_6 a9_7 a9_8 a9_9 a9_10 a9_11 a9_12 v9_13 v9_14 v9_15 v9_16 v9_17 v9_18 a9_19 v9_20 v9_21 v9_22 a9_23 a9_24 a9_25 a9_26 a9_27 a9_28 a9_29 a9_30 a9_31 a9_32 a9_33 a9_34 v9_35 v9_36 a9_37 a9_38 a9_39 a9_40 a9_41 v9_42 a9_43 a9_44 a9_45 a9_46 a9_47 v9_48 v9_49 v9_50 v9_51 a9_52 a9_53 v9_54 v9_55 a9_56 a9_57 v9_58 a9_59 a9_60 a9_61)), (a9_34, .inl (cyI, 202, .inl g9_34))]) [0, 1] (by decide) rfl
        exact W.zret (ty := .boolean) hx hb hr rfl (fun t ht hW => ⟨⟨_, (), rfl, ⟨rfl, rfl⟩, by rw [ht]; exact hP9, va_K.moved hW.alike hK, hD9⟩, hS.F ht⟩) hS.2.2 dX9_pop_61
      · replace hf := x_in c_9 hf
        refine lv_aload_n hx hb dX9_pop_24 rfl (lv_at hl 1 rfl) ?_
        refine va_get (D := (dC, dI)) (ci := 9) (v := .ref a9_34) (C := RX9) (T := TX9) (N := 62) hx hb hts i_X9_pop_X9 hown hK hP 0 rfl rfl 34 (by decide) k_2 (fun _ h9 => h9) rfl dX9_pop_25 ?_
        refine lv_aload_n hx hb dX9_pop_28 rfl (lv_at hl 1 rfl) ?_
        refine va_get (D := (dC, dI)) (ci := 9) (v := .int v9_35) (C := RX9) (T := TX9) (N := 62) hx hb hts i_X9_pop_X9 hown hK hP 0 rfl rfl 35 (by decide) k_1 (fun _ h9 => h9) rfl dX9_pop_29 ?_
        refine lv_iload_n hx hb dX9_pop_32 rfl (lv_at hl 0 rfl) ?_
        refine lv_isub hx hb dX9_pop_33 ?_
        obtain ⟨g_10, hf⟩ := x_gu hf
        refine va_iald hx hb hK hP 1 0 rfl rfl (x_gdin g_10) dX9_pop_34 ?_
        refine lv_iload_n hx hb dX9_pop_35 rfl (lv_at hl 2 rfl) ?_
        refine lv_icmp_ne (tgt := 60) hx hb dX9_pop_36 (by decide) (fun c_11 => ?_) (fun c_11 => ?_)
        · replace hf := x_in c_11 hf
          refine lv_iconst (v := 0) hx hb dX9_pop_60 (by decide) ?_
          obtain rfl := Option.some.inj hf
          have hP9 := hP.sub (ws' := [(o9, .inr (9, x_O9 v9_0 v9_1 v9_2 v9_3 a9_4 a9_5 a9_6 a9_7 a9_8 a9_9 a9_10 a9_11 a9_12 v9_13 v9_14 v9_15 v9_16 v9_17 v9_18 a9_19 v9_20 v9_21 v9_22 a9_23 a9_24 a9_25 a9_26 a9_27 a9_28 a9_29 a9_30 a9_31 a9_32 a9_33 a9_34 v9_35 v9_36 a9_37 a9_38 a9_39 a9_40 a9_41 v9_42 a9_43 a9_44 a9_45 a9_46 a9_47 v9_48 v9_49 v9_50 v9_51 a9_52 a9_53 v9_54 v9_55 a9_56 a9_57 v9_58 a9_59 a9_60 a9_61)), (a9_34, .inl (cyI, 202, .inl g9_34))]) [0, 1] rfl
          have hD9 := hD.sub (ws' := [(o9, .inr (9, x_O9 v9_0 v9_1 v9_2 v9_3 a9_4 a9_5 a9_6 a9_7 a9_8 a9_9 a9_10 a9_11 a9_12 v9_13 v9_14 v9_15 v9_16 v9_17 v9_18 a9_19 v9_20 v9_21 v9_22 a9_23 a9_24 a9_25 a9_26 a9_27 a9_28 a9_29 a9_30 a9_31 a9_32 a9_33 a9_34 v9_35 v9_36 a9_37 a9_38 a9_39 a9_40 a9_41 v9_42 a9_43 a9_44 a9_45 a9_46 a9_47 v9_48 v9_49 v9_50 v9_51 a9_52 a9_53 v9_54 v9_55 a9_56 a9_57 v9_58 a9_59 a9_60 a9_61)), (a9_34, .inl (cyI, 202, .inl g9_34))]) [0, 1] (by decide) rfl
          exact W.zret (ty := .boolean) hx hb hr rfl (fun t ht hW => ⟨⟨_, (), rfl, ⟨rfl, rfl⟩, by rw [ht]; exact hP9, va_K.moved hW.alike hK, hD9⟩, hS.F ht⟩) hS.2.2 dX9_pop_61
        · replace hf := x_ip c_11 hf
          refine lv_iload_n hx hb dX9_pop_39 rfl (lv_at hl 0 rfl) ?_
          refine lv_iconst (v := 2) hx hb dX9_pop_40 (by decide) ?_
          refine lv_icmp_ne (tgt := 62) hx hb dX9_pop_41 (by decide) (fun _ => ?_) (fun c_12 => absurd c_12 (by decide))
          refine lv_aload_n hx hb dX9_pop_62 rfl (lv_at hl 1 rfl) ?_
          refine lv_dup hx hb dX9_pop_63 rfl ?_
          refine va_get (D := (dC, dI)) (ci := 9) (v := .int v9_35) (C := RX9) (T := TX9) (N := 62) hx hb hts i_X9_pop_X9 hown hK hP 0 rfl rfl 35 (by decide) k_1 (fun _ h9 => h9) rfl dX9_pop_64 ?_
          refine lv_iload_n hx hb dX9_pop_67 rfl (lv_at hl 0 rfl) ?_
          refine lv_isub hx hb dX9_pop_68 ?_
          refine va_put (D := (dC, dI)) (ci := 9) (v := .int (v9_35 - (1 : Int32))) (ty := .int) (C := RX9) (T := TX9) (N := 62) hx hb hts i_X9_pop_X9 tyX9 tyX9_ok nmX9 hown hK hP hD hS 0 rfl rfl 35 (by decide) k_1 (fun _ h9 => h9) rfl (by decide +kernel) rfl rfl (Nat.le_of_ble_eq_true rfl) dX9_pop_69 (fun H locs hP hD hS => ?_)
          have hP : va_P (dC, dI) vwCl [(o9, .inr (9, x_O9 v9_0 v9_1 v9_2 v9_3 a9_4 a9_5 a9_6 a9_7 a9_8 a9_9 a9_10 a9_11 a9_12 v9_13 v9_14 v9_15 v9_16 v9_17 v9_18 a9_19 v9_20 v9_21 v9_22 a9_23 a9_24 a9_25 a9_26 a9_27 a9_28 a9_29 a9_30 a9_31 a9_32 a9_33 a9_34 (v9_35 - (1 : Int32)) v9_36 a9_37 a9_38 a9_39 a9_40 a9_41 v9_42 a9_43 a9_44 a9_45 a9_46 a9_47 v9_48 v9_49 v9_50 v9_51 a9_52 a9_53 v9_54 v9_55 a9_56 a9_57 v9_58 a9_59 a9_60 a9_61)), (a9_34, .inl (cyI, 202, .inl g9_34))] H := hP
          have hD : va_D A [(o9, .inr (9, x_O9 v9_0 v9_1 v9_2 v9_3 a9_4 a9_5 a9_6 a9_7 a9_8 a9_9 a9_10 a9_11 a9_12 v9_13 v9_14 v9_15 v9_16 v9_17 v9_18 a9_19 v9_20 v9_21 v9_22 a9_23 a9_24 a9_25 a9_26 a9_27 a9_28 a9_29 a9_30 a9_31 a9_32 a9_33 a9_34 (v9_35 - (1 : Int32)) v9_36 a9_37 a9_38 a9_39 a9_40 a9_41 v9_42 a9_43 a9_44 a9_45 a9_46 a9_47 v9_48 v9_49 v9_50 v9_51 a9_52 a9_53 v9_54 v9_55 a9_56 a9_57 v9_58 a9_59 a9_60 a9_61)), (a9_34, .inl (cyI, 202, .inl g9_34))] := hD
          refine lv_iconst (v := 1) hx hb dX9_pop_72 (by decide) ?_
          obtain rfl := Option.some.inj hf
          have hP9 := hP.sub (ws' := [(o9, .inr (9, x_O9 v9_0 v9_1 v9_2 v9_3 a9_4 a9_5 a9_6 a9_7 a9_8 a9_9 a9_10 a9_11 a9_12 v9_13 v9_14 v9_15 v9_16 v9_17 v9_18 a9_19 v9_20 v9_21 v9_22 a9_23 a9_24 a9_25 a9_26 a9_27 a9_28 a9_29 a9_30 a9_31 a9_32 a9_33 a9_34 (v9_35 - (1 : Int32)) v9_36 a9_37 a9_38 a9_39 a9_40 a9_41 v9_42 a9_43 a9_44 a9_45 a9_46 a9_47 v9_48 v9_49 v9_50 v9_51 a9_52 a9_53 v9_54 v9_55 a9_56 a9_57 v9_58 a9_59 a9_60 a9_61)), (a9_34, .inl (cyI, 202, .inl g9_34))]) [0, 1] rfl
          have hD9 := hD.sub (ws' := [(o9, .inr (9, x_O9 v9_0 v9_1 v9_2 v9_3 a9_4 a9_5 a9_6 a9_7 a9_8 a9_9 a9_10 a9_11 a9_12 v9_13 v9_14 v9_15 v9_16 v9_17 v9_18 a9_19 v9_20 v9_21 v9_22 a9_23 a9_24 a9_25 a9_26 a9_27 a9_28 a9_29 a9_30 a9_31 a9_32 a9_33 a9_34 (v9_35 - (1 : Int32)) v9_36 a9_37 a9_38 a9_39 a9_40 a9_41 v9_42 a9_43 a9_44 a9_45 a9_46 a9_47 v9_48 v9_49 v9_50 v9_51 a9_52 a9_53 v9_54 v9_55 a9_56 a9_57 v9_58 a9_59 a9_60 a9_61)), (a9_34, .inl (cyI, 202, .inl g9_34))]) [0, 1] (by decide) rfl
          exact W.zret (ty := .boolean) hx hb hr rfl (fun t ht hW => ⟨⟨_, (), rfl, ⟨rfl, rfl⟩, by rw [ht]; exact hP9, va_K.moved hW.alike hK, hD9⟩, hS.F ht⟩) hS.2.2 dX9_pop_73
    · replace hf := x_ip c_8 hf
      refine lv_iconst (v := 2) hx hb dX9_pop_10 (by decide) ?_
      refine lv_goto (tgt := 15) hx hb dX9_pop_11 (by decide) ?_
      refine lv_istore_n (lv' := [(2, .int 2), (0, .ref o9), (1, .int p1)]) hx hb dX9_pop_15 rfl hl (by decide) rfl (fun ls hl => ?_)
      refine lv_aload_n hx hb dX9_pop_16 rfl (lv_at hl 1 rfl) ?_
      refine va_get (D := (dC, dI)) (ci := 9) (v := .int v9_35) (C := RX9) (T := TX9) (N := 62) hx hb hts i_X9_pop_X9 hown hK hP 0 rfl rfl 35 (by decide) k_1 (fun _ h9 => h9) rfl dX9_pop_17 ?_
      refine lv_iload_n hx hb dX9_pop_20 rfl (lv_at hl 0 rfl) ?_
      refine lv_icmp_lt (tgt := 60) hx hb dX9_pop_21 (by decide) (fun c_13 => ?_) (fun c_13 => ?_)
      · replace hf := x_ip c_13 hf
        refine lv_iconst (v := 0) hx hb dX9_pop_60 (by decide) ?_
        obtain rfl := Option.some.inj hf
        have hP9 := hP.sub (ws' := [(o9, .inr (9, x_O9 v9_0 v9_1 v9_2 v9_3 a9_4 a9_5 a9_6 a9_7 a9_8 a9_9 a9_10 a9_11 a9_12 v9_13 v9_14 v9_15 v9_16 v9_17 v9_18 a9_19 v9_20 v9_21 v9_22 a9_23 a9_24 a9_25 a9_26 a9_27 a9_28 a9_29 a9_30 a9_31 a9_32 a9_33 a9_34 v9_35 v9_36 a9_37 a9_38 a9_39 a9_40 a9_41 v9_42 a9_43 a9_44 a9_45 a9_46 a9_47 v9_48 v9_49 v9_50 v9_51 a9_52 a9_53 v9_54 v9_55 a9_56 a9_57 v9_58 a9_59 a9_60 a9_61)), (a9_34, .inl (cyI, 202, .inl g9_34))]) [0, 1] rfl
        have hD9 := hD.sub (ws' := [(o9, .inr (9, x_O9 v9_0 v9_1 v9_2 v9_3 a9_4 a9_5 a9_6 a9_7 a9_8 a9_9 a9_10 a9_11 a9_12 v9_13 v9_14 v9_15 v9_16 v9_17 v9_18 a9_19 v9_20 v9_21 v9_22 a9_23 a9_24 a9_25 a9_26 a9_27 a9_28 a9_29 a9_30 a9_31 a9_32 a9_33 a9_34 v9_35 v9_36 a9_37 a9_38 a9_39 a9_40 a9_41 v9_42 a9_43 a9_44 a9_45 a9_46 a9_47 v9_48 v9_49 v9_50 v9_51 a9_52 a9_53 v9_54 v9_55 a9_56 a9_57 v9_58 a9_59 a9_60 a9_61)), (a9_34, .inl (cyI, 202, .inl g9_34))]) [0, 1] (by decide) rfl
        exact W.zret (ty := .boolean) hx hb hr rfl (fun t ht hW => ⟨⟨_, (), rfl, ⟨rfl, rfl⟩, by rw [ht]; exact hP9, va_K.moved hW.alike hK, hD9⟩, hS.F ht⟩) hS.2.2 dX9_pop_61
      · replace hf := x_in c_13 hf
        refine lv_aload_n hx hb dX9_pop_24 rfl (lv_at hl 1 rfl) ?_
        refine va_get (D := (dC, dI)) (ci := 9) (v := .ref a9_34) (C := RX9) (T := TX9) (N := 62) hx hb hts i_X9_pop_X9 hown hK hP 0 rfl rfl 34 (by decide) k_2 (fun _ h9 => h9) rfl dX9_pop_25 ?_
        refine lv_aload_n hx hb dX9_pop_28 rfl (lv_at hl 1 rfl) ?_
        refine va_get (D := (dC, dI)) (ci := 9) (v := .int v9_35) (C := RX9) (T := TX9) (N := 62) hx hb hts i_X9_pop_X9 hown hK hP 0 rfl rfl 35 (by decide) k_1 (fun _ h9 => h9) rfl dX9_pop_29 ?_
        refine lv_iload_n hx hb dX9_pop_32 rfl (lv_at hl 0 rfl) ?_
        refine lv_isub hx hb dX9_pop_33 ?_
        obtain ⟨g_14, hf⟩ := x_gu hf
        refine va_iald hx hb hK hP 1 0 rfl rfl (x_gdin g_14) dX9_pop_34 ?_
        refine lv_iload_n hx hb dX9_pop_35 rfl (lv_at hl 2 rfl) ?_
        refine lv_icmp_ne (tgt := 60) hx hb dX9_pop_36 (by decide) (fun c_15 => ?_) (fun c_15 => ?_)
        · replace hf := x_in c_15 hf
          refine lv_iconst (v := 0) hx hb dX9_pop_60 (by decide) ?_
          obtain rfl := Option.some.inj hf
          have hP9 := hP.sub (ws' := [(o9, .inr (9, x_O9 v9_0 v9_1 v9_2 v9_3 a9_4 a9_5 a9_6 a9_7 a9_8 a9_9 a9_10 a9_11 a9_12 v9_13 v9_14 v9_15 v9_16 v9_17 v9_18 a9_19 v9_20 v9_21 v9_22 a9_23 a9_24 a9_25 a9_26 a9_27 a9_28 a9_29 a9_30 a9_31 a9_32 a9_33 a9_34 v9_35 v9_36 a9_37 a9_38 a9_39 a9_40 a9_41 v9_42 a9_43 a9_44 a9_45 a9_46 a9_47 v9_48 v9_49 v9_50 v9_51 a9_52 a9_53 v9_54 v9_55 a9_56 a9_57 v9_58 a9_59 a9_60 a9_61)), (a9_34, .inl (cyI, 202, .inl g9_34))]) [0, 1] rfl
          have hD9 := hD.sub (ws' := [(o9, .inr (9, x_O9 v9_0 v9_1 v9_2 v9_3 a9_4 a9_5 a9_6 a9_7 a9_8 a9_9 a9_10 a9_11 a9_12 v9_13 v9_14 v9_15 v9_16 v9_17 v9_18 a9_19 v9_20 v9_21 v9_22 a9_23 a9_24 a9_25 a9_26 a9_27 a9_28 a9_29 a9_30 a9_31 a9_32 a9_33 a9_34 v9_35 v9_36 a9_37 a9_38 a9_39 a9_40 a9_41 v9_42 a9_43 a9_44 a9_45 a9_46 a9_47 v9_48 v9_49 v9_50 v9_51 a9_52 a9_53 v9_54 v9_55 a9_56 a9_57 v9_58 a9_59 a9_60 a9_61)), (a9_34, .inl (cyI, 202, .inl g9_34))]) [0, 1] (by decide) rfl
          exact W.zret (ty := .boolean) hx hb hr rfl (fun t ht hW => ⟨⟨_, (), rfl, ⟨rfl, rfl⟩, by rw [ht]; exact hP9, va_K.moved hW.alike hK, hD9⟩, hS.F ht⟩) hS.2.2 dX9_pop_61
        · replace hf := x_ip c_15 hf
          refine lv_iload_n hx hb dX9_pop_39 rfl (lv_at hl 0 rfl) ?_
          refine lv_iconst (v := 2) hx hb dX9_pop_40 (by decide) ?_
          refine lv_icmp_ne (tgt := 62) hx hb dX9_pop_41 (by decide) (fun c_16 => absurd (by decide) c_16) (fun _ => ?_)
          refine lv_aload_n hx hb dX9_pop_44 rfl (lv_at hl 1 rfl) ?_
          refine va_get (D := (dC, dI)) (ci := 9) (v := .ref a9_34) (C := RX9) (T := TX9) (N := 62) hx hb hts i_X9_pop_X9 hown hK hP 0 rfl rfl 34 (by decide) k_2 (fun _ h9 => h9) rfl dX9_pop_45 ?_
          refine lv_aload_n hx hb dX9_pop_48 rfl (lv_at hl 1 rfl) ?_
          refine va_get (D := (dC, dI)) (ci := 9) (v := .int v9_35) (C := RX9) (T := TX9) (N := 62) hx hb hts i_X9_pop_X9 hown hK hP 0 rfl rfl 35 (by decide) k_1 (fun _ h9 => h9) rfl dX9_pop_49 ?_
          refine lv_iconst (v := 1) hx hb dX9_pop_52 (by decide) ?_
          refine lv_isub hx hb dX9_pop_53 ?_
          obtain ⟨g_17, hf⟩ := x_gu hf
          refine va_iald hx hb hK hP 1 0 rfl rfl (x_gdin g_17) dX9_pop_54 ?_
          refine lv_bipush (v := 7) hx hb dX9_pop_55 (by decide) ?_
          refine lv_icmp_eq (tgt := 62) hx hb dX9_pop_57 (by decide) (fun c_18 => ?_) (fun c_18 => ?_)
          · replace hf := x_ip c_18 hf
            refine lv_aload_n hx hb dX9_pop_62 rfl (lv_at hl 1 rfl) ?_
            refine lv_dup hx hb dX9_pop_63 rfl ?_
            refine va_get (D := (dC, dI)) (ci := 9) (v := .int v9_35) (C := RX9) (T := TX9) (N := 62) hx hb hts i_X9_pop_X9 hown hK hP 0 rfl rfl 35 (by decide) k_1 (fun _ h9 => h9) rfl dX9_pop_64 ?_
            refine lv_iload_n hx hb dX9_pop_67 rfl (lv_at hl 0 rfl) ?_
            refine lv_isub hx hb dX9_pop_68 ?_
            refine va_put (D := (dC, dI)) (ci := 9) (v := .int (v9_35 - (2 : Int32))) (ty := .int) (C := RX9) (T := TX9) (N := 62) hx hb hts i_X9_pop_X9 tyX9 tyX9_ok nmX9 hown hK hP hD hS 0 rfl rfl 35 (by decide) k_1 (fun _ h9 => h9) rfl (by decide +kernel) rfl rfl (Nat.le_of_ble_eq_true rfl) dX9_pop_69 (fun H locs hP hD hS => ?_)
            have hP : va_P (dC, dI) vwCl [(o9, .inr (9, x_O9 v9_0 v9_1 v9_2 v9_3 a9_4 a9_5 a9_6 a9_7 a9_8 a9_9 a9_10 a9_11 a9_12 v9_13 v9_14 v9_15 v9_16 v9_17 v9_18 a9_19 v9_20 v9_21 v9_22 a9_23 a9_24 a9_25 a9_26 a9_27 a9_28 a9_29 a9_30 a9_31 a9_32 a9_33 a9_34 (v9_35 - (2 : Int32)) v9_36 a9_37 a9_38 a9_39 a9_40 a9_41 v9_42 a9_43 a9_44 a9_45 a9_46 a9_47 v9_48 v9_49 v9_50 v9_51 a9_52 a9_53 v9_54 v9_55 a9_56 a9_57 v9_58 a9_59 a9_60 a9_61)), (a9_34, .inl (cyI, 202, .inl g9_34))] H := hP
            have hD : va_D A [(o9, .inr (9, x_O9 v9_0 v9_1 v9_2 v9_3 a9_4 a9_5 a9_6 a9_7 a9_8 a9_9 a9_10 a9_11 a9_12 v9_13 v9_14 v9_15 v9_16 v9_17 v9_18 a9_19 v9_20 v9_21 v9_22 a9_23 a9_24 a9_25 a9_26 a9_27 a9_28 a9_29 a9_30 a9_31 a9_32 a9_33 a9_34 (v9_35 - (2 : Int32)) v9_36 a9_37 a9_38 a9_39 a9_40 a9_41 v9_42 a9_43 a9_44 a9_45 a9_46 a9_47 v9_48 v9_49 v9_50 v9_51 a9_52 a9_53 v9_54 v9_55 a9_56 a9_57 v9_58 a9_59 a9_60 a9_61)), (a9_34, .inl (cyI, 202, .inl g9_34))] := hD
            refine lv_iconst (v := 1) hx hb dX9_pop_72 (by decide) ?_
            obtain rfl := Option.some.inj hf
            have hP9 := hP.sub (ws' := [(o9, .inr (9, x_O9 v9_0 v9_1 v9_2 v9_3 a9_4 a9_5 a9_6 a9_7 a9_8 a9_9 a9_10 a9_11 a9_12 v9_13 v9_14 v9_15 v9_16 v9_17 v9_18 a9_19 v9_20 v9_21 v9_22 a9_23 a9_24 a9_25 a9_26 a9_27 a9_28 a9_29 a9_30 a9_31 a9_32 a9_33 a9_34 (v9_35 - (2 : Int32)) v9_36 a9_37 a9_38 a9_39 a9_40 a9_41 v9_42 a9_43 a9_44 a9_45 a9_46 a9_47 v9_48 v9_49 v9_50 v9_51 a9_52 a9_53 v9_54 v9_55 a9_56 a9_57 v9_58 a9_59 a9_60 a9_61)), (a9_34, .inl (cyI, 202, .inl g9_34))]) [0, 1] rfl
            have hD9 := hD.sub (ws' := [(o9, .inr (9, x_O9 v9_0 v9_1 v9_2 v9_3 a9_4 a9_5 a9_6 a9_7 a9_8 a9_9 a9_10 a9_11 a9_12 v9_13 v9_14 v9_15 v9_16 v9_17 v9_18 a9_19 v9_20 v9_21 v9_22 a9_23 a9_24 a9_25 a9_26 a9_27 a9_28 a9_29 a9_30 a9_31 a9_32 a9_33 a9_34 (v9_35 - (2 : Int32)) v9_36 a9_37 a9_38 a9_39 a9_40 a9_41 v9_42 a9_43 a9_44 a9_45 a9_46 a9_47 v9_48 v9_49 v9_50 v9_51 a9_52 a9_53 v9_54 v9_55 a9_56 a9_57 v9_58 a9_59 a9_60 a9_61)), (a9_34, .inl (cyI, 202, .inl g9_34))]) [0, 1] (by decide) rfl
            exact W.zret (ty := .boolean) hx hb hr rfl (fun t ht hW => ⟨⟨_, (), rfl, ⟨rfl, rfl⟩, by rw [ht]; exact hP9, va_K.moved hW.alike hK, hD9⟩, hS.F ht⟩) hS.2.2 dX9_pop_73
          · replace hf := x_in c_18 hf
            refine lv_iconst (v := 0) hx hb dX9_pop_60 (by decide) ?_
            obtain rfl := Option.some.inj hf
            have hP9 := hP.sub (ws' := [(o9, .inr (9, x_O9 v9_0 v9_1 v9_2 v9_3 a9_4 a9_5 a9_6 a9_7 a9_8 a9_9 a9_10 a9_11 a9_12 v9_13 v9_14 v9_15 v9_16 v9_17 v9_18 a9_19 v9_20 v9_21 v9_22 a9_23 a9_24 a9_25 a9_26 a9_27 a9_28 a9_29 a9_30 a9_31 a9_32 a9_33 a9_34 v9_35 v9_36 a9_37 a9_38 a9_39 a9_40 a9_41 v9_42 a9_43 a9_44 a9_45 a9_46 a9_47 v9_48 v9_49 v9_50 v9_51 a9_52 a9_53 v9_54 v9_55 a9_56 a9_57 v9_58 a9_59 a9_60 a9_61)), (a9_34, .inl (cyI, 202, .inl g9_34))]) [0, 1] rfl
            have hD9 := hD.sub (ws' := [(o9, .inr (9, x_O9 v9_0 v9_1 v9_2 v9_3 a9_4 a9_5 a9_6 a9_7 a9_8 a9_9 a9_10 a9_11 a9_12 v9_13 v9_14 v9_15 v9_16 v9_17 v9_18 a9_19 v9_20 v9_21 v9_22 a9_23 a9_24 a9_25 a9_26 a9_27 a9_28 a9_29 a9_30 a9_31 a9_32 a9_33 a9_34 v9_35 v9_36 a9_37 a9_38 a9_39 a9_40 a9_41 v9_42 a9_43 a9_44 a9_45 a9_46 a9_47 v9_48 v9_49 v9_50 v9_51 a9_52 a9_53 v9_54 v9_55 a9_56 a9_57 v9_58 a9_59 a9_60 a9_61)), (a9_34, .inl (cyI, 202, .inl g9_34))]) [0, 1] (by decide) rfl
            exact W.zret (ty := .boolean) hx hb hr rfl (fun t ht hW => ⟨⟨_, (), rfl, ⟨rfl, rfl⟩, by rw [ht]; exact hP9, va_K.moved hW.alike hK, hD9⟩, hS.F ht⟩) hS.2.2 dX9_pop_61

def f_X9_popRef (v9_35 : Int32) (g9_34 : Nat → Int32) : Option (Int32 × Int32) := if v9_35 = (0 : Int32) then some (0, v9_35) else if x_gd (v9_35 - (1 : Int32)) 202 = true then (f_X9_isRef (g9_34 (Int32.toNatClampNeg (v9_35 - (1 : Int32))))) >>= (fun r_3 => if r_3 = (0 : Int32) then some (0, v9_35) else some (1, v9_35 - (1 : Int32))) else none
theorem i_X9_popRef_X9 : ∀ w ∈ wsX90, w ∈ wsX9_popRef := fun _ h => List.mem_cons_of_mem _ (List.mem_append_right _ h)
set_option maxHeartbeats 4000000 in
set_option maxRecDepth 100000 in
theorem c_X9_popRef (l : Launch) (dC : Nat → ClassId) (dI : Nat → Nat → Nat) (cyI cyZ cyJ : ClassId) (sz : Nat) (o9 : Nat) (v9_0 : Int32) (v9_1 : Int32) (v9_2 : Int32) (v9_3 : Int32) (a9_4 : Nat) (a9_5 : Nat) (a9_6 : Nat) (a9_7 : Nat) (a9_8 : Nat) (a9_9 : Nat) (a9_10 : Nat) (a9_11 : Nat) (a9_12 : Nat) (v9_13 : Int32) (v9_14 : Int32) (v9_15 : Int32) (v9_16 : Int32) (v9_17 : Int32) (v9_18 : Int32) (a9_19 : Nat) (v9_20 : Int32) (v9_21 : Int32) (v9_22 : Int32) (a9_23 : Nat) (a9_24 : Nat) (a9_25 : Nat) (a9_26 : Nat) (a9_27 : Nat) (a9_28 : Nat) (a9_29 : Nat) (a9_30 : Nat) (a9_31 : Nat) (a9_32 : Nat) (a9_33 : Nat) (a9_34 : Nat) (v9_35 : Int32) (v9_36 : Int32) (a9_37 : Nat) (a9_38 : Nat) (a9_39 : Nat) (a9_40 : Nat) (a9_41 : Nat) (v9_42 : Int32) (a9_43 : Nat) (a9_44 : Nat) (a9_45 : Nat) (a9_46 : Nat) (a9_47 : Nat) (v9_48 : Int32) (v9_49 : Int32) (v9_50 : Int32) (v9_51 : Int32) (a9_52 : Nat) (a9_53 : Nat) (v9_54 : Int32) (v9_55 : Int32) (a9_56 : Nat) (a9_57 : Nat) (v9_58 : Int32) (a9_59 : Nat) (a9_60 : Nat) (a9_61 : Nat) (g9_34 : Nat → Int32) (R : Int32 × Int32) (hf : f_X9_popRef v9_35 g9_34 = some R) : Met l yX9_popRef wsX9_popRef ({ frames := 1, cells := 0, slots := 0, locals := 20 }) (va_Pc [.ref o9] (x_PreD (dC, dI) (x_T cyI cyZ cyJ) [(o9, .inr (9, x_O9 v9_0 v9_1 v9_2 v9_3 a9_4 a9_5 a9_6 a9_7 a9_8 a9_9 a9_10 a9_11 a9_12 v9_13 v9_14 v9_15 v9_16 v9_17 v9_18 a9_19 v9_20 v9_21 v9_22 a9_23 a9_24 a9_25 a9_26 a9_27 a9_28 a9_29 a9_30 a9_31 a9_32 a9_33 a9_34 v9_35 v9_36 a9_37 a9_38 a9_39 a9_40 a9_41 v9_42 a9_43 a9_44 a9_45 a9_46 a9_47 v9_48 v9_49 v9_50 v9_51 a9_52 a9_53 v9_54 v9_55 a9_56 a9_57 v9_58 a9_59 a9_60 a9_61)), (a9_34, .inl (cyI, 202, .inl g9_34))] sz)) (va_Qi (fun (r : Int32) (_ : Unit) => r = R.1 ∧ x_nb r) (fun (_ : Unit) (t : State) => va_P (dC, dI) vwCl [(o9, .inr (9, x_O9 v9_0 v9_1 v9_2 v9_3 a9_4 a9_5 a9_6 a9_7 a9_8 a9_9 a9_10 a9_11 a9_12 v9_13 v9_14 v9_15 v9_16 v9_17 v9_18 a9_19 v9_20 v9_21 v9_22 a9_23 a9_24 a9_25 a9_26 a9_27 a9_28 a9_29 a9_30 a9_31 a9_32 a9_33 a9_34 (R.2) v9_36 a9_37 a9_38 a9_39 a9_40 a9_41 v9_42 a9_43 a9_44 a9_45 a9_46 a9_47 v9_48 v9_49 v9_50 v9_51 a9_52 a9_53 v9_54 v9_55 a9_56 a9_57 v9_58 a9_59 a9_60 a9_61)), (a9_34, .inl (cyI, 202, .inl g9_34))] t.heap ∧ va_K (dC, dI) vwCl (x_T cyI cyZ cyJ) t ∧ va_D (va_A [(o9, .inr (9, x_O9 v9_0 v9_1 v9_2 v9_3 a9_4 a9_5 a9_6 a9_7 a9_8 a9_9 a9_10 a9_11 a9_12 v9_13 v9_14 v9_15 v9_16 v9_17 v9_18 a9_19 v9_20 v9_21 v9_22 a9_23 a9_24 a9_25 a9_26 a9_27 a9_28 a9_29 a9_30 a9_31 a9_32 a9_33 a9_34 v9_35 v9_36 a9_37 a9_38 a9_39 a9_40 a9_41 v9_42 a9_43 a9_44 a9_45 a9_46 a9_47 v9_48 v9_49 v9_50 v9_51 a9_52 a9_53 v9_54 v9_55 a9_56 a9_57 v9_58 a9_59 a9_60 a9_61)), (a9_34, .inl (cyI, 202, .inl g9_34))] sz) [(o9, .inr (9, x_O9 v9_0 v9_1 v9_2 v9_3 a9_4 a9_5 a9_6 a9_7 a9_8 a9_9 a9_10 a9_11 a9_12 v9_13 v9_14 v9_15 v9_16 v9_17 v9_18 a9_19 v9_20 v9_21 v9_22 a9_23 a9_24 a9_25 a9_26 a9_27 a9_28 a9_29 a9_30 a9_31 a9_32 a9_33 a9_34 (R.2) v9_36 a9_37 a9_38 a9_39 a9_40 a9_41 v9_42 a9_43 a9_44 a9_45 a9_46 a9_47 v9_48 v9_49 v9_50 v9_51 a9_52 a9_53 v9_54 v9_55 a9_56 a9_57 v9_58 a9_59 a9_60 a9_61)), (a9_34, .inl (cyI, 202, .inl g9_34))]) (va_A [(o9, .inr (9, x_O9 v9_0 v9_1 v9_2 v9_3 a9_4 a9_5 a9_6 a9_7 a9_8 a9_9 a9_10 a9_11 a9_12 v9_13 v9_14 v9_15 v9_16 v9_17 v9_18 a9_19 v9_20 v9_21 v9_22 a9_23 a9_24 a9_25 a9_26 a9_27 a9_28 a9_29 a9_30 a9_31 a9_32 a9_33 a9_34 v9_35 v9_36 a9_37 a9_38 a9_39 a9_40 a9_41 v9_42 a9_43 a9_44 a9_45 a9_46 a9_47 v9_48 v9_49 v9_50 v9_51 a9_52 a9_53 v9_54 v9_55 a9_56 a9_57 v9_58 a9_59 a9_60 a9_61)), (a9_34, .inl (cyI, 202, .inl g9_34))] sz)) 0 0 (va_A [(o9, .inr (9, x_O9 v9_0 v9_1 v9_2 v9_3 a9_4 a9_5 a9_6 a9_7 a9_8 a9_9 a9_10 a9_11 a9_12 v9_13 v9_14 v9_15 v9_16 v9_17 v9_18 a9_19 v9_20 v9_21 v9_22 a9_23 a9_24 a9_25 a9_26 a9_27 a9_28 a9_29 a9_30 a9_31 a9_32 a9_33 a9_34 v9_35 v9_36 a9_37 a9_38 a9_39 a9_40 a9_41 v9_42 a9_43 a9_44 a9_45 a9_46 a9_47 v9_48 v9_49 v9_50 v9_51 a9_52 a9_53 v9_54 v9_55 a9_56 a9_57 v9_58 a9_59 a9_60 a9_61)), (a9_34, .inl (cyI, 202, .inl g9_34))] sz) := by
  refine Met.ofW (cc := cX9_popRef) (maxL := 1) (ret := (some .boolean)) (by decide) rfl ?_
  intro p e s m args below meth c s₁ B hml hv
  obtain ⟨rfl, ⟨hsz, hP, hK, hN⟩, hD0⟩ := hv
  have hx := B.exec
  have hb := B.bytes
  have hr := B.returns
  have hts := atoms_spec (ws := wsX9_popRef) B.pre
  have hown : s.vm.findClass RX9 = some m.cls := findClass_of_methodNamed B.named
  have k_1 := hts (.fieldLink RX9 215 "FlowJudgeModel" "h" "I") (by decide +kernel)
  have k_2 := hts (.fieldLink RX9 85 "FlowJudgeModel" "st" "[I") (by decide +kernel)
  subst hsz
  have hD := hD0.self (sz := s.heap.size)
  generalize hAe : va_A [(o9, .inr (9, x_O9 v9_0 v9_1 v9_2 v9_3 a9_4 a9_5 a9_6 a9_7 a9_8 a9_9 a9_10 a9_11 a9_12 v9_13 v9_14 v9_15 v9_16 v9_17 v9_18 a9_19 v9_20 v9_21 v9_22 a9_23 a9_24 a9_25 a9_26 a9_27 a9_28 a9_29 a9_30 a9_31 a9_32 a9_33 a9_34 v9_35 v9_36 a9_37 a9_38 a9_39 a9_40 a9_41 v9_42 a9_43 a9_44 a9_45 a9_46 a9_47 v9_48 v9_49 v9_50 v9_51 a9_52 a9_53 v9_54 v9_55 a9_56 a9_57 v9_58 a9_59 a9_60 a9_61)), (a9_34, .inl (cyI, 202, .inl g9_34))] s.heap.size = A at hD ⊢
  have hA : ∀ q : Nat, s.heap.size ≤ q → A q := fun q h => by rw [← hAe]; exact Or.inr h
  have hP : va_P (dC, dI) vwCl [(o9, .inr (9, x_O9 v9_0 v9_1 v9_2 v9_3 a9_4 a9_5 a9_6 a9_7 a9_8 a9_9 a9_10 a9_11 a9_12 v9_13 v9_14 v9_15 v9_16 v9_17 v9_18 a9_19 v9_20 v9_21 v9_22 a9_23 a9_24 a9_25 a9_26 a9_27 a9_28 a9_29 a9_30 a9_31 a9_32 a9_33 a9_34 v9_35 v9_36 a9_37 a9_38 a9_39 a9_40 a9_41 v9_42 a9_43 a9_44 a9_45 a9_46 a9_47 v9_48 v9_49 v9_50 v9_51 a9_52 a9_53 v9_54 v9_55 a9_56 a9_57 v9_58 a9_59 a9_60 a9_61)), (a9_34, .inl (cyI, 202, .inl g9_34))] s.heap := hP
  have hl := lv_entry ([.ref o9]) (n := 1) (Nat.le_of_ble_eq_true rfl)
  rw [lg_entry_eq]
  generalize (lg_sl ([.ref o9]) ++ List.replicate (1 - (lg_sl ([.ref o9])).length) Slot.unset).toArray = ls at hl ⊢
  have hl : lv_has ls 1 [(0, .ref o9)] := hl
  obtain ⟨H, hH⟩ : ∃ z, z = s.heap := ⟨_, rfl⟩
  refine x_here hH ?_
  have hP : va_P (dC, dI) vwCl [(o9, .inr (9, x_O9 v9_0 v9_1 v9_2 v9_3 a9_4 a9_5 a9_6 a9_7 a9_8 a9_9 a9_10 a9_11 a9_12 v9_13 v9_14 v9_15 v9_16 v9_17 v9_18 a9_19 v9_20 v9_21 v9_22 a9_23 a9_24 a9_25 a9_26 a9_27 a9_28 a9_29 a9_30 a9_31 a9_32 a9_33 a9_34 v9_35 v9_36 a9_37 a9_38 a9_39 a9_40 a9_41 v9_42 a9_43 a9_44 a9_45 a9_46 a9_47 v9_48 v9_49 v9_50 v9_51 a9_52 a9_53 v9_54 v9_55 a9_56 a9_57 v9_58 a9_59 a9_60 a9_61)), (a9_34, .inl (cyI, 202, .inl g9_34))] H := by rw [hH]; exact hP
  have hS : va_S A s.heap H [] := by rw [hH]; exact va_S.rf
  clear hH
  obtain ⟨locs, hlo⟩ : ∃ z : List Loc, z = [] := ⟨_, rfl⟩
  refine x_herl hlo ?_
  have hS : va_S A s.heap H locs := by rw [hlo]; exact hS
  clear hlo
  unfold f_X9_popRef at hf
  refine lv_aload_n hx hb dX9_popRef_0 rfl (lv_at hl 0 rfl) ?_
  refine va_get (D := (dC, dI)) (ci := 9) (v := .int v9_35) (C := RX9) (T := TX9) (N := 62) hx hb hts i_X9_popRef_X9 hown hK hP 0 rfl rfl 35 (by decide) k_1 (fun _ h9 => h9) rfl dX9_popRef_1 ?_
  refine lv_if_eq (tgt := 24) hx hb dX9_popRef_4 (by decide) (fun c_1 => ?_) (fun c_1 => ?_)
  · replace hf := x_ip c_1 hf
    refine lv_iconst (v := 0) hx hb dX9_popRef_24 (by decide) ?_
    obtain rfl := Option.some.inj hf
    have hP9 := hP.sub (ws' := [(o9, .inr (9, x_O9 v9_0 v9_1 v9_2 v9_3 a9_4 a9_5 a9_6 a9_7 a9_8 a9_9 a9_10 a9_11 a9_12 v9_13 v9_14 v9_15 v9_16 v9_17 v9_18 a9_19 v9_20 v9_21 v9_22 a9_23 a9_24 a9_25 a9_26 a9_27 a9_28 a9_29 a9_30 a9_31 a9_32 a9_33 a9_34 v9_35 v9_36 a9_37 a9_38 a9_39 a9_40 a9_41 v9_42 a9_43 a9_44 a9_45 a9_46 a9_47 v9_48 v9_49 v9_50 v9_51 a9_52 a9_53 v9_54 v9_55 a9_56 a9_57 v9_58 a9_59 a9_60 a9_61)), (a9_34, .inl (cyI, 202, .inl g9_34))]) [0, 1] rfl
    have hD9 := hD.sub (ws' := [(o9, .inr (9, x_O9 v9_0 v9_1 v9_2 v9_3 a9_4 a9_5 a9_6 a9_7 a9_8 a9_9 a9_10 a9_11 a9_12 v9_13 v9_14 v9_15 v9_16 v9_17 v9_18 a9_19 v9_20 v9_21 v9_22 a9_23 a9_24 a9_25 a9_26 a9_27 a9_28 a9_29 a9_30 a9_31 a9_32 a9_33 a9_34 v9_35 v9_36 a9_37 a9_38 a9_39 a9_40 a9_41 v9_42 a9_43 a9_44 a9_45 a9_46 a9_47 v9_48 v9_49 v9_50 v9_51 a9_52 a9_53 v9_54 v9_55 a9_56 a9_57 v9_58 a9_59 a9_60 a9_61)), (a9_34, .inl (cyI, 202, .inl g9_34))]) [0, 1] (by decide) rfl
    exact W.zret (ty := .boolean) hx hb hr rfl (fun t ht hW => ⟨⟨_, (), rfl, ⟨rfl, rfl⟩, by rw [ht]; exact hP9, va_K.moved hW.alike hK, hD9⟩, hS.F ht⟩) hS.2.2 dX9_popRef_25
  · replace hf := x_in c_1 hf
    refine lv_aload_n hx hb dX9_popRef_7 rfl (lv_at hl 0 rfl) ?_
    refine va_get (D := (dC, dI)) (ci := 9) (v := .ref a9_34) (C := RX9) (T := TX9) (N := 62) hx hb hts i_X9_popRef_X9 hown hK hP 0 rfl rfl 34 (by decide) k_2 (fun _ h9 => h9) rfl dX9_popRef_8 ?_
    refine lv_aload_n hx hb dX9_popRef_11 rfl (lv_at hl 0 rfl) ?_
    refine va_get (D := (dC, dI)) (ci := 9) (v := .int v9_35) (C := RX9) (T := TX9) (N := 62) hx hb hts i_X9_popRef_X9 hown hK hP 0 rfl rfl 35 (by decide) k_1 (fun _ h9 => h9) rfl dX9_popRef_12 ?_
    refine lv_iconst (v := 1) hx hb dX9_popRef_15 (by decide) ?_
    refine lv_isub hx hb dX9_popRef_16 ?_
    obtain ⟨g_2, hf⟩ := x_gu hf
    refine va_iald hx hb hK hP 1 0 rfl rfl (x_gdin g_2) dX9_popRef_17 ?_
    obtain ⟨r_3, h_3, hf⟩ := x_bi hf
    have hPc := hP.sub (ws' := []) [] rfl
    refine va_calli (va_runS (As := [.int (g9_34 (Int32.toNatClampNeg (v9_35 - (1 : Int32))))]) (rest := []) ⟨hx, hb, hml, hown, hts⟩ (c_X9_isRef l dC dI cyI cyZ cyJ H.size (g9_34 (Int32.toNatClampNeg (v9_35 - (1 : Int32)))) r_3 h_3) (va_cwS 1 hts gX9_popRef_X9_isRef rfl rfl rfl (by decide +kernel) ⟨Nat.le_of_ble_eq_true rfl, Nat.le_of_ble_eq_true rfl⟩) (x_pS hN hK hPc) rfl rfl hl.1 rfl (lv_room (Nat.le_of_ble_eq_true rfl)) dX9_popRef_18 ⟨Nat.le_of_ble_eq_true rfl, Nat.le_of_ble_eq_true rfl⟩) hS x_nA (x_nf hA hS) (fun q_3 u t H1 locs ht hvm hw hB hz1 hk1 hS => ?_)
    have hP := x_kp hP hk1
    clear ht hvm hB hz1 hk1 t u hPc
    generalize H1 = H at hP hS ⊢
    obtain ⟨hw, b_3⟩ := hw
    obtain rfl := hw.symm
    refine lv_if_ne (tgt := 26) hx hb dX9_popRef_21 (by decide) (fun c_4 => ?_) (fun c_4 => ?_)
    · replace hf := x_in c_4 hf
      refine lv_aload_n hx hb dX9_popRef_26 rfl (lv_at hl 0 rfl) ?_
      refine lv_dup hx hb dX9_popRef_27 rfl ?_
      refine va_get (D := (dC, dI)) (ci := 9) (v := .int v9_35) (C := RX9) (T := TX9) (N := 62) hx hb hts i_X9_popRef_X9 hown hK hP 0 rfl rfl 35 (by decide) k_1 (fun _ h9 => h9) rfl dX9_popRef_28 ?_
      refine lv_iconst (v := 1) hx hb dX9_popRef_31 (by decide) ?_
      refine lv_isub hx hb dX9_popRef_32 ?_
      refine va_put (D := (dC, dI)) (ci := 9) (v := .int (v9_35 - (1 : Int32))) (ty := .int) (C := RX9) (T := TX9) (N := 62) hx hb hts i_X9_popRef_X9 tyX9 tyX9_ok nmX9 hown hK hP hD hS 0 rfl rfl 35 (by decide) k_1 (fun _ h9 => h9) rfl (by decide +kernel) rfl rfl (Nat.le_of_ble_eq_true rfl) dX9_popRef_33 (fun H locs hP hD hS => ?_)
      have hP : va_P (dC, dI) vwCl [(o9, .inr (9, x_O9 v9_0 v9_1 v9_2 v9_3 a9_4 a9_5 a9_6 a9_7 a9_8 a9_9 a9_10 a9_11 a9_12 v9_13 v9_14 v9_15 v9_16 v9_17 v9_18 a9_19 v9_20 v9_21 v9_22 a9_23 a9_24 a9_25 a9_26 a9_27 a9_28 a9_29 a9_30 a9_31 a9_32 a9_33 a9_34 (v9_35 - (1 : Int32)) v9_36 a9_37 a9_38 a9_39 a9_40 a9_41 v9_42 a9_43 a9_44 a9_45 a9_46 a9_47 v9_48 v9_49 v9_50 v9_51 a9_52 a9_53 v9_54 v9_55 a9_56 a9_57 v9_58 a9_59 a9_60 a9_61)), (a9_34, .inl (cyI, 202, .inl g9_34))] H := hP
      have hD : va_D A [(o9, .inr (9, x_O9 v9_0 v9_1 v9_2 v9_3 a9_4 a9_5 a9_6 a9_7 a9_8 a9_9 a9_10 a9_11 a9_12 v9_13 v9_14 v9_15 v9_16 v9_17 v9_18 a9_19 v9_20 v9_21 v9_22 a9_23 a9_24 a9_25 a9_26 a9_27 a9_28 a9_29 a9_30 a9_31 a9_32 a9_33 a9_34 (v9_35 - (1 : Int32)) v9_36 a9_37 a9_38 a9_39 a9_40 a9_41 v9_42 a9_43 a9_44 a9_45 a9_46 a9_47 v9_48 v9_49 v9_50 v9_51 a9_52 a9_53 v9_54 v9_55 a9_56 a9_57 v9_58 a9_59 a9_60 a9_61)), (a9_34, .inl (cyI, 202, .inl g9_34))] := hD
      refine lv_iconst (v := 1) hx hb dX9_popRef_36 (by decide) ?_
      obtain rfl := Option.some.inj hf
      have hP9 := hP.sub (ws' := [(o9, .inr (9, x_O9 v9_0 v9_1 v9_2 v9_3 a9_4 a9_5 a9_6 a9_7 a9_8 a9_9 a9_10 a9_11 a9_12 v9_13 v9_14 v9_15 v9_16 v9_17 v9_18 a9_19 v9_20 v9_21 v9_22 a9_23 a9_24 a9_25 a9_26 a9_27 a9_28 a9_29 a9_30 a9_31 a9_32 a9_33 a9_34 (v9_35 - (1 : Int32)) v9_36 a9_37 a9_38 a9_39 a9_40 a9_41 v9_42 a9_43 a9_44 a9_45 a9_46 a9_47 v9_48 v9_49 v9_50 v9_51 a9_52 a9_53 v9_54 v9_55 a9_56 a9_57 v9_58 a9_59 a9_60 a9_61)), (a9_34, .inl (cyI, 202, .inl g9_34))]) [0, 1] rfl
      have hD9 := hD.sub (ws' := [(o9, .inr (9, x_O9 v9_0 v9_1 v9_2 v9_3 a9_4 a9_5 a9_6 a9_7 a9_8 a9_9 a9_10 a9_11 a9_12 v9_13 v9_14 v9_15 v9_16 v9_17 v9_18 a9_19 v9_20 v9_21 v9_22 a9_23 a9_24 a9_25 a9_26 a9_27 a9_28 a9_29 a9_30 a9_31 a9_32 a9_33 a9_34 (v9_35 - (1 : Int32)) v9_36 a9_37 a9_38 a9_39 a9_40 a9_41 v9_42 a9_43 a9_44 a9_45 a9_46 a9_47 v9_48 v9_49 v9_50 v9_51 a9_52 a9_53 v9_54 v9_55 a9_56 a9_57 v9_58 a9_59 a9_60 a9_61)), (a9_34, .inl (cyI, 202, .inl g9_34))]) [0, 1] (by decide) rfl
      exact W.zret (ty := .boolean) hx hb hr rfl (fun t ht hW => ⟨⟨_, (), rfl, ⟨rfl, rfl⟩, by rw [ht]; exact hP9, va_K.moved hW.alike hK, hD9⟩, hS.F ht⟩) hS.2.2 dX9_popRef_37
    · replace hf := x_ip c_4 hf
      refine lv_iconst (v := 0) hx hb dX9_popRef_24 (by decide) ?_
      obtain rfl := Option.some.inj hf
      have hP9 := hP.sub (ws' := [(o9, .inr (9, x_O9 v9_0 v9_1 v9_2 v9_3 a9_4 a9_5 a9_6 a9_7 a9_8 a9_9 a9_10 a9_11 a9_12 v9_13 v9_14 v9_15 v9_16 v9_17 v9_18 a9_19 v9_20 v9_21 v9_22 a9_23 a9_24 a9_25 a9_26 a9_27 a9_28 a9_29 a9_30 a9_31 a9_32 a9_33 a9_34 v9_35 v9_36 a9_37 a9_38 a9_39 a9_40 a9_41 v9_42 a9_43 a9_44 a9_45 a9_46 a9_47 v9_48 v9_49 v9_50 v9_51 a9_52 a9_53 v9_54 v9_55 a9_56 a9_57 v9_58 a9_59 a9_60 a9_61)), (a9_34, .inl (cyI, 202, .inl g9_34))]) [0, 1] rfl
      have hD9 := hD.sub (ws' := [(o9, .inr (9, x_O9 v9_0 v9_1 v9_2 v9_3 a9_4 a9_5 a9_6 a9_7 a9_8 a9_9 a9_10 a9_11 a9_12 v9_13 v9_14 v9_15 v9_16 v9_17 v9_18 a9_19 v9_20 v9_21 v9_22 a9_23 a9_24 a9_25 a9_26 a9_27 a9_28 a9_29 a9_30 a9_31 a9_32 a9_33 a9_34 v9_35 v9_36 a9_37 a9_38 a9_39 a9_40 a9_41 v9_42 a9_43 a9_44 a9_45 a9_46 a9_47 v9_48 v9_49 v9_50 v9_51 a9_52 a9_53 v9_54 v9_55 a9_56 a9_57 v9_58 a9_59 a9_60 a9_61)), (a9_34, .inl (cyI, 202, .inl g9_34))]) [0, 1] (by decide) rfl
      exact W.zret (ty := .boolean) hx hb hr rfl (fun t ht hW => ⟨⟨_, (), rfl, ⟨rfl, rfl⟩, by rw [ht]; exact hP9, va_K.moved hW.alike hK, hD9⟩, hS.F ht⟩) hS.2.2 dX9_popRef_25

def f_X9_popType (v9_35 : Int32) (g9_4 : Nat → Int32) (g9_5 : Nat → Int32) (g9_34 : Nat → Int32) (p1 : Int32) : Option (Int32 × Int32) := (f_X9_isPrimitive p1) >>= (fun r_1 => if r_1 = (0 : Int32) then if v9_35 = (0 : Int32) then some (0, v9_35) else if x_gd (v9_35 - (1 : Int32)) 202 = true then if (g9_34 (Int32.toNatClampNeg (v9_35 - (1 : Int32)))) = (5 : Int32) then some (1, v9_35 - (1 : Int32)) else if ((g9_34 (Int32.toNatClampNeg (v9_35 - (1 : Int32)))) &&& 15) = (8 : Int32) then (f_X9_may g9_4 g9_5 ((g9_34 (Int32.toNatClampNeg (v9_35 - (1 : Int32)))) >>> (4 &&& 31)) p1) >>= (fun r_9 => if r_9 = (0 : Int32) then some (0, v9_35) else some (1, v9_35 - (1 : Int32))) else some (0, v9_35) else none else (f_X9_kindOf p1) >>= (fun r_13 => (f_X9_pop v9_35 g9_34 r_13) >>= (fun r_14 => some (r_14.1, r_14.2))))
theorem i_X9_popType_X9 : ∀ w ∈ wsX90, w ∈ wsX9_popType := fun _ h => List.mem_cons_of_mem _ (List.mem_append_right _ h)
set_option maxHeartbeats 4000000 in
set_option maxRecDepth 100000 in
theorem c_X9_popType (l : Launch) (dC : Nat → ClassId) (dI : Nat → Nat → Nat) (cyI cyZ cyJ : ClassId) (sz : Nat) (o9 : Nat) (v9_0 : Int32) (v9_1 : Int32) (v9_2 : Int32) (v9_3 : Int32) (a9_4 : Nat) (a9_5 : Nat) (a9_6 : Nat) (a9_7 : Nat) (a9_8 : Nat) (a9_9 : Nat) (a9_10 : Nat) (a9_11 : Nat) (a9_12 : Nat) (v9_13 : Int32) (v9_14 : Int32) (v9_15 : Int32) (v9_16 : Int32) (v9_17 : Int32) (v9_18 : Int32) (a9_19 : Nat) (v9_20 : Int32) (v9_21 : Int32) (v9_22 : Int32) (a9_23 : Nat) (a9_24 : Nat) (a9_25 : Nat) (a9_26 : Nat) (a9_27 : Nat) (a9_28 : Nat) (a9_29 : Nat) (a9_30 : Nat) (a9_31 : Nat) (a9_32 : Nat) (a9_33 : Nat) (a9_34 : Nat) (v9_35 : Int32) (v9_36 : Int32) (a9_37 : Nat) (a9_38 : Nat) (a9_39 : Nat) (a9_40 : Nat) (a9_41 : Nat) (v9_42 : Int32) (a9_43 : Nat) (a9_44 : Nat) (a9_45 : Nat) (a9_46 : Nat) (a9_47 : Nat) (v9_48 : Int32) (v9_49 : Int32) (v9_50 : Int32) (v9_51 : Int32) (a9_52 : Nat) (a9_53 : Nat) (v9_54 : Int32) (v9_55 : Int32) (a9_56 : Nat) (a9_57 : Nat) (v9_58 : Int32) (a9_59 : Nat) (a9_60 : Nat) (a9_61 : Nat) (g9_4 : Nat → Int32) (g9_5 : Nat → Int32) (g9_34 : Nat → Int32) (p1 : Int32) (R : Int32 × Int32) (hf : f_X9_popType v9_35 g9_4 g9_5 g9_34 p1 = some R) : Met l yX9_popType wsX9_popType ({ frames := 3, cells := 0, slots := 0, locals := 75 }) (va_Pc [.ref o9, .int p1] (x_PreD (dC, dI) (x_T cyI cyZ cyJ) [(o9, .inr (9, x_O9 v9_0 v9_1 v9_2 v9_3 a9_4 a9_5 a9_6 a9_7 a9_8 a9_9 a9_10 a9_11 a9_12 v9_13 v9_14 v9_15 v9_16 v9_17 v9_18 a9_19 v9_20 v9_21 v9_22 a9_23 a9_24 a9_25 a9_26 a9_27 a9_28 a9_29 a9_30 a9_31 a9_32 a9_33 a9_34 v9_35 v9_36 a9_37 a9_38 a9_39 a9_40 a9_41 v9_42 a9_43 a9_44 a9_45 a9_46 a9_47 v9_48 v9_49 v9_50 v9_51 a9_52 a9_53 v9_54 v9_55 a9_56 a9_57 v9_58 a9_59 a9_60 a9_61)), (a9_4, .inl (cyI, 200, .inl g9_4)), (a9_5, .inl (cyZ, 200, .inl g9_5)), (a9_34, .inl (cyI, 202, .inl g9_34))] sz)) (va_Qi (fun (r : Int32) (_ : Unit) => r = R.1 ∧ x_nb r) (fun (_ : Unit) (t : State) => va_P (dC, dI) vwCl [(o9, .inr (9, x_O9 v9_0 v9_1 v9_2 v9_3 a9_4 a9_5 a9_6 a9_7 a9_8 a9_9 a9_10 a9_11 a9_12 v9_13 v9_14 v9_15 v9_16 v9_17 v9_18 a9_19 v9_20 v9_21 v9_22 a9_23 a9_24 a9_25 a9_26 a9_27 a9_28 a9_29 a9_30 a9_31 a9_32 a9_33 a9_34 (R.2) v9_36 a9_37 a9_38 a9_39 a9_40 a9_41 v9_42 a9_43 a9_44 a9_45 a9_46 a9_47 v9_48 v9_49 v9_50 v9_51 a9_52 a9_53 v9_54 v9_55 a9_56 a9_57 v9_58 a9_59 a9_60 a9_61)), (a9_4, .inl (cyI, 200, .inl g9_4)), (a9_5, .inl (cyZ, 200, .inl g9_5)), (a9_34, .inl (cyI, 202, .inl g9_34))] t.heap ∧ va_K (dC, dI) vwCl (x_T cyI cyZ cyJ) t ∧ va_D (va_A [(o9, .inr (9, x_O9 v9_0 v9_1 v9_2 v9_3 a9_4 a9_5 a9_6 a9_7 a9_8 a9_9 a9_10 a9_11 a9_12 v9_13 v9_14 v9_15 v9_16 v9_17 v9_18 a9_19 v9_20 v9_21 v9_22 a9_23 a9_24 a9_25 a9_26 a9_27 a9_28 a9_29 a9_30 a9_31 a9_32 a9_33 a9_34 v9_35 v9_36 a9_37 a9_38 a9_39 a9_40 a9_41 v9_42 a9_43 a9_44 a9_45 a9_46 a9_47 v9_48 v9_49 v9_50 v9_51 a9_52 a9_53 v9_54 v9_55 a9_56 a9_57 v9_58 a9_59 a9_60 a9_61)), (a9_4, .inl (cyI, 200, .inl g9_4)), (a9_5, .inl (cyZ, 200, .inl g9_5)), (a9_34, .inl (cyI, 202, .inl g9_34))] sz) [(o9, .inr (9, x_O9 v9_0 v9_1 v9_2 v9_3 a9_4 a9_5 a9_6 a9_7 a9_8 a9_9 a9_10 a9_11 a9_12 v9_13 v9_14 v9_15 v9_16 v9_17 v9_18 a9_19 v9_20 v9_21 v9_22 a9_23 a9_24 a9_25 a9_26 a9_27 a9_28 a9_29 a9_30 a9_31 a9_32 a9_33 a9_34 (R.2) v9_36 a9_37 a9_38 a9_39 a9_40 a9_41 v9_42 a9_43 a9_44 a9_45 a9_46 a9_47 v9_48 v9_49 v9_50 v9_51 a9_52 a9_53 v9_54 v9_55 a9_56 a9_57 v9_58 a9_59 a9_60 a9_61)), (a9_4, .inl (cyI, 200, .inl g9_4)), (a9_5, .inl (cyZ, 200, .inl g9_5)), (a9_34, .inl (cyI, 202, .inl g9_34))]) (va_A [(o9, .inr (9, x_O9 v9_0 v9_1 v9_2 v9_3 a9_4 a9_5 a9_6 a9_7 a9_8 a9_9 a9_10 a9_11 a9_12 v9_13 v9_14 v9_15 v9_16 v9_17 v9_18 a9_19 v9_20 v9_21 v9_22 a9_23 a9_24 a9_25 a9_26 a9_27 a9_28 a9_29 a9_30 a9_31 a9_32 a9_33 a9_34 v9_35 v9_36 a9_37 a9_38 a9_39 a9_40 a9_41 v9_42 a9_43 a9_44 a9_45 a9_46 a9_47 v9_48 v9_49 v9_50 v9_51 a9_52 a9_53 v9_54 v9_55 a9_56 a9_57 v9_58 a9_59 a9_60 a9_61)), (a9_4, .inl (cyI, 200, .inl g9_4)), (a9_5, .inl (cyZ, 200, .inl g9_5)), (a9_34, .inl (cyI, 202, .inl g9_34))] sz)) 0 0 (va_A [(o9, .inr (9, x_O9 v9_0 v9_1 v9_2 v9_3 a9_4 a9_5 a9_6 a9_7 a9_8 a9_9 a9_10 a9_11 a9_12 v9_13 v9_14 v9_15 v9_16 v9_17 v9_18 a9_19 v9_20 v9_21 v9_22 a9_23 a9_24 a9_25 a9_26 a9_27 a9_28 a9_29 a9_30 a9_31 a9_32 a9_33 a9_34 v9_35 v9_36 a9_37 a9_38 a9_39 a9_40 a9_41 v9_42 a9_43 a9_44 a9_45 a9_46 a9_47 v9_48 v9_49 v9_50 v9_51 a9_52 a9_53 v9_54 v9_55 a9_56 a9_57 v9_58 a9_59 a9_60 a9_61)), (a9_4, .inl (cyI, 200, .inl g9_4)), (a9_5, .inl (cyZ, 200, .inl g9_5)), (a9_34, .inl (cyI, 202, .inl g9_34))] sz) := by
  refine Met.ofW (cc := cX9_popType) (maxL := 4) (ret := (some .boolean)) (by decide) rfl ?_
  intro p e s m args below meth c s₁ B hml hv
  obtain ⟨rfl, ⟨hsz, hP, hK, hN⟩, hD0⟩ := hv
  have hx := B.exec
  have hb := B.bytes
  have hr := B.returns
  have hts := atoms_spec (ws := wsX9_popType) B.pre
  have hown : s.vm.findClass RX9 = some m.cls := findClass_of_methodNamed B.named
  have k_1 := hts (.fieldLink RX9 215 "FlowJudgeModel" "h" "I") (by decide +kernel)
  have k_2 := hts (.fieldLink RX9 85 "FlowJudgeModel" "st" "[I") (by decide +kernel)
  subst hsz
  have hD := hD0.self (sz := s.heap.size)
  generalize hAe : va_A [(o9, .inr (9, x_O9 v9_0 v9_1 v9_2 v9_3 a9_4 a9_5 a9_6 a9_7 a9_8 a9_9 a9_10 a9_11 a9_12 v9_13 v9_14 v9_15 v9_16 v9_17 v9_18 a9_19 v9_20 v9_21 v9_22 a9_23 a9_24 a9_25 a9_26 a9_27 a9_28 a9_29 a9_30 a9_31 a9_32 a9_33 a9_34 v9_35 v9_36 a9_37 a9_38 a9_39 a9_40 a9_41 v9_42 a9_43 a9_44 a9_45 a9_46 a9_47 v9_48 v9_49 v9_50 v9_51 a9_52 a9_53 v9_54 v9_55 a9_56 a9_57 v9_58 a9_59 a9_60 a9_61)), (a9_4, .inl (cyI, 200, .inl g9_4)), (a9_5, .inl (cyZ, 200, .inl g9_5)), (a9_34, .inl (cyI, 202, .inl g9_34))] s.heap.size = A at hD ⊢
  have hA : ∀ q : Nat, s.heap.size ≤ q → A q := fun q h => by rw [← hAe]; exact Or.inr h
  have hP : va_P (dC, dI) vwCl [(o9, .inr (9, x_O9 v9_0 v9_1 v9_2 v9_3 a9_4 a9_5 a9_6 a9_7 a9_8 a9_9 a9_10 a9_11 a9_12 v9_13 v9_14 v9_15 v9_16 v9_17 v9_18 a9_19 v9_20 v9_21 v9_22 a9_23 a9_24 a9_25 a9_26 a9_27 a9_28 a9_29 a9_30 a9_31 a9_32 a9_33 a9_34 v9_35 v9_36 a9_37 a9_38 a9_39 a9_40 a9_41 v9_42 a9_43 a9_44 a9_45 a9_46 a9_47 v9_48 v9_49 v9_50 v9_51 a9_52 a9_53 v9_54 v9_55 a9_56 a9_57 v9_58 a9_59 a9_60 a9_61)), (a9_4, .inl (cyI, 200, .inl g9_4)), (a9_5, .inl (cyZ, 200, .inl g9_5)), (a9_34, .inl (cyI, 202, .inl g9_34))] s.heap := hP
  have hl := lv_entry ([.ref o9, .int p1]) (n := 4) (Nat.le_of_ble_eq_true rfl)
  rw [lg_entry_eq]
  generalize (lg_sl ([.ref o9, .int p1]) ++ List.replicate (4 - (lg_sl ([.ref o9, .int p1])).length) Slot.unset).toArray = ls at hl ⊢
  have hl : lv_has ls 4 [(0, .ref o9), (1, .int p1)] := hl
  obtain ⟨H, hH⟩ : ∃ z, z = s.heap := ⟨_, rfl⟩
  refine x_here hH ?_
  have hP : va_P (dC, dI) vwCl [(o9, .inr (9, x_O9 v9_0 v9_1 v9_2 v9_3 a9_4 a9_5 a9_6 a9_7 a9_8 a9_9 a9_10 a9_11 a9_12 v9_13 v9_14 v9_15 v9_16 v9_17 v9_18 a9_19 v9_20 v9_21 v9_22 a9_23 a9_24 a9_25 a9_26 a9_27 a9_28 a9_29 a9_30 a9_31 a9_32 a9_33 a9_34 v9_35 v9_36 a9_37 a9_38 a9_39 a9_40 a9_41 v9_42 a9_43 a9_44 a9_45 a9_46 a9_47 v9_48 v9_49 v9_50 v9_51 a9_52 a9_53 v9_54 v9_55 a9_56 a9_57 v9_58 a9_59 a9_60 a9_61)), (a9_4, .inl (cyI, 200, .inl g9_4)), (a9_5, .inl (cyZ, 200, .inl g9_5)), (a9_34, .inl (cyI, 202, .inl g9_34))] H := by rw [hH]; exact hP
  have hS : va_S A s.heap H [] := by rw [hH]; exact va_S.rf
  clear hH
  obtain ⟨locs, hlo⟩ : ∃ z : List Loc, z = [] := ⟨_, rfl⟩
  refine x_herl hlo ?_
  have hS : va_S A s.heap H locs := by rw [hlo]; exact hS
  clear hlo
  unfold f_X9_popType at hf
  refine lv_aload_n hx hb dX9_popType_0 rfl (lv_at hl 0 rfl) ?_
  refine lv_iload_n hx hb dX9_popType_1 rfl (lv_at hl 1 rfl) ?_
  obtain ⟨r_1, h_1, hf⟩ := x_bi hf
  have hPc := hP.sub (ws' := [(o9, .inr (9, x_O9 v9_0 v9_1 v9_2 v9_3 a9_4 a9_5 a9_6 a9_7 a9_8 a9_9 a9_10 a9_11 a9_12 v9_13 v9_14 v9_15 v9_16 v9_17 v9_18 a9_19 v9_20 v9_21 v9_22 a9_23 a9_24 a9_25 a9_26 a9_27 a9_28 a9_29 a9_30 a9_31 a9_32 a9_33 a9_34 v9_35 v9_36 a9_37 a9_38 a9_39 a9_40 a9_41 v9_42 a9_43 a9_44 a9_45 a9_46 a9_47 v9_48 v9_49 v9_50 v9_51 a9_52 a9_53 v9_54 v9_55 a9_56 a9_57 v9_58 a9_59 a9_60 a9_61))]) [0] rfl
  refine va_calli (va_runV (As := [.int p1]) (rest := []) ⟨hx, hb, hml, hown, hts⟩ (c_X9_isPrimitive l dC dI cyI cyZ cyJ H.size o9 v9_0 v9_1 v9_2 v9_3 a9_4 a9_5 a9_6 a9_7 a9_8 a9_9 a9_10 a9_11 a9_12 v9_13 v9_14 v9_15 v9_16 v9_17 v9_18 a9_19 v9_20 v9_21 v9_22 a9_23 a9_24 a9_25 a9_26 a9_27 a9_28 a9_29 a9_30 a9_31 a9_32 a9_33 a9_34 v9_35 v9_36 a9_37 a9_38 a9_39 a9_40 a9_41 v9_42 a9_43 a9_44 a9_45 a9_46 a9_47 v9_48 v9_49 v9_50 v9_51 a9_52 a9_53 v9_54 v9_55 a9_56 a9_57 v9_58 a9_59 a9_60 a9_61 p1 r_1 h_1) (cwV 1 hts gX9_popType_X9_isPrimitive rfl rfl rfl (by decide +kernel) ⟨Nat.le_of_ble_eq_true rfl, Nat.le_of_ble_eq_true rfl⟩) (x_pV hN hK hPc (ci := 9) (q0 := 0) rfl rfl) rfl rfl hl.1 rfl (lv_room (Nat.le_of_ble_eq_true rfl)) dX9_popType_2 ⟨Nat.le_of_ble_eq_true rfl, Nat.le_of_ble_eq_true rfl⟩) hS x_nA (x_nf hA hS) (fun q_1 u t H1 locs ht hvm hw hB hz1 hk1 hS => ?_)
  have hP := x_kp hP hk1
  clear ht hvm hB hz1 hk1 t u hPc
  generalize H1 = H at hP hS ⊢
  obtain ⟨hw, b_1⟩ := hw
  obtain rfl := hw.symm
  refine lv_if_eq (tgt := 17) hx hb dX9_popType_5 (by decide) (fun c_2 => ?_) (fun c_2 => ?_)
  · replace hf := x_ip c_2 hf
    refine lv_aload_n hx hb dX9_popType_17 rfl (lv_at hl 0 rfl) ?_
    refine va_get (D := (dC, dI)) (ci := 9) (v := .int v9_35) (C := RX9) (T := TX9) (N := 62) hx hb hts i_X9_popType_X9 hown hK hP 0 rfl rfl 35 (by decide) k_1 (fun _ h9 => h9) rfl dX9_popType_18 ?_
    refine lv_if_ne (tgt := 26) hx hb dX9_popType_21 (by decide) (fun c_3 => ?_) (fun c_3 => ?_)
    · replace hf := x_in c_3 hf
      refine lv_aload_n hx hb dX9_popType_26 rfl (lv_at hl 0 rfl) ?_
      refine va_get (D := (dC, dI)) (ci := 9) (v := .ref a9_34) (C := RX9) (T := TX9) (N := 62) hx hb hts i_X9_popType_X9 hown hK hP 0 rfl rfl 34 (by decide) k_2 (fun _ h9 => h9) rfl dX9_popType_27 ?_
      refine lv_aload_n hx hb dX9_popType_30 rfl (lv_at hl 0 rfl) ?_
      refine va_get (D := (dC, dI)) (ci := 9) (v := .int v9_35) (C := RX9) (T := TX9) (N := 62) hx hb hts i_X9_popType_X9 hown hK hP 0 rfl rfl 35 (by decide) k_1 (fun _ h9 => h9) rfl dX9_popType_31 ?_
      refine lv_iconst (v := 1) hx hb dX9_popType_34 (by decide) ?_
      refine lv_isub hx hb dX9_popType_35 ?_
      obtain ⟨g_4, hf⟩ := x_gu hf
      refine va_iald hx hb hK hP 3 0 rfl rfl (x_gdin g_4) dX9_popType_36 ?_
      refine lv_istore_n (lv' := [(2, .int (g9_34 (Int32.toNatClampNeg (v9_35 - (1 : Int32))))), (0, .ref o9), (1, .int p1)]) hx hb dX9_popType_37 rfl hl (by decide) rfl (fun ls hl => ?_)
      refine lv_iload_n hx hb dX9_popType_38 rfl (lv_at hl 0 rfl) ?_
      refine lv_iconst (v := 5) hx hb dX9_popType_39 (by decide) ?_
      refine lv_icmp_eq (tgt := 63) hx hb dX9_popType_40 (by decide) (fun c_5 => ?_) (fun c_5 => ?_)
      · replace hf := x_ip c_5 hf
        refine lv_iconst (v := 1) hx hb dX9_popType_63 (by decide) ?_
        refine lv_goto (tgt := 68) hx hb dX9_popType_64 (by decide) ?_
        refine lv_istore_n (lv' := [(3, .int 1), (2, .int (g9_34 (Int32.toNatClampNeg (v9_35 - (1 : Int32))))), (0, .ref o9), (1, .int p1)]) hx hb dX9_popType_68 rfl hl (by decide) rfl (fun ls hl => ?_)
        refine lv_iload_n hx hb dX9_popType_69 rfl (lv_at hl 0 rfl) ?_
        refine lv_if_eq (tgt := 83) hx hb dX9_popType_70 (by decide) (fun c_6 => absurd c_6 (by decide)) (fun _ => ?_)
        refine lv_aload_n hx hb dX9_popType_73 rfl (lv_at hl 2 rfl) ?_
        refine lv_dup hx hb dX9_popType_74 rfl ?_
        refine va_get (D := (dC, dI)) (ci := 9) (v := .int v9_35) (C := RX9) (T := TX9) (N := 62) hx hb hts i_X9_popType_X9 hown hK hP 0 rfl rfl 35 (by decide) k_1 (fun _ h9 => h9) rfl dX9_popType_75 ?_
        refine lv_iconst (v := 1) hx hb dX9_popType_78 (by decide) ?_
        refine lv_isub hx hb dX9_popType_79 ?_
        refine va_put (D := (dC, dI)) (ci := 9) (v := .int (v9_35 - (1 : Int32))) (ty := .int) (C := RX9) (T := TX9) (N := 62) hx hb hts i_X9_popType_X9 tyX9 tyX9_ok nmX9 hown hK hP hD hS 0 rfl rfl 35 (by decide) k_1 (fun _ h9 => h9) rfl (by decide +kernel) rfl rfl (Nat.le_of_ble_eq_true rfl) dX9_popType_80 (fun H locs hP hD hS => ?_)
        have hP : va_P (dC, dI) vwCl [(o9, .inr (9, x_O9 v9_0 v9_1 v9_2 v9_3 a9_4 a9_5 a9_6 a9_7 a9_8 a9_9 a9_10 a9_11 a9_12 v9_13 v9_14 v9_15 v9_16 v9_17 v9_18 a9_19 v9_20 v9_21 v9_22 a9_23 a9_24 a9_25 a9_26 a9_27 a9_28 a9_29 a9_30 a9_31 a9_32 a9_33 a9_34 (v9_35 - (1 : Int32)) v9_36 a9_37 a9_38 a9_39 a9_40 a9_41 v9_42 a9_43 a9_44 a9_45 a9_46 a9_47 v9_48 v9_49 v9_50 v9_51 a9_52 a9_53 v9_54 v9_55 a9_56 a9_57 v9_58 a9_59 a9_60 a9_61)), (a9_4, .inl (cyI, 200, .inl g9_4)), (a9_5, .inl (cyZ, 200, .inl g9_5)), (a9_34, .inl (cyI, 202, .inl g9_34))] H := hP
        have hD : va_D A [(o9, .inr (9, x_O9 v9_0 v9_1 v9_2 v9_3 a9_4 a9_5 a9_6 a9_7 a9_8 a9_9 a9_10 a9_11 a9_12 v9_13 v9_14 v9_15 v9_16 v9_17 v9_18 a9_19 v9_20 v9_21 v9_22 a9_23 a9_24 a9_25 a9_26 a9_27 a9_28 a9_29 a9_30 a9_31 a9_32 a9_33 a9_34 (v9_35 - (1 : Int32)) v9_36 a9_37 a9_38 a9_39 a9_40 a9_41 v9_42 a9_43 a9_44 a9_45 a9_46 a9_47 v9_48 v9_49 v9_50 v9_51 a9_52 a9_53 v9_54 v9_55 a9_56 a9_57 v9_58 a9_59 a9_60 a9_61)), (a9_4, .inl (cyI, 200, .inl g9_4)), (a9_5, .inl (cyZ, 200, .inl g9_5)), (a9_34, .inl (cyI, 202, .inl g9_34))] := hD
        refine lv_iload_n hx hb dX9_popType_83 rfl (lv_at hl 0 rfl) ?_
        obtain rfl := Option.some.inj hf
        have hP9 := hP.sub (ws' := [(o9, .inr (9, x_O9 v9_0 v9_1 v9_2 v9_3 a9_4 a9_5 a9_6 a9_7 a9_8 a9_9 a9_10 a9_11 a9_12 v9_13 v9_14 v9_15 v9_16 v9_17 v9_18 a9_19 v9_20 v9_21 v9_22 a9_23 a9_24 a9_25 a9_26 a9_27 a9_28 a9_29 a9_30 a9_31 a9_32 a9_33 a9_34 (v9_35 - (1 : Int32)) v9_36 a9_37 a9_38 a9_39 a9_40 a9_41 v9_42 a9_43 a9_44 a9_45 a9_46 a9_47 v9_48 v9_49 v9_50 v9_51 a9_52 a9_53 v9_54 v9_55 a9_56 a9_57 v9_58 a9_59 a9_60 a9_61)), (a9_4, .inl (cyI, 200, .inl g9_4)), (a9_5, .inl (cyZ, 200, .inl g9_5)), (a9_34, .inl (cyI, 202, .inl g9_34))]) [0, 1, 2, 3] rfl
        have hD9 := hD.sub (ws' := [(o9, .inr (9, x_O9 v9_0 v9_1 v9_2 v9_3 a9_4 a9_5 a9_6 a9_7 a9_8 a9_9 a9_10 a9_11 a9_12 v9_13 v9_14 v9_15 v9_16 v9_17 v9_18 a9_19 v9_20 v9_21 v9_22 a9_23 a9_24 a9_25 a9_26 a9_27 a9_28 a9_29 a9_30 a9_31 a9_32 a9_33 a9_34 (v9_35 - (1 : Int32)) v9_36 a9_37 a9_38 a9_39 a9_40 a9_41 v9_42 a9_43 a9_44 a9_45 a9_46 a9_47 v9_48 v9_49 v9_50 v9_51 a9_52 a9_53 v9_54 v9_55 a9_56 a9_57 v9_58 a9_59 a9_60 a9_61)), (a9_4, .inl (cyI, 200, .inl g9_4)), (a9_5, .inl (cyZ, 200, .inl g9_5)), (a9_34, .inl (cyI, 202, .inl g9_34))]) [0, 1, 2, 3] (by decide) rfl
        exact W.zret (ty := .boolean) hx hb hr rfl (fun t ht hW => ⟨⟨_, (), rfl, ⟨rfl, rfl⟩, by rw [ht]; exact hP9, va_K.moved hW.alike hK, hD9⟩, hS.F ht⟩) hS.2.2 dX9_popType_84
      · replace hf := x_in c_5 hf
        refine lv_iload_n hx hb dX9_popType_43 rfl (lv_at hl 0 rfl) ?_
        refine lv_bipush (v := 15) hx hb dX9_popType_44 (by decide) ?_
        refine lv_iand hx hb dX9_popType_46 ?_
        refine lv_bipush (v := 8) hx hb dX9_popType_47 (by decide) ?_
        refine lv_icmp_ne (tgt := 67) hx hb dX9_popType_49 (by decide) (fun c_7 => ?_) (fun c_7 => ?_)
        · replace hf := x_in c_7 hf
          refine lv_iconst (v := 0) hx hb dX9_popType_67 (by decide) ?_
          refine lv_istore_n (lv' := [(3, .int 0), (2, .int (g9_34 (Int32.toNatClampNeg (v9_35 - (1 : Int32))))), (0, .ref o9), (1, .int p1)]) hx hb dX9_popType_68 rfl hl (by decide) rfl (fun ls hl => ?_)
          refine lv_iload_n hx hb dX9_popType_69 rfl (lv_at hl 0 rfl) ?_
          refine lv_if_eq (tgt := 83) hx hb dX9_popType_70 (by decide) (fun _ => ?_) (fun c_8 => absurd (by decide) c_8)
          refine lv_iload_n hx hb dX9_popType_83 rfl (lv_at hl 0 rfl) ?_
          obtain rfl := Option.some.inj hf
          have hP9 := hP.sub (ws' := [(o9, .inr (9, x_O9 v9_0 v9_1 v9_2 v9_3 a9_4 a9_5 a9_6 a9_7 a9_8 a9_9 a9_10 a9_11 a9_12 v9_13 v9_14 v9_15 v9_16 v9_17 v9_18 a9_19 v9_20 v9_21 v9_22 a9_23 a9_24 a9_25 a9_26 a9_27 a9_28 a9_29 a9_30 a9_31 a9_32 a9_33 a9_34 v9_35 v9_36 a9_37 a9_38 a9_39 a9_40 a9_41 v9_42 a9_43 a9_44 a9_45 a9_46 a9_47 v9_48 v9_49 v9_50 v9_51 a9_52 a9_53 v9_54 v9_55 a9_56 a9_57 v9_58 a9_59 a9_60 a9_61)), (a9_4, .inl (cyI, 200, .inl g9_4)), (a9_5, .inl (cyZ, 200, .inl g9_5)), (a9_34, .inl (cyI, 202, .inl g9_34))]) [0, 1, 2, 3] rfl
          have hD9 := hD.sub (ws' := [(o9, .inr (9, x_O9 v9_0 v9_1 v9_2 v9_3 a9_4 a9_5 a9_6 a9_7 a9_8 a9_9 a9_10 a9_11 a9_12 v9_13 v9_14 v9_15 v9_16 v9_17 v9_18 a9_19 v9_20 v9_21 v9_22 a9_23 a9_24 a9_25 a9_26 a9_27 a9_28 a9_29 a9_30 a9_31 a9_32 a9_33 a9_34 v9_35 v9_36 a9_37 a9_38 a9_39 a9_40 a9_41 v9_42 a9_43 a9_44 a9_45 a9_46 a9_47 v9_48 v9_49 v9_50 v9_51 a9_52 a9_53 v9_54 v9_55 a9_56 a9_57 v9_58 a9_59 a9_60 a9_61)), (a9_4, .inl (cyI, 200, .inl g9_4)), (a9_5, .inl (cyZ, 200, .inl g9_5)), (a9_34, .inl (cyI, 202, .inl g9_34))]) [0, 1, 2, 3] (by decide) rfl
          exact W.zret (ty := .boolean) hx hb hr rfl (fun t ht hW => ⟨⟨_, (), rfl, ⟨rfl, rfl⟩, by rw [ht]; exact hP9, va_K.moved hW.alike hK, hD9⟩, hS.F ht⟩) hS.2.2 dX9_popType_84
        · replace hf := x_ip c_7 hf
          refine lv_aload_n hx hb dX9_popType_52 rfl (lv_at hl 1 rfl) ?_
          refine lv_iload_n hx hb dX9_popType_53 rfl (lv_at hl 0 rfl) ?_
          refine lv_iconst (v := 4) hx hb dX9_popType_54 (by decide) ?_
          refine lv_ishr hx hb dX9_popType_55 ?_
          refine lv_iload_n hx hb dX9_popType_56 rfl (lv_at hl 2 rfl) ?_
          obtain ⟨r_9, h_9, hf⟩ := x_bi hf
          have hPc := hP.sub (ws' := [(o9, .inr (9, x_O9 v9_0 v9_1 v9_2 v9_3 a9_4 a9_5 a9_6 a9_7 a9_8 a9_9 a9_10 a9_11 a9_12 v9_13 v9_14 v9_15 v9_16 v9_17 v9_18 a9_19 v9_20 v9_21 v9_22 a9_23 a9_24 a9_25 a9_26 a9_27 a9_28 a9_29 a9_30 a9_31 a9_32 a9_33 a9_34 v9_35 v9_36 a9_37 a9_38 a9_39 a9_40 a9_41 v9_42 a9_43 a9_44 a9_45 a9_46 a9_47 v9_48 v9_49 v9_50 v9_51 a9_52 a9_53 v9_54 v9_55 a9_56 a9_57 v9_58 a9_59 a9_60 a9_61)), (a9_4, .inl (cyI, 200, .inl g9_4)), (a9_5, .inl (cyZ, 200, .inl g9_5))]) [0, 1, 2] rfl
          refine va_calli (va_runV (As := [.int ((g9_34 (Int32.toNatClampNeg (v9_35 - (1 : Int32)))) >>> (4 &&& 31)), .int p1]) (rest := []) ⟨hx, hb, hml, hown, hts⟩ (c_X9_may l dC dI cyI cyZ cyJ H.size o9 v9_0 v9_1 v9_2 v9_3 a9_4 a9_5 a9_6 a9_7 a9_8 a9_9 a9_10 a9_11 a9_12 v9_13 v9_14 v9_15 v9_16 v9_17 v9_18 a9_19 v9_20 v9_21 v9_22 a9_23 a9_24 a9_25 a9_26 a9_27 a9_28 a9_29 a9_30 a9_31 a9_32 a9_33 a9_34 v9_35 v9_36 a9_37 a9_38 a9_39 a9_40 a9_41 v9_42 a9_43 a9_44 a9_45 a9_46 a9_47 v9_48 v9_49 v9_50 v9_51 a9_52 a9_53 v9_54 v9_55 a9_56 a9_57 v9_58 a9_59 a9_60 a9_61 g9_4 g9_5 ((g9_34 (Int32.toNatClampNeg (v9_35 - (1 : Int32)))) >>> (4 &&& 31)) p1 r_9 h_9) (cwV 2 hts gX9_popType_X9_may rfl rfl rfl (by decide +kernel) ⟨Nat.le_of_ble_eq_true rfl, Nat.le_of_ble_eq_true rfl⟩) (x_pV hN hK hPc (ci := 9) (q0 := 0) rfl rfl) rfl rfl hl.1 rfl (lv_room (Nat.le_of_ble_eq_true rfl)) dX9_popType_57 ⟨Nat.le_of_ble_eq_true rfl, Nat.le_of_ble_eq_true rfl⟩) hS x_nA (x_nf hA hS) (fun q_9 u t H1 locs ht hvm hw hB hz1 hk1 hS => ?_)
          have hP := x_kp hP hk1
          clear ht hvm hB hz1 hk1 t u hPc
          generalize H1 = H at hP hS ⊢
          obtain ⟨hw, b_9⟩ := hw
          obtain rfl := hw.symm
          refine lv_if_eq (tgt := 67) hx hb dX9_popType_60 (by decide) (fun c_10 => ?_) (fun c_10 => ?_)
          · replace hf := x_ip c_10 hf
            refine lv_iconst (v := 0) hx hb dX9_popType_67 (by decide) ?_
            refine lv_istore_n (lv' := [(3, .int 0), (2, .int (g9_34 (Int32.toNatClampNeg (v9_35 - (1 : Int32))))), (0, .ref o9), (1, .int p1)]) hx hb dX9_popType_68 rfl hl (by decide) rfl (fun ls hl => ?_)
            refine lv_iload_n hx hb dX9_popType_69 rfl (lv_at hl 0 rfl) ?_
            refine lv_if_eq (tgt := 83) hx hb dX9_popType_70 (by decide) (fun _ => ?_) (fun c_11 => absurd (by decide) c_11)
            refine lv_iload_n hx hb dX9_popType_83 rfl (lv_at hl 0 rfl) ?_
            obtain rfl := Option.some.inj hf
            have hP9 := hP.sub (ws' := [(o9, .inr (9, x_O9 v9_0 v9_1 v9_2 v9_3 a9_4 a9_5 a9_6 a9_7 a9_8 a9_9 a9_10 a9_11 a9_12 v9_13 v9_14 v9_15 v9_16 v9_17 v9_18 a9_19 v9_20 v9_21 v9_22 a9_23 a9_24 a9_25 a9_26 a9_27 a9_28 a9_29 a9_30 a9_31 a9_32 a9_33 a9_34 v9_35 v9_36 a9_37 a9_38 a9_39 a9_40 a9_41 v9_42 a9_43 a9_44 a9_45 a9_46 a9_47 v9_48 v9_49 v9_50 v9_51 a9_52 a9_53 v9_54 v9_55 a9_56 a9_57 v9_58 a9_59 a9_60 a9_61)), (a9_4, .inl (cyI, 200, .inl g9_4)), (a9_5, .inl (cyZ, 200, .inl g9_5)), (a9_34, .inl (cyI, 202, .inl g9_34))]) [0, 1, 2, 3] rfl
            have hD9 := hD.sub (ws' := [(o9, .inr (9, x_O9 v9_0 v9_1 v9_2 v9_3 a9_4 a9_5 a9_6 a9_7 a9_8 a9_9 a9_10 a9_11 a9_12 v9_13 v9_14 v9_15 v9_16 v9_17 v9_18 a9_19 v9_20 v9_21 v9_22 a9_23 a9_24 a9_25 a9_26 a9_27 a9_28 a9_29 a9_30 a9_31 a9_32 a9_33 a9_34 v9_35 v9_36 a9_37 a9_38 a9_39 a9_40 a9_41 v9_42 a9_43 a9_44 a9_45 a9_46 a9_47 v9_48 v9_49 v9_50 v9_51 a9_52 a9_53 v9_54 v9_55 a9_56 a9_57 v9_58 a9_59 a9_60 a9_61)), (a9_4, .inl (cyI, 200, .inl g9_4)), (a9_5, .inl (cyZ, 200, .inl g9_5)), (a9_34, .inl (cyI, 202, .inl g9_34))]) [0, 1, 2, 3] (by decide) rfl
            exact W.zret (ty := .boolean) hx hb hr rfl (fun t ht hW => ⟨⟨_, (), rfl, ⟨rfl, rfl⟩, by rw [ht]; exact hP9, va_K.moved hW.alike hK, hD9⟩, hS.F ht⟩) hS.2.2 dX9_popType_84
          · replace hf := x_in c_10 hf
            refine lv_iconst (v := 1) hx hb dX9_popType_63 (by decide) ?_
            refine lv_goto (tgt := 68) hx hb dX9_popType_64 (by decide) ?_
            refine lv_istore_n (lv' := [(3, .int 1), (2, .int (g9_34 (Int32.toNatClampNeg (v9_35 - (1 : Int32))))), (0, .ref o9), (1, .int p1)]) hx hb dX9_popType_68 rfl hl (by decide) rfl (fun ls hl => ?_)
            refine lv_iload_n hx hb dX9_popType_69 rfl (lv_at hl 0 rfl) ?_
            refine lv_if_eq (tgt := 83) hx hb dX9_popType_70 (by decide) (fun c_12 => absurd c_12 (by decide)) (fun _ => ?_)
            refine lv_aload_n hx hb dX9_popType_73 rfl (lv_at hl 2 rfl) ?_
            refine lv_dup hx hb dX9_popType_74 rfl ?_
            refine va_get (D := (dC, dI)) (ci := 9) (v := .int v9_35) (C := RX9) (T := TX9) (N := 62) hx hb hts i_X9_popType_X9 hown hK hP 0 rfl rfl 35 (by decide) k_1 (fun _ h9 => h9) rfl dX9_popType_75 ?_
            refine lv_iconst (v := 1) hx hb dX9_popType_78 (by decide) ?_
            refine lv_isub hx hb dX9_popType_79 ?_
            refine va_put (D := (dC, dI)) (ci := 9) (v := .int (v9_35 - (1 : Int32))) (ty := .int) (C := RX9) (T := TX9) (N := 62) hx hb hts i_X9_popType_X9 tyX9 tyX9_ok nmX9 hown hK hP hD hS 0 rfl rfl 35 (by decide) k_1 (fun _ h9 => h9) rfl (by decide +kernel) rfl rfl (Nat.le_of_ble_eq_true rfl) dX9_popType_80 (fun H locs hP hD hS => ?_)
            have hP : va_P (dC, dI) vwCl [(o9, .inr (9, x_O9 v9_0 v9_1 v9_2 v9_3 a9_4 a9_5 a9_6 a9_7 a9_8 a9_9 a9_10 a9_11 a9_12 v9_13 v9_14 v9_15 v9_16 v9_17 v9_18 a9_19 v9_20 v9_21 v9_22 a9_23 a9_24 a9_25 a9_26 a9_27 a9_28 a9_29 a9_30 a9_31 a9_32 a9_33 a9_34 (v9_35 - (1 : Int32)) v9_36 a9_37 a9_38 a9_39 a9_40 a9_41 v9_42 a9_43 a9_44 a9_45 a9_46 a9_47 v9_48 v9_49 v9_50 v9_51 a9_52 a9_53 v9_54 v9_55 a9_56 a9_57 v9_58 a9_59 a9_60 a9_61)), (a9_4, .inl (cyI, 200, .inl g9_4)), (a9_5, .inl (cyZ, 200, .inl g9_5)), (a9_34, .inl (cyI, 202, .inl g9_34))] H := hP
            have hD : va_D A [(o9, .inr (9, x_O9 v9_0 v9_1 v9_2 v9_3 a9_4 a9_5 a9_6 a9_7 a9_8 a9_9 a9_10 a9_11 a9_12 v9_13 v9_14 v9_15 v9_16 v9_17 v9_18 a9_19 v9_20 v9_21 v9_22 a9_23 a9_24 a9_25 a9_26 a9_27 a9_28 a9_29 a9_30 a9_31 a9_32 a9_33 a9_34 (v9_35 - (1 : Int32)) v9_36 a9_37 a9_38 a9_39 a9_40 a9_41 v9_42 a9_43 a9_44 a9_45 a9_46 a9_47 v9_48 v9_49 v9_50 v9_51 a9_52 a9_53 v9_54 v9_55 a9_56 a9_57 v9_58 a9_59 a9_60 a9_61)), (a9_4, .inl (cyI, 200, .inl g9_4)), (a9_5, .inl (cyZ, 200, .inl g9_5)), (a9_34, .inl (cyI, 202, .inl g9_34))] := hD
            refine lv_iload_n hx hb dX9_popType_83 rfl (lv_at hl 0 rfl) ?_
            obtain rfl := Option.some.inj hf
            have hP9 := hP.sub (ws' := [(o9, .inr (9, x_O9 v9_0 v9_1 v9_2 v9_3 a9_4 a9_5 a9_6 a9_7 a9_8 a9_9 a9_10 a9_11 a9_12 v9_13 v9_14 v9_15 v9_16 v9_17 v9_18 a9_19 v9_20 v9_21 v9_22 a9_23 a9_24 a9_25 a9_26 a9_27 a9_28 a9_29 a9_30 a9_31 a9_32 a9_33 a9_34 (v9_35 - (1 : Int32)) v9_36 a9_37 a9_38 a9_39 a9_40 a9_41 v9_42 a9_43 a9_44 a9_45 a9_46 a9_47 v9_48 v9_49 v9_50 v9_51 a9_52 a9_53 v9_54 v9_55 a9_56 a9_57 v9_58 a9_59 a9_60 a9_61)), (a9_4, .inl (cyI, 200, .inl g9_4)), (a9_5, .inl (cyZ, 200, .inl g9_5)), (a9_34, .inl (cyI, 202, .inl g9_34))]) [0, 1, 2, 3] rfl
            have hD9 := hD.sub (ws' := [(o9, .inr (9, x_O9 v9_0 v9_1 v9_2 v9_3 a9_4 a9_5 a9_6 a9_7 a9_8 a9_9 a9_10 a9_11 a9_12 v9_13 v9_14 v9_15 v9_16 v9_17 v9_18 a9_19 v9_20 v9_21 v9_22 a9_23 a9_24 a9_25 a9_26 a9_27 a9_28 a9_29 a9_30 a9_31 a9_32 a9_33 a9_34 (v9_35 - (1 : Int32)) v9_36 a9_37 a9_38 a9_39 a9_40 a9_41 v9_42 a9_43 a9_44 a9_45 a9_46 a9_47 v9_48 v9_49 v9_50 v9_51 a9_52 a9_53 v9_54 v9_55 a9_56 a9_57 v9_58 a9_59 a9_60 a9_61)), (a9_4, .inl (cyI, 200, .inl g9_4)), (a9_5, .inl (cyZ, 200, .inl g9_5)), (a9_34, .inl (cyI, 202, .inl g9_34))]) [0, 1, 2, 3] (by decide) rfl
            exact W.zret (ty := .boolean) hx hb hr rfl (fun t ht hW => ⟨⟨_, (), rfl, ⟨rfl, rfl⟩, by rw [ht]; exact hP9, va_K.moved hW.alike hK, hD9⟩, hS.F ht⟩) hS.2.2 dX9_popType_84
    · replace hf := x_ip c_3 hf
      refine lv_iconst (v := 0) hx hb dX9_popType_24 (by decide) ?_
      obtain rfl := Option.some.inj hf
      have hP9 := hP.sub (ws' := [(o9, .inr (9, x_O9 v9_0 v9_1 v9_2 v9_3 a9_4 a9_5 a9_6 a9_7 a9_8 a9_9 a9_10 a9_11 a9_12 v9_13 v9_14 v9_15 v9_16 v9_17 v9_18 a9_19 v9_20 v9_21 v9_22 a9_23 a9_24 a9_25 a9_26 a9_27 a9_28 a9_29 a9_30 a9_31 a9_32 a9_33 a9_34 v9_35 v9_36 a9_37 a9_38 a9_39 a9_40 a9_41 v9_42 a9_43 a9_44 a9_45 a9_46 a9_47 v9_48 v9_49 v9_50 v9_51 a9_52 a9_53 v9_54 v9_55 a9_56 a9_57 v9_58 a9_59 a9_60 a9_61)), (a9_4, .inl (cyI, 200, .inl g9_4)), (a9_5, .inl (cyZ, 200, .inl g9_5)), (a9_34, .inl (cyI, 202, .inl g9_34))]) [0, 1, 2, 3] rfl
      have hD9 := hD.sub (ws' := [(o9, .inr (9, x_O9 v9_0 v9_1 v9_2 v9_3 a9_4 a9_5 a9_6 a9_7 a9_8 a9_9 a9_10 a9_11 a9_12 v9_13 v9_14 v9_15 v9_16 v9_17 v9_18 a9_19 v9_20 v9_21 v9_22 a9_23 a9_24 a9_25 a9_26 a9_27 a9_28 a9_29 a9_30 a9_31 a9_32 a9_33 a9_34 v9_35 v9_36 a9_37 a9_38 a9_39 a9_40 a9_41 v9_42 a9_43 a9_44 a9_45 a9_46 a9_47 v9_48 v9_49 v9_50 v9_51 a9_52 a9_53 v9_54 v9_55 a9_56 a9_57 v9_58 a9_59 a9_60 a9_61)), (a9_4, .inl (cyI, 200, .inl g9_4)), (a9_5, .inl (cyZ, 200, .inl g9_5)), (a9_34, .inl (cyI, 202, .inl g9_34))]) [0, 1, 2, 3] (by decide) rfl
      exact W.zret (ty := .boolean) hx hb hr rfl (fun t ht hW => ⟨⟨_, (), rfl, ⟨rfl, rfl⟩, by rw [ht]; exact hP9, va_K.moved hW.alike hK, hD9⟩, hS.F ht⟩) hS.2.2 dX9_popType_25
  · replace hf := x_in c_2 hf
    refine lv_aload_n hx hb dX9_popType_8 rfl (lv_at hl 0 rfl) ?_
    refine lv_iload_n hx hb dX9_popType_9 rfl (lv_at hl 1 rfl) ?_
    obtain ⟨r_13, h_13, hf⟩ := x_bi hf
    have hPc := hP.sub (ws' := []) [] rfl
    refine va_calli (va_runS (As := [.int p1]) (rest := [.ref o9]) ⟨hx, hb, hml, hown, hts⟩ (c_X9_kindOf l dC dI cyI cyZ cyJ H.size p1 r_13 h_13) (va_cwS 1 hts gX9_popType_X9_kindOf rfl rfl rfl (by decide +kernel) ⟨Nat.le_of_ble_eq_true rfl, Nat.le_of_ble_eq_true rfl⟩) (x_pS hN hK hPc) rfl rfl hl.1 rfl (lv_room (Nat.le_of_ble_eq_true rfl)) dX9_popType_10 ⟨Nat.le_of_ble_eq_true rfl, Nat.le_of_ble_eq_true rfl⟩) hS x_nA (x_nf hA hS) (fun q_13 u t H1 locs ht hvm hw hB hz1 hk1 hS => ?_)
    have hP := x_kp hP hk1
    clear ht hvm hB hz1 hk1 t u hPc
    generalize H1 = H at hP hS ⊢
    obtain rfl := hw.symm
    obtain ⟨r_14, h_14, hf⟩ := x_bi hf
    have hPc := hP.sub (ws' := [(o9, .inr (9, x_O9 v9_0 v9_1 v9_2 v9_3 a9_4 a9_5 a9_6 a9_7 a9_8 a9_9 a9_10 a9_11 a9_12 v9_13 v9_14 v9_15 v9_16 v9_17 v9_18 a9_19 v9_20 v9_21 v9_22 a9_23 a9_24 a9_25 a9_26 a9_27 a9_28 a9_29 a9_30 a9_31 a9_32 a9_33 a9_34 v9_35 v9_36 a9_37 a9_38 a9_39 a9_40 a9_41 v9_42 a9_43 a9_44 a9_45 a9_46 a9_47 v9_48 v9_49 v9_50 v9_51 a9_52 a9_53 v9_54 v9_55 a9_56 a9_57 v9_58 a9_59 a9_60 a9_61)), (a9_34, .inl (cyI, 202, .inl g9_34))]) [0, 3] rfl
    have hDc := hD.sub (ws' := [(o9, .inr (9, x_O9 v9_0 v9_1 v9_2 v9_3 a9_4 a9_5 a9_6 a9_7 a9_8 a9_9 a9_10 a9_11 a9_12 v9_13 v9_14 v9_15 v9_16 v9_17 v9_18 a9_19 v9_20 v9_21 v9_22 a9_23 a9_24 a9_25 a9_26 a9_27 a9_28 a9_29 a9_30 a9_31 a9_32 a9_33 a9_34 v9_35 v9_36 a9_37 a9_38 a9_39 a9_40 a9_41 v9_42 a9_43 a9_44 a9_45 a9_46 a9_47 v9_48 v9_49 v9_50 v9_51 a9_52 a9_53 v9_54 v9_55 a9_56 a9_57 v9_58 a9_59 a9_60 a9_61)), (a9_34, .inl (cyI, 202, .inl g9_34))]) [0, 3] (by decide) rfl
    have hFc := va_free (wc := [(o9, .inr (9, x_O9 v9_0 v9_1 v9_2 v9_3 a9_4 a9_5 a9_6 a9_7 a9_8 a9_9 a9_10 a9_11 a9_12 v9_13 v9_14 v9_15 v9_16 v9_17 v9_18 a9_19 v9_20 v9_21 v9_22 a9_23 a9_24 a9_25 a9_26 a9_27 a9_28 a9_29 a9_30 a9_31 a9_32 a9_33 a9_34 v9_35 v9_36 a9_37 a9_38 a9_39 a9_40 a9_41 v9_42 a9_43 a9_44 a9_45 a9_46 a9_47 v9_48 v9_49 v9_50 v9_51 a9_52 a9_53 v9_54 v9_55 a9_56 a9_57 v9_58 a9_59 a9_60 a9_61)), (a9_34, .inl (cyI, 202, .inl g9_34))]) hD hS hA [0, 3] rfl
    refine va_calli (va_runV (As := [.int r_13]) (rest := []) ⟨hx, hb, hml, hown, hts⟩ (c_X9_pop l dC dI cyI cyZ cyJ H.size o9 v9_0 v9_1 v9_2 v9_3 a9_4 a9_5 a9_6 a9_7 a9_8 a9_9 a9_10 a9_11 a9_12 v9_13 v9_14 v9_15 v9_16 v9_17 v9_18 a9_19 v9_20 v9_21 v9_22 a9_23 a9_24 a9_25 a9_26 a9_27 a9_28 a9_29 a9_30 a9_31 a9_32 a9_33 a9_34 v9_35 v9_36 a9_37 a9_38 a9_39 a9_40 a9_41 v9_42 a9_43 a9_44 a9_45 a9_46 a9_47 v9_48 v9_49 v9_50 v9_51 a9_52 a9_53 v9_54 v9_55 a9_56 a9_57 v9_58 a9_59 a9_60 a9_61 g9_34 r_13 r_14 h_14) (cwV 1 hts gX9_popType_X9_pop rfl rfl rfl (by decide +kernel) ⟨Nat.le_of_ble_eq_true rfl, Nat.le_of_ble_eq_true rfl⟩) (x_pVD hN hK hPc hDc (ci := 9) (q0 := 0) rfl rfl) rfl rfl hl.1 rfl (lv_room (Nat.le_of_ble_eq_true rfl)) dX9_popType_13 ⟨Nat.le_of_ble_eq_true rfl, Nat.le_of_ble_eq_true rfl⟩) hS (fun q _ h => hFc q h) hFc (fun q_14 u t H1 locs ht hvm hw hB hz1 hk1 hS => ?_)
    obtain ⟨hP1, hK1, hD1⟩ := hB
    rw [ht] at hP1
    obtain ⟨hP, hD⟩ := va_join (wr := [(a9_4, .inl (cyI, 200, .inl g9_4)), (a9_5, .inl (cyZ, 200, .inl g9_5))]) (w1 := [(o9, .inr (9, x_O9 v9_0 v9_1 v9_2 v9_3 a9_4 a9_5 a9_6 a9_7 a9_8 a9_9 a9_10 a9_11 a9_12 v9_13 v9_14 v9_15 v9_16 v9_17 v9_18 a9_19 v9_20 v9_21 v9_22 a9_23 a9_24 a9_25 a9_26 a9_27 a9_28 a9_29 a9_30 a9_31 a9_32 a9_33 a9_34 (r_14.2) v9_36 a9_37 a9_38 a9_39 a9_40 a9_41 v9_42 a9_43 a9_44 a9_45 a9_46 a9_47 v9_48 v9_49 v9_50 v9_51 a9_52 a9_53 v9_54 v9_55 a9_56 a9_57 v9_58 a9_59 a9_60 a9_61)), (a9_34, .inl (cyI, 202, .inl g9_34))]) hP hD [0, 3] [1, 2] rfl rfl (by decide) (by decide) hk1 hFc hP1 hD1
    clear hz1 hk1 hPc hDc hFc hP1 hK1 hD1 ht hvm t u
    generalize H1 = H at hP hS ⊢
    have hP : va_P (dC, dI) vwCl [(a9_4, .inl (cyI, 200, .inl g9_4)), (a9_5, .inl (cyZ, 200, .inl g9_5)), (o9, .inr (9, x_O9 v9_0 v9_1 v9_2 v9_3 a9_4 a9_5 a9_6 a9_7 a9_8 a9_9 a9_10 a9_11 a9_12 v9_13 v9_14 v9_15 v9_16 v9_17 v9_18 a9_19 v9_20 v9_21 v9_22 a9_23 a9_24 a9_25 a9_26 a9_27 a9_28 a9_29 a9_30 a9_31 a9_32 a9_33 a9_34 (r_14.2) v9_36 a9_37 a9_38 a9_39 a9_40 a9_41 v9_42 a9_43 a9_44 a9_45 a9_46 a9_47 v9_48 v9_49 v9_50 v9_51 a9_52 a9_53 v9_54 v9_55 a9_56 a9_57 v9_58 a9_59 a9_60 a9_61)), (a9_34, .inl (cyI, 202, .inl g9_34))] H := hP
    have hD : va_D A [(a9_4, .inl (cyI, 200, .inl g9_4)), (a9_5, .inl (cyZ, 200, .inl g9_5)), (o9, .inr (9, x_O9 v9_0 v9_1 v9_2 v9_3 a9_4 a9_5 a9_6 a9_7 a9_8 a9_9 a9_10 a9_11 a9_12 v9_13 v9_14 v9_15 v9_16 v9_17 v9_18 a9_19 v9_20 v9_21 v9_22 a9_23 a9_24 a9_25 a9_26 a9_27 a9_28 a9_29 a9_30 a9_31 a9_32 a9_33 a9_34 (r_14.2) v9_36 a9_37 a9_38 a9_39 a9_40 a9_41 v9_42 a9_43 a9_44 a9_45 a9_46 a9_47 v9_48 v9_49 v9_50 v9_51 a9_52 a9_53 v9_54 v9_55 a9_56 a9_57 v9_58 a9_59 a9_60 a9_61)), (a9_34, .inl (cyI, 202, .inl g9_34))] := hD
    obtain ⟨hw, b_14⟩ := hw
    obtain rfl := hw.symm
    obtain rfl := Option.some.inj hf
    have hP9 := hP.sub (ws' := [(o9, .inr (9, x_O9 v9_0 v9_1 v9_2 v9_3 a9_4 a9_5 a9_6 a9_7 a9_8 a9_9 a9_10 a9_11 a9_12 v9_13 v9_14 v9_15 v9_16 v9_17 v9_18 a9_19 v9_20 v9_21 v9_22 a9_23 a9_24 a9_25 a9_26 a9_27 a9_28 a9_29 a9_30 a9_31 a9_32 a9_33 a9_34 (r_14.2) v9_36 a9_37 a9_38 a9_39 a9_40 a9_41 v9_42 a9_43 a9_44 a9_45 a9_46 a9_47 v9_48 v9_49 v9_50 v9_51 a9_52 a9_53 v9_54 v9_55 a9_56 a9_57 v9_58 a9_59 a9_60 a9_61)), (a9_4, .inl (cyI, 200, .inl g9_4)), (a9_5, .inl (cyZ, 200, .inl g9_5)), (a9_34, .inl (cyI, 202, .inl g9_34))]) [2, 0, 1, 3] rfl
    have hD9 := hD.sub (ws' := [(o9, .inr (9, x_O9 v9_0 v9_1 v9_2 v9_3 a9_4 a9_5 a9_6 a9_7 a9_8 a9_9 a9_10 a9_11 a9_12 v9_13 v9_14 v9_15 v9_16 v9_17 v9_18 a9_19 v9_20 v9_21 v9_22 a9_23 a9_24 a9_25 a9_26 a9_27 a9_28 a9_29 a9_30 a9_31 a9_32 a9_33 a9_34 (r_14.2) v9_36 a9_37 a9_38 a9_39 a9_40 a9_41 v9_42 a9_43 a9_44 a9_45 a9_46 a9_47 v9_48 v9_49 v9_50 v9_51 a9_52 a9_53 v9_54 v9_55 a9_56 a9_57 v9_58 a9_59 a9_60 a9_61)), (a9_4, .inl (cyI, 200, .inl g9_4)), (a9_5, .inl (cyZ, 200, .inl g9_5)), (a9_34, .inl (cyI, 202, .inl g9_34))]) [2, 0, 1, 3] (by decide) rfl
    exact W.zret (ty := .boolean) hx hb hr b_14 (fun t ht hW => ⟨⟨_, (), rfl, ⟨rfl, b_14⟩, by rw [ht]; exact hP9, va_K.moved hW.alike hK, hD9⟩, hS.F ht⟩) hS.2.2 dX9_popType_16

def f_X9_set_L (l1 : Int32) (z : Nat × Int32 × (Nat → Int32)) : Option ((Nat → Int32)) := match z with
  | (q, l2, g9_33) => if q = 0 then if x_gd l1 202 = true then if (g9_33 (Int32.toNatClampNeg l1)) = (3 : Int32) then (f_X9_set_L l1 (1, l2, g9_33)) else if x_gd l1 202 = true then if (g9_33 (Int32.toNatClampNeg l1)) = (4 : Int32) then (f_X9_set_L l1 (1, l2, g9_33)) else (f_X9_set_L l1 (2, l2, g9_33)) else none else none else if q = 1 then if x_gd (l1 + (1 : Int32)) 202 = true then (f_X9_set_L l1 (2, l2, upd g9_33 (Int32.toNatClampNeg (l1 + (1 : Int32))) 0)) else none else if q = 2 then if x_gd l1 202 = true then if l2 = (3 : Int32) then (f_X9_set_L l1 (3, 0, upd g9_33 (Int32.toNatClampNeg l1) l2)) else if l2 = (4 : Int32) then (f_X9_set_L l1 (3, 0, upd g9_33 (Int32.toNatClampNeg l1) l2)) else some (upd g9_33 (Int32.toNatClampNeg l1) l2) else none else if q = 3 then if x_gd (l1 + (1 : Int32)) 202 = true then if (g9_33 (Int32.toNatClampNeg (l1 + (1 : Int32)))) = (3 : Int32) then (f_X9_set_L l1 (4, 0, g9_33)) else if x_gd (l1 + (1 : Int32)) 202 = true then if (g9_33 (Int32.toNatClampNeg (l1 + (1 : Int32)))) = (4 : Int32) then (f_X9_set_L l1 (4, 0, g9_33)) else (f_X9_set_L l1 (5, 0, g9_33)) else none else none else if q = 4 then if x_gd (l1 + (2 : Int32)) 202 = true then (f_X9_set_L l1 (5, 0, upd g9_33 (Int32.toNatClampNeg (l1 + (2 : Int32))) 0)) else none else if q = 5 then if x_gd (l1 + (1 : Int32)) 202 = true then some (upd g9_33 (Int32.toNatClampNeg (l1 + (1 : Int32))) 7) else none else none
partial_fixpoint
def f_X9_set (g9_33 : Nat → Int32) (p1 : Int32) (p2 : Int32) : Option ((Nat → Int32)) := if x_gd p1 202 = true then if (g9_33 (Int32.toNatClampNeg p1)) = (7 : Int32) then if p1 ≤ (0 : Int32) then (f_X9_set_L p1 (0, p2, g9_33)) else if x_gd (p1 - (1 : Int32)) 202 = true then (f_X9_set_L p1 (0, p2, upd g9_33 (Int32.toNatClampNeg (p1 - (1 : Int32))) 0)) else none else (f_X9_set_L p1 (0, p2, g9_33)) else none
theorem i_X9_set_X9 : ∀ w ∈ wsX90, w ∈ wsX9_set := fun _ h => List.mem_cons_of_mem _ (List.mem_append_right _ h)
set_option maxHeartbeats 4000000 in
set_option maxRecDepth 100000 in
theorem c_X9_set (l : Launch) (dC : Nat → ClassId) (dI : Nat → Nat → Nat) (cyI cyZ cyJ : ClassId) (sz : Nat) (o9 : Nat) (v9_0 : Int32) (v9_1 : Int32) (v9_2 : Int32) (v9_3 : Int32) (a9_4 : Nat) (a9_5 : Nat) (a9_6 : Nat) (a9_7 : Nat) (a9_8 : Nat) (a9_9 : Nat) (a9_10 : Nat) (a9_11 : Nat) (a9_12 : Nat) (v9_13 : Int32) (v9_14 : Int32) (v9_15 : Int32) (v9_16 : Int32) (v9_17 : Int32) (v9_18 : Int32) (a9_19 : Nat) (v9_20 : Int32) (v9_21 : Int32) (v9_22 : Int32) (a9_23 : Nat) (a9_24 : Nat) (a9_25 : Nat) (a9_26 : Nat) (a9_27 : Nat) (a9_28 : Nat) (a9_29 : Nat) (a9_30 : Nat) (a9_31 : Nat) (a9_32 : Nat) (a9_33 : Nat) (a9_34 : Nat) (v9_35 : Int32) (v9_36 : Int32) (a9_37 : Nat) (a9_38 : Nat) (a9_39 : Nat) (a9_40 : Nat) (a9_41 : Nat) (v9_42 : Int32) (a9_43 : Nat) (a9_44 : Nat) (a9_45 : Nat) (a9_46 : Nat) (a9_47 : Nat) (v9_48 : Int32) (v9_49 : Int32) (v9_50 : Int32) (v9_51 : Int32) (a9_52 : Nat) (a9_53 : Nat) (v9_54 : Int32) (v9_55 : Int32) (a9_56 : Nat) (a9_57 : Nat) (v9_58 : Int32) (a9_59 : Nat) (a9_60 : Nat) (a9_61 : Nat) (g9_33 : Nat → Int32) (p1 : Int32) (p2 : Int32) (R : (Nat → Int32)) (hf : f_X9_set g9_33 p1 p2 = some R) : Met l yX9_set wsX9_set ({ frames := 0, cells := 0, slots := 0, locals := 0 }) (va_Pc [.ref o9, .int p1, .int p2] (x_PreD (dC, dI) (x_T cyI cyZ cyJ) [(o9, .inr (9, x_O9 v9_0 v9_1 v9_2 v9_3 a9_4 a9_5 a9_6 a9_7 a9_8 a9_9 a9_10 a9_11 a9_12 v9_13 v9_14 v9_15 v9_16 v9_17 v9_18 a9_19 v9_20 v9_21 v9_22 a9_23 a9_24 a9_25 a9_26 a9_27 a9_28 a9_29 a9_30 a9_31 a9_32 a9_33 a9_34 v9_35 v9_36 a9_37 a9_38 a9_39 a9_40 a9_41 v9_42 a9_43 a9_44 a9_45 a9_46 a9_47 v9_48 v9_49 v9_50 v9_51 a9_52 a9_53 v9_54 v9_55 a9_56 a9_57 v9_58 a9_59 a9_60 a9_61)), (a9_33, .inl (cyI, 202, .inl g9_33))] sz)) (va_Qv (fun _ : Unit => True) (fun (_ : Unit) (t : State) => va_P (dC, dI) vwCl [(o9, .inr (9, x_O9 v9_0 v9_1 v9_2 v9_3 a9_4 a9_5 a9_6 a9_7 a9_8 a9_9 a9_10 a9_11 a9_12 v9_13 v9_14 v9_15 v9_16 v9_17 v9_18 a9_19 v9_20 v9_21 v9_22 a9_23 a9_24 a9_25 a9_26 a9_27 a9_28 a9_29 a9_30 a9_31 a9_32 a9_33 a9_34 v9_35 v9_36 a9_37 a9_38 a9_39 a9_40 a9_41 v9_42 a9_43 a9_44 a9_45 a9_46 a9_47 v9_48 v9_49 v9_50 v9_51 a9_52 a9_53 v9_54 v9_55 a9_56 a9_57 v9_58 a9_59 a9_60 a9_61)), (a9_33, .inl (cyI, 202, .inl R))] t.heap ∧ va_K (dC, dI) vwCl (x_T cyI cyZ cyJ) t ∧ va_D (va_A [(o9, .inr (9, x_O9 v9_0 v9_1 v9_2 v9_3 a9_4 a9_5 a9_6 a9_7 a9_8 a9_9 a9_10 a9_11 a9_12 v9_13 v9_14 v9_15 v9_16 v9_17 v9_18 a9_19 v9_20 v9_21 v9_22 a9_23 a9_24 a9_25 a9_26 a9_27 a9_28 a9_29 a9_30 a9_31 a9_32 a9_33 a9_34 v9_35 v9_36 a9_37 a9_38 a9_39 a9_40 a9_41 v9_42 a9_43 a9_44 a9_45 a9_46 a9_47 v9_48 v9_49 v9_50 v9_51 a9_52 a9_53 v9_54 v9_55 a9_56 a9_57 v9_58 a9_59 a9_60 a9_61)), (a9_33, .inl (cyI, 202, .inl g9_33))] sz) [(o9, .inr (9, x_O9 v9_0 v9_1 v9_2 v9_3 a9_4 a9_5 a9_6 a9_7 a9_8 a9_9 a9_10 a9_11 a9_12 v9_13 v9_14 v9_15 v9_16 v9_17 v9_18 a9_19 v9_20 v9_21 v9_22 a9_23 a9_24 a9_25 a9_26 a9_27 a9_28 a9_29 a9_30 a9_31 a9_32 a9_33 a9_34 v9_35 v9_36 a9_37 a9_38 a9_39 a9_40 a9_41 v9_42 a9_43 a9_44 a9_45 a9_46 a9_47 v9_48 v9_49 v9_50 v9_51 a9_52 a9_53 v9_54 v9_55 a9_56 a9_57 v9_58 a9_59 a9_60 a9_61)), (a9_33, .inl (cyI, 202, .inl R))]) (va_A [(o9, .inr (9, x_O9 v9_0 v9_1 v9_2 v9_3 a9_4 a9_5 a9_6 a9_7 a9_8 a9_9 a9_10 a9_11 a9_12 v9_13 v9_14 v9_15 v9_16 v9_17 v9_18 a9_19 v9_20 v9_21 v9_22 a9_23 a9_24 a9_25 a9_26 a9_27 a9_28 a9_29 a9_30 a9_31 a9_32 a9_33 a9_34 v9_35 v9_36 a9_37 a9_38 a9_39 a9_40 a9_41 v9_42 a9_43 a9_44 a9_45 a9_46 a9_47 v9_48 v9_49 v9_50 v9_51 a9_52 a9_53 v9_54 v9_55 a9_56 a9_57 v9_58 a9_59 a9_60 a9_61)), (a9_33, .inl (cyI, 202, .inl g9_33))] sz)) 0 0 (va_A [(o9, .inr (9, x_O9 v9_0 v9_1 v9_2 v9_3 a9_4 a9_5 a9_6 a9_7 a9_8 a9_9 a9_10 a9_11 a9_12 v9_13 v9_14 v9_15 v9_16 v9_17 v9_18 a9_19 v9_20 v9_21 v9_22 a9_23 a9_24 a9_25 a9_26 a9_27 a9_28 a9_29 a9_30 a9_31 a9_32 a9_33 a9_34 v9_35 v9_36 a9_37 a9_38 a9_39 a9_40 a9_41 v9_42 a9_43 a9_44 a9_45 a9_46 a9_47 v9_48 v9_49 v9_50 v9_51 a9_52 a9_53 v9_54 v9_55 a9_56 a9_57 v9_58 a9_59 a9_60 a9_61)), (a9_33, .inl (cyI, 202, .inl g9_33))] sz) := by
  refine Met.ofW (cc := cX9_set) (maxL := 3) (ret := none) (by decide) rfl ?_
  intro p e s m args below meth c s₁ B hml hv
  obtain ⟨rfl, ⟨hsz, hP, hK, hN⟩, hD0⟩ := hv
  have hx := B.exec
  have hb := B.bytes
  have hr := B.returns
  have hts := atoms_spec (ws := wsX9_set) B.pre
  have hown : s.vm.findClass RX9 = some m.cls := findClass_of_methodNamed B.named
  have k_1 := hts (.fieldLink RX9 82 "FlowJudgeModel" "l" "[I") (by decide +kernel)
  subst hsz
  have hD := hD0.self (sz := s.heap.size)
  generalize hAe : va_A [(o9, .inr (9, x_O9 v9_0 v9_1 v9_2 v9_3 a9_4 a9_5 a9_6 a9_7 a9_8 a9_9 a9_10 a9_11 a9_12 v9_13 v9_14 v9_15 v9_16 v9_17 v9_18 a9_19 v9_20 v9_21 v9_22 a9_23 a9_24 a9_25 a9_26 a9_27 a9_28 a9_29 a9_30 a9_31 a9_32 a9_33 a9_34 v9_35 v9_36 a9_37 a9_38 a9_39 a9_40 a9_41 v9_42 a9_43 a9_44 a9_45 a9_46 a9_47 v9_48 v9_49 v9_50 v9_51 a9_52 a9_53 v9_54 v9_55 a9_56 a9_57 v9_58 a9_59 a9_60 a9_61)), (a9_33, .inl (cyI, 202, .inl g9_33))] s.heap.size = A at hD ⊢
  have hA : ∀ q : Nat, s.heap.size ≤ q → A q := fun q h => by rw [← hAe]; exact Or.inr h
  have hP : va_P (dC, dI) vwCl [(o9, .inr (9, x_O9 v9_0 v9_1 v9_2 v9_3 a9_4 a9_5 a9_6 a9_7 a9_8 a9_9 a9_10 a9_11 a9_12 v9_13 v9_14 v9_15 v9_16 v9_17 v9_18 a9_19 v9_20 v9_21 v9_22 a9_23 a9_24 a9_25 a9_26 a9_27 a9_28 a9_29 a9_30 a9_31 a9_32 a9_33 a9_34 v9_35 v9_36 a9_37 a9_38 a9_39 a9_40 a9_41 v9_42 a9_43 a9_44 a9_45 a9_46 a9_47 v9_48 v9_49 v9_50 v9_51 a9_52 a9_53 v9_54 v9_55 a9_56 a9_57 v9_58 a9_59 a9_60 a9_61)), (a9_33, .inl (cyI, 202, .inl g9_33))] s.heap := hP
  have hl := lv_entry ([.ref o9, .int p1, .int p2]) (n := 3) (Nat.le_of_ble_eq_true rfl)
  rw [lg_entry_eq]
  generalize (lg_sl ([.ref o9, .int p1, .int p2]) ++ List.replicate (3 - (lg_sl ([.ref o9, .int p1, .int p2])).length) Slot.unset).toArray = ls at hl ⊢
  have hl : lv_has ls 3 [(0, .ref o9), (1, .int p1), (2, .int p2)] := hl
  obtain ⟨H, hH⟩ : ∃ z, z = s.heap := ⟨_, rfl⟩
  refine x_here hH ?_
  have hP : va_P (dC, dI) vwCl [(o9, .inr (9, x_O9 v9_0 v9_1 v9_2 v9_3 a9_4 a9_5 a9_6 a9_7 a9_8 a9_9 a9_10 a9_11 a9_12 v9_13 v9_14 v9_15 v9_16 v9_17 v9_18 a9_19 v9_20 v9_21 v9_22 a9_23 a9_24 a9_25 a9_26 a9_27 a9_28 a9_29 a9_30 a9_31 a9_32 a9_33 a9_34 v9_35 v9_36 a9_37 a9_38 a9_39 a9_40 a9_41 v9_42 a9_43 a9_44 a9_45 a9_46 a9_47 v9_48 v9_49 v9_50 v9_51 a9_52 a9_53 v9_54 v9_55 a9_56 a9_57 v9_58 a9_59 a9_60 a9_61)), (a9_33, .inl (cyI, 202, .inl g9_33))] H := by rw [hH]; exact hP
  have hS : va_S A s.heap H [] := by rw [hH]; exact va_S.rf
  clear hH
  obtain ⟨locs, hlo⟩ : ∃ z : List Loc, z = [] := ⟨_, rfl⟩
  refine x_herl hlo ?_
  have hS : va_S A s.heap H locs := by rw [hlo]; exact hS
  clear hlo
  unfold f_X9_set at hf
  refine x_wn (fun WW hWW => ?_)
  have J := fun (l1 : Int32) => f_X9_set_L.partial_correctness l1 (fun (z : Nat × Int32 × (Nat → Int32)) (r : (Nat → Int32)) => r = R → ∀ (q : Nat) (l2 : Int32) (g9_33 : Nat → Int32), z = (q, l2, g9_33) → ((q = 0 → ∀ (H : Heap) (locs : List Loc) (ls : Array Slot), va_P (dC, dI) vwCl [(o9, .inr (9, x_O9 v9_0 v9_1 v9_2 v9_3 a9_4 a9_5 a9_6 a9_7 a9_8 a9_9 a9_10 a9_11 a9_12 v9_13 v9_14 v9_15 v9_16 v9_17 v9_18 a9_19 v9_20 v9_21 v9_22 a9_23 a9_24 a9_25 a9_26 a9_27 a9_28 a9_29 a9_30 a9_31 a9_32 a9_33 a9_34 v9_35 v9_36 a9_37 a9_38 a9_39 a9_40 a9_41 v9_42 a9_43 a9_44 a9_45 a9_46 a9_47 v9_48 v9_49 v9_50 v9_51 a9_52 a9_53 v9_54 v9_55 a9_56 a9_57 v9_58 a9_59 a9_60 a9_61)), (a9_33, .inl (cyI, 202, .inl g9_33))] H → va_D A [(o9, .inr (9, x_O9 v9_0 v9_1 v9_2 v9_3 a9_4 a9_5 a9_6 a9_7 a9_8 a9_9 a9_10 a9_11 a9_12 v9_13 v9_14 v9_15 v9_16 v9_17 v9_18 a9_19 v9_20 v9_21 v9_22 a9_23 a9_24 a9_25 a9_26 a9_27 a9_28 a9_29 a9_30 a9_31 a9_32 a9_33 a9_34 v9_35 v9_36 a9_37 a9_38 a9_39 a9_40 a9_41 v9_42 a9_43 a9_44 a9_45 a9_46 a9_47 v9_48 v9_49 v9_50 v9_51 a9_52 a9_53 v9_54 v9_55 a9_56 a9_57 v9_58 a9_59 a9_60 a9_61)), (a9_33, .inl (cyI, 202, .inl g9_33))] → va_S A s.heap H locs → lv_has ls 3 [(0, .ref o9), (1, .int l1), (2, .int l2)] → WW H locs 0 0 (F0 m 24 ls [])) ∧ (q = 1 → ∀ (H : Heap) (locs : List Loc) (ls : Array Slot), va_P (dC, dI) vwCl [(o9, .inr (9, x_O9 v9_0 v9_1 v9_2 v9_3 a9_4 a9_5 a9_6 a9_7 a9_8 a9_9 a9_10 a9_11 a9_12 v9_13 v9_14 v9_15 v9_16 v9_17 v9_18 a9_19 v9_20 v9_21 v9_22 a9_23 a9_24 a9_25 a9_26 a9_27 a9_28 a9_29 a9_30 a9_31 a9_32 a9_33 a9_34 v9_35 v9_36 a9_37 a9_38 a9_39 a9_40 a9_41 v9_42 a9_43 a9_44 a9_45 a9_46 a9_47 v9_48 v9_49 v9_50 v9_51 a9_52 a9_53 v9_54 v9_55 a9_56 a9_57 v9_58 a9_59 a9_60 a9_61)), (a9_33, .inl (cyI, 202, .inl g9_33))] H → va_D A [(o9, .inr (9, x_O9 v9_0 v9_1 v9_2 v9_3 a9_4 a9_5 a9_6 a9_7 a9_8 a9_9 a9_10 a9_11 a9_12 v9_13 v9_14 v9_15 v9_16 v9_17 v9_18 a9_19 v9_20 v9_21 v9_22 a9_23 a9_24 a9_25 a9_26 a9_27 a9_28 a9_29 a9_30 a9_31 a9_32 a9_33 a9_34 v9_35 v9_36 a9_37 a9_38 a9_39 a9_40 a9_41 v9_42 a9_43 a9_44 a9_45 a9_46 a9_47 v9_48 v9_49 v9_50 v9_51 a9_52 a9_53 v9_54 v9_55 a9_56 a9_57 v9_58 a9_59 a9_60 a9_61)), (a9_33, .inl (cyI, 202, .inl g9_33))] → va_S A s.heap H locs → lv_has ls 3 [(0, .ref o9), (1, .int l1), (2, .int l2)] → WW H locs 0 0 (F0 m 44 ls [])) ∧ (q = 2 → ∀ (H : Heap) (locs : List Loc) (ls : Array Slot), va_P (dC, dI) vwCl [(o9, .inr (9, x_O9 v9_0 v9_1 v9_2 v9_3 a9_4 a9_5 a9_6 a9_7 a9_8 a9_9 a9_10 a9_11 a9_12 v9_13 v9_14 v9_15 v9_16 v9_17 v9_18 a9_19 v9_20 v9_21 v9_22 a9_23 a9_24 a9_25 a9_26 a9_27 a9_28 a9_29 a9_30 a9_31 a9_32 a9_33 a9_34 v9_35 v9_36 a9_37 a9_38 a9_39 a9_40 a9_41 v9_42 a9_43 a9_44 a9_45 a9_46 a9_47 v9_48 v9_49 v9_50 v9_51 a9_52 a9_53 v9_54 v9_55 a9_56 a9_57 v9_58 a9_59 a9_60 a9_61)), (a9_33, .inl (cyI, 202, .inl g9_33))] H → va_D A [(o9, .inr (9, x_O9 v9_0 v9_1 v9_2 v9_3 a9_4 a9_5 a9_6 a9_7 a9_8 a9_9 a9_10 a9_11 a9_12 v9_13 v9_14 v9_15 v9_16 v9_17 v9_18 a9_19 v9_20 v9_21 v9_22 a9_23 a9_24 a9_25 a9_26 a9_27 a9_28 a9_29 a9_30 a9_31 a9_32 a9_33 a9_34 v9_35 v9_36 a9_37 a9_38 a9_39 a9_40 a9_41 v9_42 a9_43 a9_44 a9_45 a9_46 a9_47 v9_48 v9_49 v9_50 v9_51 a9_52 a9_53 v9_54 v9_55 a9_56 a9_57 v9_58 a9_59 a9_60 a9_61)), (a9_33, .inl (cyI, 202, .inl g9_33))] → va_S A s.heap H locs → lv_has ls 3 [(0, .ref o9), (1, .int l1), (2, .int l2)] → WW H locs 0 0 (F0 m 53 ls [])) ∧ (q = 3 → ∀ (H : Heap) (locs : List Loc) (ls : Array Slot), va_P (dC, dI) vwCl [(o9, .inr (9, x_O9 v9_0 v9_1 v9_2 v9_3 a9_4 a9_5 a9_6 a9_7 a9_8 a9_9 a9_10 a9_11 a9_12 v9_13 v9_14 v9_15 v9_16 v9_17 v9_18 a9_19 v9_20 v9_21 v9_22 a9_23 a9_24 a9_25 a9_26 a9_27 a9_28 a9_29 a9_30 a9_31 a9_32 a9_33 a9_34 v9_35 v9_36 a9_37 a9_38 a9_39 a9_40 a9_41 v9_42 a9_43 a9_44 a9_45 a9_46 a9_47 v9_48 v9_49 v9_50 v9_51 a9_52 a9_53 v9_54 v9_55 a9_56 a9_57 v9_58 a9_59 a9_60 a9_61)), (a9_33, .inl (cyI, 202, .inl g9_33))] H → va_D A [(o9, .inr (9, x_O9 v9_0 v9_1 v9_2 v9_3 a9_4 a9_5 a9_6 a9_7 a9_8 a9_9 a9_10 a9_11 a9_12 v9_13 v9_14 v9_15 v9_16 v9_17 v9_18 a9_19 v9_20 v9_21 v9_22 a9_23 a9_24 a9_25 a9_26 a9_27 a9_28 a9_29 a9_30 a9_31 a9_32 a9_33 a9_34 v9_35 v9_36 a9_37 a9_38 a9_39 a9_40 a9_41 v9_42 a9_43 a9_44 a9_45 a9_46 a9_47 v9_48 v9_49 v9_50 v9_51 a9_52 a9_53 v9_54 v9_55 a9_56 a9_57 v9_58 a9_59 a9_60 a9_61)), (a9_33, .inl (cyI, 202, .inl g9_33))] → va_S A s.heap H locs → lv_has ls 3 [(0, .ref o9), (1, .int l1)] → WW H locs 0 0 (F0 m 70 ls [])) ∧ (q = 4 → ∀ (H : Heap) (locs : List Loc) (ls : Array Slot), va_P (dC, dI) vwCl [(o9, .inr (9, x_O9 v9_0 v9_1 v9_2 v9_3 a9_4 a9_5 a9_6 a9_7 a9_8 a9_9 a9_10 a9_11 a9_12 v9_13 v9_14 v9_15 v9_16 v9_17 v9_18 a9_19 v9_20 v9_21 v9_22 a9_23 a9_24 a9_25 a9_26 a9_27 a9_28 a9_29 a9_30 a9_31 a9_32 a9_33 a9_34 v9_35 v9_36 a9_37 a9_38 a9_39 a9_40 a9_41 v9_42 a9_43 a9_44 a9_45 a9_46 a9_47 v9_48 v9_49 v9_50 v9_51 a9_52 a9_53 v9_54 v9_55 a9_56 a9_57 v9_58 a9_59 a9_60 a9_61)), (a9_33, .inl (cyI, 202, .inl g9_33))] H → va_D A [(o9, .inr (9, x_O9 v9_0 v9_1 v9_2 v9_3 a9_4 a9_5 a9_6 a9_7 a9_8 a9_9 a9_10 a9_11 a9_12 v9_13 v9_14 v9_15 v9_16 v9_17 v9_18 a9_19 v9_20 v9_21 v9_22 a9_23 a9_24 a9_25 a9_26 a9_27 a9_28 a9_29 a9_30 a9_31 a9_32 a9_33 a9_34 v9_35 v9_36 a9_37 a9_38 a9_39 a9_40 a9_41 v9_42 a9_43 a9_44 a9_45 a9_46 a9_47 v9_48 v9_49 v9_50 v9_51 a9_52 a9_53 v9_54 v9_55 a9_56 a9_57 v9_58 a9_59 a9_60 a9_61)), (a9_33, .inl (cyI, 202, .inl g9_33))] → va_S A s.heap H locs → lv_has ls 3 [(0, .ref o9), (1, .int l1)] → WW H locs 0 0 (F0 m 94 ls [])) ∧ (q = 5 → ∀ (H : Heap) (locs : List Loc) (ls : Array Slot), va_P (dC, dI) vwCl [(o9, .inr (9, x_O9 v9_0 v9_1 v9_2 v9_3 a9_4 a9_5 a9_6 a9_7 a9_8 a9_9 a9_10 a9_11 a9_12 v9_13 v9_14 v9_15 v9_16 v9_17 v9_18 a9_19 v9_20 v9_21 v9_22 a9_23 a9_24 a9_25 a9_26 a9_27 a9_28 a9_29 a9_30 a9_31 a9_32 a9_33 a9_34 v9_35 v9_36 a9_37 a9_38 a9_39 a9_40 a9_41 v9_42 a9_43 a9_44 a9_45 a9_46 a9_47 v9_48 v9_49 v9_50 v9_51 a9_52 a9_53 v9_54 v9_55 a9_56 a9_57 v9_58 a9_59 a9_60 a9_61)), (a9_33, .inl (cyI, 202, .inl g9_33))] H → va_D A [(o9, .inr (9, x_O9 v9_0 v9_1 v9_2 v9_3 a9_4 a9_5 a9_6 a9_7 a9_8 a9_9 a9_10 a9_11 a9_12 v9_13 v9_14 v9_15 v9_16 v9_17 v9_18 a9_19 v9_20 v9_21 v9_22 a9_23 a9_24 a9_25 a9_26 a9_27 a9_28 a9_29 a9_30 a9_31 a9_32 a9_33 a9_34 v9_35 v9_36 a9_37 a9_38 a9_39 a9_40 a9_41 v9_42 a9_43 a9_44 a9_45 a9_46 a9_47 v9_48 v9_49 v9_50 v9_51 a9_52 a9_53 v9_54 v9_55 a9_56 a9_57 v9_58 a9_59 a9_60 a9_61)), (a9_33, .inl (cyI, 202, .inl g9_33))] → va_S A s.heap H locs → lv_has ls 3 [(0, .ref o9), (1, .int l1)] → WW H locs 0 0 (F0 m 103 ls [])))) (by
    intro F ih z r hf hr q l2 g9_33 hz
    subst hz
    obtain rfl := hr
    refine ⟨?_, ?_, ?_, ?_, ?_, ?_⟩
    · intro hq H locs ls hP hD hS hl
      subst hq
      refine (hWW _ _ _ _ _).mp ?_
      replace hf := x_ip rfl hf
      refine lv_aload_n hx hb dX9_set_24 rfl (lv_at hl 0 rfl) ?_
      refine va_get (D := (dC, dI)) (ci := 9) (v := .ref a9_33) (C := RX9) (T := TX9) (N := 62) hx hb hts i_X9_set_X9 hown hK hP 0 rfl rfl 33 (by decide) k_1 (fun _ h9 => h9) rfl dX9_set_25 ?_
      refine lv_iload_n hx hb dX9_set_28 rfl (lv_at hl 1 rfl) ?_
      obtain ⟨g_1, hf⟩ := x_gu hf
      refine va_iald hx hb hK hP 1 0 rfl rfl (x_gdin g_1) dX9_set_29 ?_
      refine lv_iconst (v := 3) hx hb dX9_set_30 (by decide) ?_
      refine lv_icmp_eq (tgt := 44) hx hb dX9_set_31 (by decide) (fun c_2 => ?_) (fun c_2 => ?_)
      · replace hf := x_ip c_2 hf
        exact (hWW _ _ _ _ _).mpr ((ih (1, l2, g9_33) _ hf rfl _ _ _ rfl).2.1 rfl H locs ls hP hD hS (lv_sub hl [0, 1, 2] rfl))
      · replace hf := x_in c_2 hf
        refine lv_aload_n hx hb dX9_set_34 rfl (lv_at hl 0 rfl) ?_
        refine va_get (D := (dC, dI)) (ci := 9) (v := .ref a9_33) (C := RX9) (T := TX9) (N := 62) hx hb hts i_X9_set_X9 hown hK hP 0 rfl rfl 33 (by decide) k_1 (fun _ h9 => h9) rfl dX9_set_35 ?_
        refine lv_iload_n hx hb dX9_set_38 rfl (lv_at hl 1 rfl) ?_
        obtain ⟨g_3, hf⟩ := x_gu hf
        refine va_iald hx hb hK hP 1 0 rfl rfl (x_gdin g_3) dX9_set_39 ?_
        refine lv_iconst (v := 4) hx hb dX9_set_40 (by decide) ?_
        refine lv_icmp_ne (tgt := 53) hx hb dX9_set_41 (by decide) (fun c_4 => ?_) (fun c_4 => ?_)
        · replace hf := x_in c_4 hf
          exact (hWW _ _ _ _ _).mpr ((ih (2, l2, g9_33) _ hf rfl _ _ _ rfl).2.2.1 rfl H locs ls hP hD hS (lv_sub hl [0, 1, 2] rfl))
        · replace hf := x_ip c_4 hf
          exact (hWW _ _ _ _ _).mpr ((ih (1, l2, g9_33) _ hf rfl _ _ _ rfl).2.1 rfl H locs ls hP hD hS (lv_sub hl [0, 1, 2] rfl))
    · intro hq H locs ls hP hD hS hl
      subst hq
      refine (hWW _ _ _ _ _).mp ?_
      replace hf := x_ip rfl (x_in (by decide) hf)
      refine lv_aload_n hx hb dX9_set_44 rfl (lv_at hl 0 rfl) ?_
      refine va_get (D := (dC, dI)) (ci := 9) (v := .ref a9_33) (C := RX9) (T := TX9) (N := 62) hx hb hts i_X9_set_X9 hown hK hP 0 rfl rfl 33 (by decide) k_1 (fun _ h9 => h9) rfl dX9_set_45 ?_
      refine lv_iload_n hx hb dX9_set_48 rfl (lv_at hl 1 rfl) ?_
      refine lv_iconst (v := 1) hx hb dX9_set_49 (by decide) ?_
      refine lv_iadd hx hb dX9_set_50 ?_
      refine lv_iconst (v := 0) hx hb dX9_set_51 (by decide) ?_
      obtain ⟨g_5, hf⟩ := x_gu hf
      refine va_iast hx hb hK hP hD hS 1 0 rfl rfl (x_gdin g_5) dX9_set_52 (fun H locs hP hD hS => ?_)
      have hP : va_P (dC, dI) vwCl [(o9, .inr (9, x_O9 v9_0 v9_1 v9_2 v9_3 a9_4 a9_5 a9_6 a9_7 a9_8 a9_9 a9_10 a9_11 a9_12 v9_13 v9_14 v9_15 v9_16 v9_17 v9_18 a9_19 v9_20 v9_21 v9_22 a9_23 a9_24 a9_25 a9_26 a9_27 a9_28 a9_29 a9_30 a9_31 a9_32 a9_33 a9_34 v9_35 v9_36 a9_37 a9_38 a9_39 a9_40 a9_41 v9_42 a9_43 a9_44 a9_45 a9_46 a9_47 v9_48 v9_49 v9_50 v9_51 a9_52 a9_53 v9_54 v9_55 a9_56 a9_57 v9_58 a9_59 a9_60 a9_61)), (a9_33, .inl (cyI, 202, .inl (upd g9_33 (Int32.toNatClampNeg (l1 + (1 : Int32))) 0)))] H := hP
      have hD : va_D A [(o9, .inr (9, x_O9 v9_0 v9_1 v9_2 v9_3 a9_4 a9_5 a9_6 a9_7 a9_8 a9_9 a9_10 a9_11 a9_12 v9_13 v9_14 v9_15 v9_16 v9_17 v9_18 a9_19 v9_20 v9_21 v9_22 a9_23 a9_24 a9_25 a9_26 a9_27 a9_28 a9_29 a9_30 a9_31 a9_32 a9_33 a9_34 v9_35 v9_36 a9_37 a9_38 a9_39 a9_40 a9_41 v9_42 a9_43 a9_44 a9_45 a9_46 a9_47 v9_48 v9_49 v9_50 v9_51 a9_52 a9_53 v9_54 v9_55 a9_56 a9_57 v9_58 a9_59 a9_60 a9_61)), (a9_33, .inl (cyI, 202, .inl (upd g9_33 (Int32.toNatClampNeg (l1 + (1 : Int32))) 0)))] := hD
      exact (hWW _ _ _ _ _).mpr ((ih (2, l2, upd g9_33 (Int32.toNatClampNeg (l1 + (1 : Int32))) 0) _ hf rfl _ _ _ rfl).2.2.1 rfl H locs ls hP hD hS (lv_sub hl [0, 1, 2] rfl))
    · intro hq H locs ls hP hD hS hl
      subst hq
      refine (hWW _ _ _ _ _).mp ?_
      replace hf := x_ip rfl (x_in (by decide) (x_in (by decide) hf))
      refine lv_aload_n hx hb dX9_set_53 rfl (lv_at hl 0 rfl) ?_
      refine va_get (D := (dC, dI)) (ci := 9) (v := .ref a9_33) (C := RX9) (T := TX9) (N := 62) hx hb hts i_X9_set_X9 hown hK hP 0 rfl rfl 33 (by decide) k_1 (fun _ h9 => h9) rfl dX9_set_54 ?_
      refine lv_iload_n hx hb dX9_set_57 rfl (lv_at hl 1 rfl) ?_
      refine lv_iload_n hx hb dX9_set_58 rfl (lv_at hl 2 rfl) ?_
      obtain ⟨g_6, hf⟩ := x_gu hf
      refine va_iast hx hb hK hP hD hS 1 0 rfl rfl (x_gdin g_6) dX9_set_59 (fun H locs hP hD hS => ?_)
      have hP : va_P (dC, dI) vwCl [(o9, .inr (9, x_O9 v9_0 v9_1 v9_2 v9_3 a9_4 a9_5 a9_6 a9_7 a9_8 a9_9 a9_10 a9_11 a9_12 v9_13 v9_14 v9_15 v9_16 v9_17 v9_18 a9_19 v9_20 v9_21 v9_22 a9_23 a9_24 a9_25 a9_26 a9_27 a9_28 a9_29 a9_30 a9_31 a9_32 a9_33 a9_34 v9_35 v9_36 a9_37 a9_38 a9_39 a9_40 a9_41 v9_42 a9_43 a9_44 a9_45 a9_46 a9_47 v9_48 v9_49 v9_50 v9_51 a9_52 a9_53 v9_54 v9_55 a9_56 a9_57 v9_58 a9_59 a9_60 a9_61)), (a9_33, .inl (cyI, 202, .inl (upd g9_33 (Int32.toNatClampNeg l1) l2)))] H := hP
      have hD : va_D A [(o9, .inr (9, x_O9 v9_0 v9_1 v9_2 v9_3 a9_4 a9_5 a9_6 a9_7 a9_8 a9_9 a9_10 a9_11 a9_12 v9_13 v9_14 v9_15 v9_16 v9_17 v9_18 a9_19 v9_20 v9_21 v9_22 a9_23 a9_24 a9_25 a9_26 a9_27 a9_28 a9_29 a9_30 a9_31 a9_32 a9_33 a9_34 v9_35 v9_36 a9_37 a9_38 a9_39 a9_40 a9_41 v9_42 a9_43 a9_44 a9_45 a9_46 a9_47 v9_48 v9_49 v9_50 v9_51 a9_52 a9_53 v9_54 v9_55 a9_56 a9_57 v9_58 a9_59 a9_60 a9_61)), (a9_33, .inl (cyI, 202, .inl (upd g9_33 (Int32.toNatClampNeg l1) l2)))] := hD
      refine lv_iload_n hx hb dX9_set_60 rfl (lv_at hl 2 rfl) ?_
      refine lv_iconst (v := 3) hx hb dX9_set_61 (by decide) ?_
      refine lv_icmp_eq (tgt := 70) hx hb dX9_set_62 (by decide) (fun c_7 => ?_) (fun c_7 => ?_)
      · replace hf := x_ip c_7 hf
        exact (hWW _ _ _ _ _).mpr ((ih (3, 0, upd g9_33 (Int32.toNatClampNeg l1) l2) _ hf rfl _ _ _ rfl).2.2.2.1 rfl H locs ls hP hD hS (lv_sub hl [0, 1] rfl))
      · replace hf := x_in c_7 hf
        refine lv_iload_n hx hb dX9_set_65 rfl (lv_at hl 2 rfl) ?_
        refine lv_iconst (v := 4) hx hb dX9_set_66 (by decide) ?_
        refine lv_icmp_ne (tgt := 113) hx hb dX9_set_67 (by decide) (fun c_8 => ?_) (fun c_8 => ?_)
        · replace hf := x_in c_8 hf
          obtain rfl := Option.some.inj hf
          have hP9 := hP.sub (ws' := [(o9, .inr (9, x_O9 v9_0 v9_1 v9_2 v9_3 a9_4 a9_5 a9_6 a9_7 a9_8 a9_9 a9_10 a9_11 a9_12 v9_13 v9_14 v9_15 v9_16 v9_17 v9_18 a9_19 v9_20 v9_21 v9_22 a9_23 a9_24 a9_25 a9_26 a9_27 a9_28 a9_29 a9_30 a9_31 a9_32 a9_33 a9_34 v9_35 v9_36 a9_37 a9_38 a9_39 a9_40 a9_41 v9_42 a9_43 a9_44 a9_45 a9_46 a9_47 v9_48 v9_49 v9_50 v9_51 a9_52 a9_53 v9_54 v9_55 a9_56 a9_57 v9_58 a9_59 a9_60 a9_61)), (a9_33, .inl (cyI, 202, .inl (upd g9_33 (Int32.toNatClampNeg l1) l2)))]) [0, 1] rfl
          have hD9 := hD.sub (ws' := [(o9, .inr (9, x_O9 v9_0 v9_1 v9_2 v9_3 a9_4 a9_5 a9_6 a9_7 a9_8 a9_9 a9_10 a9_11 a9_12 v9_13 v9_14 v9_15 v9_16 v9_17 v9_18 a9_19 v9_20 v9_21 v9_22 a9_23 a9_24 a9_25 a9_26 a9_27 a9_28 a9_29 a9_30 a9_31 a9_32 a9_33 a9_34 v9_35 v9_36 a9_37 a9_38 a9_39 a9_40 a9_41 v9_42 a9_43 a9_44 a9_45 a9_46 a9_47 v9_48 v9_49 v9_50 v9_51 a9_52 a9_53 v9_54 v9_55 a9_56 a9_57 v9_58 a9_59 a9_60 a9_61)), (a9_33, .inl (cyI, 202, .inl (upd g9_33 (Int32.toNatClampNeg l1) l2)))]) [0, 1] (by decide) rfl
          exact W.vret hx hb hr (fun t ht hW => ⟨⟨(), rfl, trivial, by rw [ht]; exact hP9, va_K.moved hW.alike hK, hD9⟩, hS.F ht⟩) hS.2.2 dX9_set_113
        · replace hf := x_ip c_8 hf
          exact (hWW _ _ _ _ _).mpr ((ih (3, 0, upd g9_33 (Int32.toNatClampNeg l1) l2) _ hf rfl _ _ _ rfl).2.2.2.1 rfl H locs ls hP hD hS (lv_sub hl [0, 1] rfl))
    · intro hq H locs ls hP hD hS hl
      subst hq
      refine (hWW _ _ _ _ _).mp ?_
      replace hf := x_ip rfl (x_in (by decide) (x_in (by decide) (x_in (by decide) hf)))
      refine lv_aload_n hx hb dX9_set_70 rfl (lv_at hl 0 rfl) ?_
      refine va_get (D := (dC, dI)) (ci := 9) (v := .ref a9_33) (C := RX9) (T := TX9) (N := 62) hx hb hts i_X9_set_X9 hown hK hP 0 rfl rfl 33 (by decide) k_1 (fun _ h9 => h9) rfl dX9_set_71 ?_
      refine lv_iload_n hx hb dX9_set_74 rfl (lv_at hl 1 rfl) ?_
      refine lv_iconst (v := 1) hx hb dX9_set_75 (by decide) ?_
      refine lv_iadd hx hb dX9_set_76 ?_
      obtain ⟨g_9, hf⟩ := x_gu hf
      refine va_iald hx hb hK hP 1 0 rfl rfl (x_gdin g_9) dX9_set_77 ?_
      refine lv_iconst (v := 3) hx hb dX9_set_78 (by decide) ?_
      refine lv_icmp_eq (tgt := 94) hx hb dX9_set_79 (by decide) (fun c_10 => ?_) (fun c_10 => ?_)
      · replace hf := x_ip c_10 hf
        exact (hWW _ _ _ _ _).mpr ((ih (4, 0, g9_33) _ hf rfl _ _ _ rfl).2.2.2.2.1 rfl H locs ls hP hD hS (lv_sub hl [0, 1] rfl))
      · replace hf := x_in c_10 hf
        refine lv_aload_n hx hb dX9_set_82 rfl (lv_at hl 0 rfl) ?_
        refine va_get (D := (dC, dI)) (ci := 9) (v := .ref a9_33) (C := RX9) (T := TX9) (N := 62) hx hb hts i_X9_set_X9 hown hK hP 0 rfl rfl 33 (by decide) k_1 (fun _ h9 => h9) rfl dX9_set_83 ?_
        refine lv_iload_n hx hb dX9_set_86 rfl (lv_at hl 1 rfl) ?_
        refine lv_iconst (v := 1) hx hb dX9_set_87 (by decide) ?_
        refine lv_iadd hx hb dX9_set_88 ?_
        obtain ⟨g_11, hf⟩ := x_gu hf
        refine va_iald hx hb hK hP 1 0 rfl rfl (x_gdin g_11) dX9_set_89 ?_
        refine lv_iconst (v := 4) hx hb dX9_set_90 (by decide) ?_
        refine lv_icmp_ne (tgt := 103) hx hb dX9_set_91 (by decide) (fun c_12 => ?_) (fun c_12 => ?_)
        · replace hf := x_in c_12 hf
          exact (hWW _ _ _ _ _).mpr ((ih (5, 0, g9_33) _ hf rfl _ _ _ rfl).2.2.2.2.2 rfl H locs ls hP hD hS (lv_sub hl [0, 1] rfl))
        · replace hf := x_ip c_12 hf
          exact (hWW _ _ _ _ _).mpr ((ih (4, 0, g9_33) _ hf rfl _ _ _ rfl).2.2.2.2.1 rfl H locs ls hP hD hS (lv_sub hl [0, 1] rfl))
    · intro hq H locs ls hP hD hS hl
      subst hq
      refine (hWW _ _ _ _ _).mp ?_
      replace hf := x_ip rfl (x_in (by decide) (x_in (by decide) (x_in (by decide) (x_in (by decide) hf))))
      refine lv_aload_n hx hb dX9_set_94 rfl (lv_at hl 0 rfl) ?_
      refine va_get (D := (dC, dI)) (ci := 9) (v := .ref a9_33) (C := RX9) (T := TX9) (N := 62) hx hb hts i_X9_set_X9 hown hK hP 0 rfl rfl 33 (by decide) k_1 (fun _ h9 => h9) rfl dX9_set_95 ?_
      refine lv_iload_n hx hb dX9_set_98 rfl (lv_at hl 1 rfl) ?_
      refine lv_iconst (v := 2) hx hb dX9_set_99 (by decide) ?_
      refine lv_iadd hx hb dX9_set_100 ?_
      refine lv_iconst (v := 0) hx hb dX9_set_101 (by decide) ?_
      obtain ⟨g_13, hf⟩ := x_gu hf
      refine va_iast hx hb hK hP hD hS 1 0 rfl rfl (x_gdin g_13) dX9_set_102 (fun H locs hP hD hS => ?_)
      have hP : va_P (dC, dI) vwCl [(o9, .inr (9, x_O9 v9_0 v9_1 v9_2 v9_3 a9_4 a9_5 a9_6 a9_7 a9_8 a9_9 a9_10 a9_11 a9_12 v9_13 v9_14 v9_15 v9_16 v9_17 v9_18 a9_19 v9_20 v9_21 v9_22 a9_23 a9_24 a9_25 a9_26 a9_27 a9_28 a9_29 a9_30 a9_31 a9_32 a9_33 a9_34 v9_35 v9_36 a9_37 a9_38 a9_39 a9_40 a9_41 v9_42 a9_43 a9_44 a9_45 a9_46 a9_47 v9_48 v9_49 v9_50 v9_51 a9_52 a9_53 v9_54 v9_55 a9_56 a9_57 v9_58 a9_59 a9_60 a9_61)), (a9_33, .inl (cyI, 202, .inl (upd g9_33 (Int32.toNatClampNeg (l1 + (2 : Int32))) 0)))] H := hP
      have hD : va_D A [(o9, .inr (9, x_O9 v9_0 v9_1 v9_2 v9_3 a9_4 a9_5 a9_6 a9_7 a9_8 a9_9 a9_10 a9_11 a9_12 v9_13 v9_14 v9_15 v9_16 v9_17 v9_18 a9_19 v9_20 v9_21 v9_22 a9_23 a9_24 a9_25 a9_26 a9_27 a9_28 a9_29 a9_30 a9_31 a9_32 a9_33 a9_34 v9_35 v9_36 a9_37 a9_38 a9_39 a9_40 a9_41 v9_42 a9_43 a9_44 a9_45 a9_46 a9_47 v9_48 v9_49 v9_50 v9_51 a9_52 a9_53 v9_54 v9_55 a9_56 a9_57 v9_58 a9_59 a9_60 a9_61)), (a9_33, .inl (cyI, 202, .inl (upd g9_33 (Int32.toNatClampNeg (l1 + (2 : Int32))) 0)))] := hD
      exact (hWW _ _ _ _ _).mpr ((ih (5, 0, upd g9_33 (Int32.toNatClampNeg (l1 + (2 : Int32))) 0) _ hf rfl _ _ _ rfl).2.2.2.2.2 rfl H locs ls hP hD hS (lv_sub hl [0, 1] rfl))
    · intro hq H locs ls hP hD hS hl
      subst hq
      refine (hWW _ _ _ _ _).mp ?_
      replace hf := x_ip rfl (x_in (by decide) (x_in (by decide) (x_in (by decide) (x_in (by decide) (x_in (by decide) hf)))))
      refine lv_aload_n hx hb dX9_set_103 rfl (lv_at hl 0 rfl) ?_
      refine va_get (D := (dC, dI)) (ci := 9) (v := .ref a9_33) (C := RX9) (T := TX9) (N := 62) hx hb hts i_X9_set_X9 hown hK hP 0 rfl rfl 33 (by decide) k_1 (fun _ h9 => h9) rfl dX9_set_104 ?_
      refine lv_iload_n hx hb dX9_set_107 rfl (lv_at hl 1 rfl) ?_
      refine lv_iconst (v := 1) hx hb dX9_set_108 (by decide) ?_
      refine lv_iadd hx hb dX9_set_109 ?_
      refine lv_bipush (v := 7) hx hb dX9_set_110 (by decide) ?_
      obtain ⟨g_14, hf⟩ := x_gu hf
      refine va_iast hx hb hK hP hD hS 1 0 rfl rfl (x_gdin g_14) dX9_set_112 (fun H locs hP hD hS => ?_)
      have hP : va_P (dC, dI) vwCl [(o9, .inr (9, x_O9 v9_0 v9_1 v9_2 v9_3 a9_4 a9_5 a9_6 a9_7 a9_8 a9_9 a9_10 a9_11 a9_12 v9_13 v9_14 v9_15 v9_16 v9_17 v9_18 a9_19 v9_20 v9_21 v9_22 a9_23 a9_24 a9_25 a9_26 a9_27 a9_28 a9_29 a9_30 a9_31 a9_32 a9_33 a9_34 v9_35 v9_36 a9_37 a9_38 a9_39 a9_40 a9_41 v9_42 a9_43 a9_44 a9_45 a9_46 a9_47 v9_48 v9_49 v9_50 v9_51 a9_52 a9_53 v9_54 v9_55 a9_56 a9_57 v9_58 a9_59 a9_60 a9_61)), (a9_33, .inl (cyI, 202, .inl (upd g9_33 (Int32.toNatClampNeg (l1 + (1 : Int32))) 7)))] H := hP
      have hD : va_D A [(o9, .inr (9, x_O9 v9_0 v9_1 v9_2 v9_3 a9_4 a9_5 a9_6 a9_7 a9_8 a9_9 a9_10 a9_11 a9_12 v9_13 v9_14 v9_15 v9_16 v9_17 v9_18 a9_19 v9_20 v9_21 v9_22 a9_23 a9_24 a9_25 a9_26 a9_27 a9_28 a9_29 a9_30 a9_31 a9_32 a9_33 a9_34 v9_35 v9_36 a9_37 a9_38 a9_39 a9_40 a9_41 v9_42 a9_43 a9_44 a9_45 a9_46 a9_47 v9_48 v9_49 v9_50 v9_51 a9_52 a9_53 v9_54 v9_55 a9_56 a9_57 v9_58 a9_59 a9_60 a9_61)), (a9_33, .inl (cyI, 202, .inl (upd g9_33 (Int32.toNatClampNeg (l1 + (1 : Int32))) 7)))] := hD
      obtain rfl := Option.some.inj hf
      have hP9 := hP.sub (ws' := [(o9, .inr (9, x_O9 v9_0 v9_1 v9_2 v9_3 a9_4 a9_5 a9_6 a9_7 a9_8 a9_9 a9_10 a9_11 a9_12 v9_13 v9_14 v9_15 v9_16 v9_17 v9_18 a9_19 v9_20 v9_21 v9_22 a9_23 a9_24 a9_25 a9_26 a9_27 a9_28 a9_29 a9_30 a9_31 a9_32 a9_33 a9_34 v9_35 v9_36 a9_37 a9_38 a9_39 a9_40 a9_41 v9_42 a9_43 a9_44 a9_45 a9_46 a9_47 v9_48 v9_49 v9_50 v9_51 a9_52 a9_53 v9_54 v9_55 a9_56 a9_57 v9_58 a9_59 a9_60 a9_61)), (a9_33, .inl (cyI, 202, .inl (upd g9_33 (Int32.toNatClampNeg (l1 + (1 : Int32))) 7)))]) [0, 1] rfl
      have hD9 := hD.sub (ws' := [(o9, .inr (9, x_O9 v9_0 v9_1 v9_2 v9_3 a9_4 a9_5 a9_6 a9_7 a9_8 a9_9 a9_10 a9_11 a9_12 v9_13 v9_14 v9_15 v9_16 v9_17 v9_18 a9_19 v9_20 v9_21 v9_22 a9_23 a9_24 a9_25 a9_26 a9_27 a9_28 a9_29 a9_30 a9_31 a9_32 a9_33 a9_34 v9_35 v9_36 a9_37 a9_38 a9_39 a9_40 a9_41 v9_42 a9_43 a9_44 a9_45 a9_46 a9_47 v9_48 v9_49 v9_50 v9_51 a9_52 a9_53 v9_54 v9_55 a9_56 a9_57 v9_58 a9_59 a9_60 a9_61)), (a9_33, .inl (cyI, 202, .inl (upd g9_33 (Int32.toNatClampNeg (l1 + (1 : Int32))) 7)))]) [0, 1] (by decide) rfl
      exact W.vret hx hb hr (fun t ht hW => ⟨⟨(), rfl, trivial, by rw [ht]; exact hP9, va_K.moved hW.alike hK, hD9⟩, hS.F ht⟩) hS.2.2 dX9_set_113)
  refine lv_aload_n hx hb dX9_set_0 rfl (lv_at hl 0 rfl) ?_
  refine va_get (D := (dC, dI)) (ci := 9) (v := .ref a9_33) (C := RX9) (T := TX9) (N := 62) hx hb hts i_X9_set_X9 hown hK hP 0 rfl rfl 33 (by decide) k_1 (fun _ h9 => h9) rfl dX9_set_1 ?_
  refine lv_iload_n hx hb dX9_set_4 rfl (lv_at hl 1 rfl) ?_
  obtain ⟨g_15, hf⟩ := x_gu hf
  refine va_iald hx hb hK hP 1 0 rfl rfl (x_gdin g_15) dX9_set_5 ?_
  refine lv_bipush (v := 7) hx hb dX9_set_6 (by decide) ?_
  refine lv_icmp_ne (tgt := 24) hx hb dX9_set_8 (by decide) (fun c_16 => ?_) (fun c_16 => ?_)
  · replace hf := x_in c_16 hf
    exact (hWW _ _ _ _ _).mpr ((J p1 (0, p2, g9_33) _ hf rfl _ _ _ rfl).1 rfl H locs ls hP hD hS (lv_sub hl [0, 1, 2] rfl))
  · replace hf := x_ip c_16 hf
    refine lv_iload_n hx hb dX9_set_11 rfl (lv_at hl 1 rfl) ?_
    refine lv_if_le (tgt := 24) hx hb dX9_set_12 (by decide) (fun c_17 => ?_) (fun c_17 => ?_)
    · replace hf := x_ip c_17 hf
      exact (hWW _ _ _ _ _).mpr ((J p1 (0, p2, g9_33) _ hf rfl _ _ _ rfl).1 rfl H locs ls hP hD hS (lv_sub hl [0, 1, 2] rfl))
    · replace hf := x_in c_17 hf
      refine lv_aload_n hx hb dX9_set_15 rfl (lv_at hl 0 rfl) ?_
      refine va_get (D := (dC, dI)) (ci := 9) (v := .ref a9_33) (C := RX9) (T := TX9) (N := 62) hx hb hts i_X9_set_X9 hown hK hP 0 rfl rfl 33 (by decide) k_1 (fun _ h9 => h9) rfl dX9_set_16 ?_
      refine lv_iload_n hx hb dX9_set_19 rfl (lv_at hl 1 rfl) ?_
      refine lv_iconst (v := 1) hx hb dX9_set_20 (by decide) ?_
      refine lv_isub hx hb dX9_set_21 ?_
      refine lv_iconst (v := 0) hx hb dX9_set_22 (by decide) ?_
      obtain ⟨g_18, hf⟩ := x_gu hf
      refine va_iast hx hb hK hP hD hS 1 0 rfl rfl (x_gdin g_18) dX9_set_23 (fun H locs hP hD hS => ?_)
      have hP : va_P (dC, dI) vwCl [(o9, .inr (9, x_O9 v9_0 v9_1 v9_2 v9_3 a9_4 a9_5 a9_6 a9_7 a9_8 a9_9 a9_10 a9_11 a9_12 v9_13 v9_14 v9_15 v9_16 v9_17 v9_18 a9_19 v9_20 v9_21 v9_22 a9_23 a9_24 a9_25 a9_26 a9_27 a9_28 a9_29 a9_30 a9_31 a9_32 a9_33 a9_34 v9_35 v9_36 a9_37 a9_38 a9_39 a9_40 a9_41 v9_42 a9_43 a9_44 a9_45 a9_46 a9_47 v9_48 v9_49 v9_50 v9_51 a9_52 a9_53 v9_54 v9_55 a9_56 a9_57 v9_58 a9_59 a9_60 a9_61)), (a9_33, .inl (cyI, 202, .inl (upd g9_33 (Int32.toNatClampNeg (p1 - (1 : Int32))) 0)))] H := hP
      have hD : va_D A [(o9, .inr (9, x_O9 v9_0 v9_1 v9_2 v9_3 a9_4 a9_5 a9_6 a9_7 a9_8 a9_9 a9_10 a9_11 a9_12 v9_13 v9_14 v9_15 v9_16 v9_17 v9_18 a9_19 v9_20 v9_21 v9_22 a9_23 a9_24 a9_25 a9_26 a9_27 a9_28 a9_29 a9_30 a9_31 a9_32 a9_33 a9_34 v9_35 v9_36 a9_37 a9_38 a9_39 a9_40 a9_41 v9_42 a9_43 a9_44 a9_45 a9_46 a9_47 v9_48 v9_49 v9_50 v9_51 a9_52 a9_53 v9_54 v9_55 a9_56 a9_57 v9_58 a9_59 a9_60 a9_61)), (a9_33, .inl (cyI, 202, .inl (upd g9_33 (Int32.toNatClampNeg (p1 - (1 : Int32))) 0)))] := hD
      exact (hWW _ _ _ _ _).mpr ((J p1 (0, p2, upd g9_33 (Int32.toNatClampNeg (p1 - (1 : Int32))) 0) _ hf rfl _ _ _ rfl).1 rfl H locs ls hP hD hS (lv_sub hl [0, 1, 2] rfl))

def f_X9_keep_L (v9_16 : Int32) (v9_17 : Int32) (v9_35 : Int32) (v9_36 : Int32) (g9_33 : Nat → Int32) (g9_34 : Nat → Int32) (l1 : Int32) (z : Nat × Int32 × (Nat → Int32)) : Option ((Nat → Int32)) := match z with
  | (q, l2, g9_57) => if q = 0 then if v9_16 ≤ l2 then (f_X9_keep_L v9_16 v9_17 v9_35 v9_36 g9_33 g9_34 l1 (1, 0, g9_57)) else if x_gd l2 202 = true then if x_gd (l1 + l2) 60600 = true then (f_X9_keep_L v9_16 v9_17 v9_35 v9_36 g9_33 g9_34 l1 (0, l2 + 1, upd g9_57 (Int32.toNatClampNeg (l1 + l2)) (g9_33 (Int32.toNatClampNeg l2)))) else none else none else if q = 1 then if v9_35 ≤ l2 then if x_gd ((l1 + v9_16) + v9_17) 60600 = true then if v9_36 = (0 : Int32) then if x_gd (((l1 + v9_16) + v9_17) + (1 : Int32)) 60600 = true then some (upd (upd g9_57 (Int32.toNatClampNeg ((l1 + v9_16) + v9_17)) v9_35) (Int32.toNatClampNeg (((l1 + v9_16) + v9_17) + (1 : Int32))) 0) else none else if x_gd (((l1 + v9_16) + v9_17) + (1 : Int32)) 60600 = true then some (upd (upd g9_57 (Int32.toNatClampNeg ((l1 + v9_16) + v9_17)) v9_35) (Int32.toNatClampNeg (((l1 + v9_16) + v9_17) + (1 : Int32))) 1) else none else none else if x_gd l2 202 = true then if x_gd ((l1 + v9_16) + l2) 60600 = true then (f_X9_keep_L v9_16 v9_17 v9_35 v9_36 g9_33 g9_34 l1 (1, l2 + 1, upd g9_57 (Int32.toNatClampNeg ((l1 + v9_16) + l2)) (g9_34 (Int32.toNatClampNeg l2)))) else none else none else none
partial_fixpoint
def f_X9_keep (v9_16 : Int32) (v9_17 : Int32) (v9_35 : Int32) (v9_36 : Int32) (g9_33 : Nat → Int32) (g9_34 : Nat → Int32) (g9_57 : Nat → Int32) (p1 : Int32) : Option ((Nat → Int32)) := (f_X9_keep_L v9_16 v9_17 v9_35 v9_36 g9_33 g9_34 p1 (0, 0, g9_57))
theorem i_X9_keep_X9 : ∀ w ∈ wsX90, w ∈ wsX9_keep := fun _ h => List.mem_cons_of_mem _ (List.mem_append_right _ h)
set_option maxHeartbeats 4000000 in
set_option maxRecDepth 100000 in
theorem c_X9_keep (l : Launch) (dC : Nat → ClassId) (dI : Nat → Nat → Nat) (cyI cyZ cyJ : ClassId) (sz : Nat) (o9 : Nat) (v9_0 : Int32) (v9_1 : Int32) (v9_2 : Int32) (v9_3 : Int32) (a9_4 : Nat) (a9_5 : Nat) (a9_6 : Nat) (a9_7 : Nat) (a9_8 : Nat) (a9_9 : Nat) (a9_10 : Nat) (a9_11 : Nat) (a9_12 : Nat) (v9_13 : Int32) (v9_14 : Int32) (v9_15 : Int32) (v9_16 : Int32) (v9_17 : Int32) (v9_18 : Int32) (a9_19 : Nat) (v9_20 : Int32) (v9_21 : Int32) (v9_22 : Int32) (a9_23 : Nat) (a9_24 : Nat) (a9_25 : Nat) (a9_26 : Nat) (a9_27 : Nat) (a9_28 : Nat) (a9_29 : Nat) (a9_30 : Nat) (a9_31 : Nat) (a9_32 : Nat) (a9_33 : Nat) (a9_34 : Nat) (v9_35 : Int32) (v9_36 : Int32) (a9_37 : Nat) (a9_38 : Nat) (a9_39 : Nat) (a9_40 : Nat) (a9_41 : Nat) (v9_42 : Int32) (a9_43 : Nat) (a9_44 : Nat) (a9_45 : Nat) (a9_46 : Nat) (a9_47 : Nat) (v9_48 : Int32) (v9_49 : Int32) (v9_50 : Int32) (v9_51 : Int32) (a9_52 : Nat) (a9_53 : Nat) (v9_54 : Int32) (v9_55 : Int32) (a9_56 : Nat) (a9_57 : Nat) (v9_58 : Int32) (a9_59 : Nat) (a9_60 : Nat) (a9_61 : Nat) (g9_33 : Nat → Int32) (g9_34 : Nat → Int32) (g9_57 : Nat → Int32) (p1 : Int32) (R : (Nat → Int32)) (hf : f_X9_keep v9_16 v9_17 v9_35 v9_36 g9_33 g9_34 g9_57 p1 = some R) : Met l yX9_keep wsX9_keep ({ frames := 0, cells := 0, slots := 0, locals := 0 }) (va_Pc [.ref o9, .int p1] (x_PreD (dC, dI) (x_T cyI cyZ cyJ) [(o9, .inr (9, x_O9 v9_0 v9_1 v9_2 v9_3 a9_4 a9_5 a9_6 a9_7 a9_8 a9_9 a9_10 a9_11 a9_12 v9_13 v9_14 v9_15 v9_16 v9_17 v9_18 a9_19 v9_20 v9_21 v9_22 a9_23 a9_24 a9_25 a9_26 a9_27 a9_28 a9_29 a9_30 a9_31 a9_32 a9_33 a9_34 v9_35 v9_36 a9_37 a9_38 a9_39 a9_40 a9_41 v9_42 a9_43 a9_44 a9_45 a9_46 a9_47 v9_48 v9_49 v9_50 v9_51 a9_52 a9_53 v9_54 v9_55 a9_56 a9_57 v9_58 a9_59 a9_60 a9_61)), (a9_33, .inl (cyI, 202, .inl g9_33)), (a9_34, .inl (cyI, 202, .inl g9_34)), (a9_57, .inl (cyI, 60600, .inl g9_57))] sz)) (va_Qv (fun _ : Unit => True) (fun (_ : Unit) (t : State) => va_P (dC, dI) vwCl [(o9, .inr (9, x_O9 v9_0 v9_1 v9_2 v9_3 a9_4 a9_5 a9_6 a9_7 a9_8 a9_9 a9_10 a9_11 a9_12 v9_13 v9_14 v9_15 v9_16 v9_17 v9_18 a9_19 v9_20 v9_21 v9_22 a9_23 a9_24 a9_25 a9_26 a9_27 a9_28 a9_29 a9_30 a9_31 a9_32 a9_33 a9_34 v9_35 v9_36 a9_37 a9_38 a9_39 a9_40 a9_41 v9_42 a9_43 a9_44 a9_45 a9_46 a9_47 v9_48 v9_49 v9_50 v9_51 a9_52 a9_53 v9_54 v9_55 a9_56 a9_57 v9_58 a9_59 a9_60 a9_61)), (a9_33, .inl (cyI, 202, .inl g9_33)), (a9_34, .inl (cyI, 202, .inl g9_34)), (a9_57, .inl (cyI, 60600, .inl R))] t.heap ∧ va_K (dC, dI) vwCl (x_T cyI cyZ cyJ) t ∧ va_D (va_A [(o9, .inr (9, x_O9 v9_0 v9_1 v9_2 v9_3 a9_4 a9_5 a9_6 a9_7 a9_8 a9_9 a9_10 a9_11 a9_12 v9_13 v9_14 v9_15 v9_16 v9_17 v9_18 a9_19 v9_20 v9_21 v9_22 a9_23 a9_24 a9_25 a9_26 a9_27 a9_28 a9_29 a9_30 a9_31 a9_32 a9_33 a9_34 v9_35 v9_36 a9_37 a9_38 a9_39 a9_40 a9_41 v9_42 a9_43 a9_44 a9_45 a9_46 a9_47 v9_48 v9_49 v9_50 v9_51 a9_52 a9_53 v9_54 v9_55 a9_56 a9_57 v9_58 a9_59 a9_60 a9_61)), (a9_33, .inl (cyI, 202, .inl g9_33)), (a9_34, .inl (cyI, 202, .inl g9_34)), (a9_57, .inl (cyI, 60600, .inl g9_57))] sz) [(o9, .inr (9, x_O9 v9_0 v9_1 v9_2 v9_3 a9_4 a9_5 a9_6 a9_7 a9_8 a9_9 a9_10 a9_11 a9_12 v9_13 v9_14 v9_15 v9_16 v9_17 v9_18 a9_19 v9_20 v9_21 v9_22 a9_23 a9_24 a9_25 a9_26 a9_27 a9_28 a9_29 a9_30 a9_31 a9_32 a9_33 a9_34 v9_35 v9_36 a9_37 a9_38 a9_39 a9_40 a9_41 v9_42 a9_43 a9_44 a9_45 a9_46 a9_47 v9_48 v9_49 v9_50 v9_51 a9_52 a9_53 v9_54 v9_55 a9_56 a9_57 v9_58 a9_59 a9_60 a9_61)), (a9_33, .inl (cyI, 202, .inl g9_33)), (a9_34, .inl (cyI, 202, .inl g9_34)), (a9_57, .inl (cyI, 60600, .inl R))]) (va_A [(o9, .inr (9, x_O9 v9_0 v9_1 v9_2 v9_3 a9_4 a9_5 a9_6 a9_7 a9_8 a9_9 a9_10 a9_11 a9_12 v9_13 v9_14 v9_15 v9_16 v9_17 v9_18 a9_19 v9_20 v9_21 v9_22 a9_23 a9_24 a9_25 a9_26 a9_27 a9_28 a9_29 a9_30 a9_31 a9_32 a9_33 a9_34 v9_35 v9_36 a9_37 a9_38 a9_39 a9_40 a9_41 v9_42 a9_43 a9_44 a9_45 a9_46 a9_47 v9_48 v9_49 v9_50 v9_51 a9_52 a9_53 v9_54 v9_55 a9_56 a9_57 v9_58 a9_59 a9_60 a9_61)), (a9_33, .inl (cyI, 202, .inl g9_33)), (a9_34, .inl (cyI, 202, .inl g9_34)), (a9_57, .inl (cyI, 60600, .inl g9_57))] sz)) 0 0 (va_A [(o9, .inr (9, x_O9 v9_0 v9_1 v9_2 v9_3 a9_4 a9_5 a9_6 a9_7 a9_8 a9_9 a9_10 a9_11 a9_12 v9_13 v9_14 v9_15 v9_16 v9_17 v9_18 a9_19 v9_20 v9_21 v9_22 a9_23 a9_24 a9_25 a9_26 a9_27 a9_28 a9_29 a9_30 a9_31 a9_32 a9_33 a9_34 v9_35 v9_36 a9_37 a9_38 a9_39 a9_40 a9_41 v9_42 a9_43 a9_44 a9_45 a9_46 a9_47 v9_48 v9_49 v9_50 v9_51 a9_52 a9_53 v9_54 v9_55 a9_56 a9_57 v9_58 a9_59 a9_60 a9_61)), (a9_33, .inl (cyI, 202, .inl g9_33)), (a9_34, .inl (cyI, 202, .inl g9_34)), (a9_57, .inl (cyI, 60600, .inl g9_57))] sz) := by
  refine Met.ofW (cc := cX9_keep) (maxL := 3) (ret := none) (by decide) rfl ?_
  intro p e s m args below meth c s₁ B hml hv
  obtain ⟨rfl, ⟨hsz, hP, hK, hN⟩, hD0⟩ := hv
  have hx := B.exec
  have hb := B.bytes
  have hr := B.returns
  have hts := atoms_spec (ws := wsX9_keep) B.pre
  have hown : s.vm.findClass RX9 = some m.cls := findClass_of_methodNamed B.named
  have k_1 := hts (.fieldLink RX9 170 "FlowJudgeModel" "maxL" "I") (by decide +kernel)
  have k_2 := hts (.fieldLink RX9 128 "FlowJudgeModel" "frames" "[I") (by decide +kernel)
  have k_3 := hts (.fieldLink RX9 82 "FlowJudgeModel" "l" "[I") (by decide +kernel)
  have k_4 := hts (.fieldLink RX9 215 "FlowJudgeModel" "h" "I") (by decide +kernel)
  have k_5 := hts (.fieldLink RX9 173 "FlowJudgeModel" "maxS" "I") (by decide +kernel)
  have k_6 := hts (.fieldLink RX9 231 "FlowJudgeModel" "made" "Z") (by decide +kernel)
  have k_7 := hts (.fieldLink RX9 85 "FlowJudgeModel" "st" "[I") (by decide +kernel)
  subst hsz
  have hD := hD0.self (sz := s.heap.size)
  generalize hAe : va_A [(o9, .inr (9, x_O9 v9_0 v9_1 v9_2 v9_3 a9_4 a9_5 a9_6 a9_7 a9_8 a9_9 a9_10 a9_11 a9_12 v9_13 v9_14 v9_15 v9_16 v9_17 v9_18 a9_19 v9_20 v9_21 v9_22 a9_23 a9_24 a9_25 a9_26 a9_27 a9_28 a9_29 a9_30 a9_31 a9_32 a9_33 a9_34 v9_35 v9_36 a9_37 a9_38 a9_39 a9_40 a9_41 v9_42 a9_43 a9_44 a9_45 a9_46 a9_47 v9_48 v9_49 v9_50 v9_51 a9_52 a9_53 v9_54 v9_55 a9_56 a9_57 v9_58 a9_59 a9_60 a9_61)), (a9_33, .inl (cyI, 202, .inl g9_33)), (a9_34, .inl (cyI, 202, .inl g9_34)), (a9_57, .inl (cyI, 60600, .inl g9_57))] s.heap.size = A at hD ⊢
  have hA : ∀ q : Nat, s.heap.size ≤ q → A q := fun q h => by rw [← hAe]; exact Or.inr h
  have hP : va_P (dC, dI) vwCl [(o9, .inr (9, x_O9 v9_0 v9_1 v9_2 v9_3 a9_4 a9_5 a9_6 a9_7 a9_8 a9_9 a9_10 a9_11 a9_12 v9_13 v9_14 v9_15 v9_16 v9_17 v9_18 a9_19 v9_20 v9_21 v9_22 a9_23 a9_24 a9_25 a9_26 a9_27 a9_28 a9_29 a9_30 a9_31 a9_32 a9_33 a9_34 v9_35 v9_36 a9_37 a9_38 a9_39 a9_40 a9_41 v9_42 a9_43 a9_44 a9_45 a9_46 a9_47 v9_48 v9_49 v9_50 v9_51 a9_52 a9_53 v9_54 v9_55 a9_56 a9_57 v9_58 a9_59 a9_60 a9_61)), (a9_33, .inl (cyI, 202, .inl g9_33)), (a9_34, .inl (cyI, 202, .inl g9_34)), (a9_57, .inl (cyI, 60600, .inl g9_57))] s.heap := hP
  have hl := lv_entry ([.ref o9, .int p1]) (n := 3) (Nat.le_of_ble_eq_true rfl)
  rw [lg_entry_eq]
  generalize (lg_sl ([.ref o9, .int p1]) ++ List.replicate (3 - (lg_sl ([.ref o9, .int p1])).length) Slot.unset).toArray = ls at hl ⊢
  have hl : lv_has ls 3 [(0, .ref o9), (1, .int p1)] := hl
  obtain ⟨H, hH⟩ : ∃ z, z = s.heap := ⟨_, rfl⟩
  refine x_here hH ?_
  have hP : va_P (dC, dI) vwCl [(o9, .inr (9, x_O9 v9_0 v9_1 v9_2 v9_3 a9_4 a9_5 a9_6 a9_7 a9_8 a9_9 a9_10 a9_11 a9_12 v9_13 v9_14 v9_15 v9_16 v9_17 v9_18 a9_19 v9_20 v9_21 v9_22 a9_23 a9_24 a9_25 a9_26 a9_27 a9_28 a9_29 a9_30 a9_31 a9_32 a9_33 a9_34 v9_35 v9_36 a9_37 a9_38 a9_39 a9_40 a9_41 v9_42 a9_43 a9_44 a9_45 a9_46 a9_47 v9_48 v9_49 v9_50 v9_51 a9_52 a9_53 v9_54 v9_55 a9_56 a9_57 v9_58 a9_59 a9_60 a9_61)), (a9_33, .inl (cyI, 202, .inl g9_33)), (a9_34, .inl (cyI, 202, .inl g9_34)), (a9_57, .inl (cyI, 60600, .inl g9_57))] H := by rw [hH]; exact hP
  have hS : va_S A s.heap H [] := by rw [hH]; exact va_S.rf
  clear hH
  obtain ⟨locs, hlo⟩ : ∃ z : List Loc, z = [] := ⟨_, rfl⟩
  refine x_herl hlo ?_
  have hS : va_S A s.heap H locs := by rw [hlo]; exact hS
  clear hlo
  unfold f_X9_keep at hf
  refine x_wn (fun WW hWW => ?_)
  have J := fun (l1 : Int32) => f_X9_keep_L.partial_correctness v9_16 v9_17 v9_35 v9_36 g9_33 g9_34 l1 (fun (z : Nat × Int32 × (Nat → Int32)) (r : (Nat → Int32)) => r = R → ∀ (q : Nat) (l2 : Int32) (g9_57 : Nat → Int32), z = (q, l2, g9_57) → ((q = 0 → ∀ (H : Heap) (locs : List Loc) (ls : Array Slot), va_P (dC, dI) vwCl [(o9, .inr (9, x_O9 v9_0 v9_1 v9_2 v9_3 a9_4 a9_5 a9_6 a9_7 a9_8 a9_9 a9_10 a9_11 a9_12 v9_13 v9_14 v9_15 v9_16 v9_17 v9_18 a9_19 v9_20 v9_21 v9_22 a9_23 a9_24 a9_25 a9_26 a9_27 a9_28 a9_29 a9_30 a9_31 a9_32 a9_33 a9_34 v9_35 v9_36 a9_37 a9_38 a9_39 a9_40 a9_41 v9_42 a9_43 a9_44 a9_45 a9_46 a9_47 v9_48 v9_49 v9_50 v9_51 a9_52 a9_53 v9_54 v9_55 a9_56 a9_57 v9_58 a9_59 a9_60 a9_61)), (a9_33, .inl (cyI, 202, .inl g9_33)), (a9_34, .inl (cyI, 202, .inl g9_34)), (a9_57, .inl (cyI, 60600, .inl g9_57))] H → va_D A [(o9, .inr (9, x_O9 v9_0 v9_1 v9_2 v9_3 a9_4 a9_5 a9_6 a9_7 a9_8 a9_9 a9_10 a9_11 a9_12 v9_13 v9_14 v9_15 v9_16 v9_17 v9_18 a9_19 v9_20 v9_21 v9_22 a9_23 a9_24 a9_25 a9_26 a9_27 a9_28 a9_29 a9_30 a9_31 a9_32 a9_33 a9_34 v9_35 v9_36 a9_37 a9_38 a9_39 a9_40 a9_41 v9_42 a9_43 a9_44 a9_45 a9_46 a9_47 v9_48 v9_49 v9_50 v9_51 a9_52 a9_53 v9_54 v9_55 a9_56 a9_57 v9_58 a9_59 a9_60 a9_61)), (a9_33, .inl (cyI, 202, .inl g9_33)), (a9_34, .inl (cyI, 202, .inl g9_34)), (a9_57, .inl (cyI, 60600, .inl g9_57))] → va_S A s.heap H locs → lv_has ls 3 [(0, .ref o9), (1, .int l1), (2, .int l2)] → WW H locs 0 0 (F0 m 2 ls [])) ∧ (q = 1 → ∀ (H : Heap) (locs : List Loc) (ls : Array Slot), va_P (dC, dI) vwCl [(o9, .inr (9, x_O9 v9_0 v9_1 v9_2 v9_3 a9_4 a9_5 a9_6 a9_7 a9_8 a9_9 a9_10 a9_11 a9_12 v9_13 v9_14 v9_15 v9_16 v9_17 v9_18 a9_19 v9_20 v9_21 v9_22 a9_23 a9_24 a9_25 a9_26 a9_27 a9_28 a9_29 a9_30 a9_31 a9_32 a9_33 a9_34 v9_35 v9_36 a9_37 a9_38 a9_39 a9_40 a9_41 v9_42 a9_43 a9_44 a9_45 a9_46 a9_47 v9_48 v9_49 v9_50 v9_51 a9_52 a9_53 v9_54 v9_55 a9_56 a9_57 v9_58 a9_59 a9_60 a9_61)), (a9_33, .inl (cyI, 202, .inl g9_33)), (a9_34, .inl (cyI, 202, .inl g9_34)), (a9_57, .inl (cyI, 60600, .inl g9_57))] H → va_D A [(o9, .inr (9, x_O9 v9_0 v9_1 v9_2 v9_3 a9_4 a9_5 a9_6 a9_7 a9_8 a9_9 a9_10 a9_11 a9_12 v9_13 v9_14 v9_15 v9_16 v9_17 v9_18 a9_19 v9_20 v9_21 v9_22 a9_23 a9_24 a9_25 a9_26 a9_27 a9_28 a9_29 a9_30 a9_31 a9_32 a9_33 a9_34 v9_35 v9_36 a9_37 a9_38 a9_39 a9_40 a9_41 v9_42 a9_43 a9_44 a9_45 a9_46 a9_47 v9_48 v9_49 v9_50 v9_51 a9_52 a9_53 v9_54 v9_55 a9_56 a9_57 v9_58 a9_59 a9_60 a9_61)), (a9_33, .inl (cyI, 202, .inl g9_33)), (a9_34, .inl (cyI, 202, .inl g9_34)), (a9_57, .inl (cyI, 60600, .inl g9_57))] → va_S A s.heap H locs → lv_has ls 3 [(0, .ref o9), (1, .int l1), (2, .int l2)] → WW H locs 0 0 (F0 m 32 ls [])))) (by
    intro F ih z r hf hr q l2 g9_57 hz
    subst hz
    obtain rfl := hr
    refine ⟨?_, ?_⟩
    · intro hq H locs ls hP hD hS hl
      subst hq
      refine (hWW _ _ _ _ _).mp ?_
      replace hf := x_ip rfl hf
      refine lv_iload_n hx hb dX9_keep_2 rfl (lv_at hl 2 rfl) ?_
      refine lv_aload_n hx hb dX9_keep_3 rfl (lv_at hl 0 rfl) ?_
      refine va_get (D := (dC, dI)) (ci := 9) (v := .int v9_16) (C := RX9) (T := TX9) (N := 62) hx hb hts i_X9_keep_X9 hown hK hP 0 rfl rfl 16 (by decide) k_1 (fun _ h9 => h9) rfl dX9_keep_4 ?_
      refine lv_icmp_ge (tgt := 30) hx hb dX9_keep_7 (by decide) (fun c_1 => ?_) (fun c_1 => ?_)
      · replace hf := x_ip c_1 hf
        refine lv_iconst (v := 0) hx hb dX9_keep_30 (by decide) ?_
        refine lv_istore_n (lv' := [(2, .int 0), (0, .ref o9), (1, .int l1)]) hx hb dX9_keep_31 rfl hl (by decide) rfl (fun ls hl => ?_)
        exact (hWW _ _ _ _ _).mpr ((ih (1, 0, g9_57) _ hf rfl _ _ _ rfl).2 rfl H locs ls hP hD hS (lv_sub hl [1, 2, 0] rfl))
      · replace hf := x_in c_1 hf
        refine lv_aload_n hx hb dX9_keep_10 rfl (lv_at hl 0 rfl) ?_
        refine va_get (D := (dC, dI)) (ci := 9) (v := .ref a9_57) (C := RX9) (T := TX9) (N := 62) hx hb hts i_X9_keep_X9 hown hK hP 0 rfl rfl 57 (by decide) k_2 (fun _ h9 => h9) rfl dX9_keep_11 ?_
        refine lv_iload_n hx hb dX9_keep_14 rfl (lv_at hl 1 rfl) ?_
        refine lv_iload_n hx hb dX9_keep_15 rfl (lv_at hl 2 rfl) ?_
        refine lv_iadd hx hb dX9_keep_16 ?_
        refine lv_aload_n hx hb dX9_keep_17 rfl (lv_at hl 0 rfl) ?_
        refine va_get (D := (dC, dI)) (ci := 9) (v := .ref a9_33) (C := RX9) (T := TX9) (N := 62) hx hb hts i_X9_keep_X9 hown hK hP 0 rfl rfl 33 (by decide) k_3 (fun _ h9 => h9) rfl dX9_keep_18 ?_
        refine lv_iload_n hx hb dX9_keep_21 rfl (lv_at hl 2 rfl) ?_
        obtain ⟨g_2, hf⟩ := x_gu hf
        refine va_iald hx hb hK hP 1 0 rfl rfl (x_gdin g_2) dX9_keep_22 ?_
        obtain ⟨g_3, hf⟩ := x_gu hf
        refine va_iast hx hb hK hP hD hS 3 0 rfl rfl (x_gdin g_3) dX9_keep_23 (fun H locs hP hD hS => ?_)
        have hP : va_P (dC, dI) vwCl [(o9, .inr (9, x_O9 v9_0 v9_1 v9_2 v9_3 a9_4 a9_5 a9_6 a9_7 a9_8 a9_9 a9_10 a9_11 a9_12 v9_13 v9_14 v9_15 v9_16 v9_17 v9_18 a9_19 v9_20 v9_21 v9_22 a9_23 a9_24 a9_25 a9_26 a9_27 a9_28 a9_29 a9_30 a9_31 a9_32 a9_33 a9_34 v9_35 v9_36 a9_37 a9_38 a9_39 a9_40 a9_41 v9_42 a9_43 a9_44 a9_45 a9_46 a9_47 v9_48 v9_49 v9_50 v9_51 a9_52 a9_53 v9_54 v9_55 a9_56 a9_57 v9_58 a9_59 a9_60 a9_61)), (a9_33, .inl (cyI, 202, .inl g9_33)), (a9_34, .inl (cyI, 202, .inl g9_34)), (a9_57, .inl (cyI, 60600, .inl (upd g9_57 (Int32.toNatClampNeg (l1 + l2)) (g9_33 (Int32.toNatClampNeg l2)))))] H := hP
        have hD : va_D A [(o9, .inr (9, x_O9 v9_0 v9_1 v9_2 v9_3 a9_4 a9_5 a9_6 a9_7 a9_8 a9_9 a9_10 a9_11 a9_12 v9_13 v9_14 v9_15 v9_16 v9_17 v9_18 a9_19 v9_20 v9_21 v9_22 a9_23 a9_24 a9_25 a9_26 a9_27 a9_28 a9_29 a9_30 a9_31 a9_32 a9_33 a9_34 v9_35 v9_36 a9_37 a9_38 a9_39 a9_40 a9_41 v9_42 a9_43 a9_44 a9_45 a9_46 a9_47 v9_48 v9_49 v9_50 v9_51 a9_52 a9_53 v9_54 v9_55 a9_56 a9_57 v9_58 a9_59 a9_60 a9_61)), (a9_33, .inl (cyI, 202, .inl g9_33)), (a9_34, .inl (cyI, 202, .inl g9_34)), (a9_57, .inl (cyI, 60600, .inl (upd g9_57 (Int32.toNatClampNeg (l1 + l2)) (g9_33 (Int32.toNatClampNeg l2)))))] := hD
        refine lv_iinc (v := (l2 + 1)) (lv' := [(2, .int (l2 + 1)), (0, .ref o9), (1, .int l1)]) hx hb dX9_keep_24 hl (k := 2) rfl rfl (by decide) rfl (fun ls hl => ?_)
        refine lv_goto (tgt := 2) hx hb dX9_keep_27 (by decide) ?_
        exact (hWW _ _ _ _ _).mpr ((ih (0, l2 + 1, upd g9_57 (Int32.toNatClampNeg (l1 + l2)) (g9_33 (Int32.toNatClampNeg l2))) _ hf rfl _ _ _ rfl).1 rfl H locs ls hP hD hS (lv_sub hl [1, 2, 0] rfl))
    · intro hq H locs ls hP hD hS hl
      subst hq
      refine (hWW _ _ _ _ _).mp ?_
      replace hf := x_ip rfl (x_in (by decide) hf)
      refine lv_iload_n hx hb dX9_keep_32 rfl (lv_at hl 2 rfl) ?_
      refine lv_aload_n hx hb dX9_keep_33 rfl (lv_at hl 0 rfl) ?_
      refine va_get (D := (dC, dI)) (ci := 9) (v := .int v9_35) (C := RX9) (T := TX9) (N := 62) hx hb hts i_X9_keep_X9 hown hK hP 0 rfl rfl 35 (by decide) k_4 (fun _ h9 => h9) rfl dX9_keep_34 ?_
      refine lv_icmp_ge (tgt := 65) hx hb dX9_keep_37 (by decide) (fun c_4 => ?_) (fun c_4 => ?_)
      · replace hf := x_ip c_4 hf
        refine lv_aload_n hx hb dX9_keep_65 rfl (lv_at hl 0 rfl) ?_
        refine va_get (D := (dC, dI)) (ci := 9) (v := .ref a9_57) (C := RX9) (T := TX9) (N := 62) hx hb hts i_X9_keep_X9 hown hK hP 0 rfl rfl 57 (by decide) k_2 (fun _ h9 => h9) rfl dX9_keep_66 ?_
        refine lv_iload_n hx hb dX9_keep_69 rfl (lv_at hl 1 rfl) ?_
        refine lv_aload_n hx hb dX9_keep_70 rfl (lv_at hl 0 rfl) ?_
        refine va_get (D := (dC, dI)) (ci := 9) (v := .int v9_16) (C := RX9) (T := TX9) (N := 62) hx hb hts i_X9_keep_X9 hown hK hP 0 rfl rfl 16 (by decide) k_1 (fun _ h9 => h9) rfl dX9_keep_71 ?_
        refine lv_iadd hx hb dX9_keep_74 ?_
        refine lv_aload_n hx hb dX9_keep_75 rfl (lv_at hl 0 rfl) ?_
        refine va_get (D := (dC, dI)) (ci := 9) (v := .int v9_17) (C := RX9) (T := TX9) (N := 62) hx hb hts i_X9_keep_X9 hown hK hP 0 rfl rfl 17 (by decide) k_5 (fun _ h9 => h9) rfl dX9_keep_76 ?_
        refine lv_iadd hx hb dX9_keep_79 ?_
        refine lv_aload_n hx hb dX9_keep_80 rfl (lv_at hl 0 rfl) ?_
        refine va_get (D := (dC, dI)) (ci := 9) (v := .int v9_35) (C := RX9) (T := TX9) (N := 62) hx hb hts i_X9_keep_X9 hown hK hP 0 rfl rfl 35 (by decide) k_4 (fun _ h9 => h9) rfl dX9_keep_81 ?_
        obtain ⟨g_5, hf⟩ := x_gu hf
        refine va_iast hx hb hK hP hD hS 3 0 rfl rfl (x_gdin g_5) dX9_keep_84 (fun H locs hP hD hS => ?_)
        have hP : va_P (dC, dI) vwCl [(o9, .inr (9, x_O9 v9_0 v9_1 v9_2 v9_3 a9_4 a9_5 a9_6 a9_7 a9_8 a9_9 a9_10 a9_11 a9_12 v9_13 v9_14 v9_15 v9_16 v9_17 v9_18 a9_19 v9_20 v9_21 v9_22 a9_23 a9_24 a9_25 a9_26 a9_27 a9_28 a9_29 a9_30 a9_31 a9_32 a9_33 a9_34 v9_35 v9_36 a9_37 a9_38 a9_39 a9_40 a9_41 v9_42 a9_43 a9_44 a9_45 a9_46 a9_47 v9_48 v9_49 v9_50 v9_51 a9_52 a9_53 v9_54 v9_55 a9_56 a9_57 v9_58 a9_59 a9_60 a9_61)), (a9_33, .inl (cyI, 202, .inl g9_33)), (a9_34, .inl (cyI, 202, .inl g9_34)), (a9_57, .inl (cyI, 60600, .inl (upd g9_57 (Int32.toNatClampNeg ((l1 + v9_16) + v9_17)) v9_35)))] H := hP
        have hD : va_D A [(o9, .inr (9, x_O9 v9_0 v9_1 v9_2 v9_3 a9_4 a9_5 a9_6 a9_7 a9_8 a9_9 a9_10 a9_11 a9_12 v9_13 v9_14 v9_15 v9_16 v9_17 v9_18 a9_19 v9_20 v9_21 v9_22 a9_23 a9_24 a9_25 a9_26 a9_27 a9_28 a9_29 a9_30 a9_31 a9_32 a9_33 a9_34 v9_35 v9_36 a9_37 a9_38 a9_39 a9_40 a9_41 v9_42 a9_43 a9_44 a9_45 a9_46 a9_47 v9_48 v9_49 v9_50 v9_51 a9_52 a9_53 v9_54 v9_55 a9_56 a9_57 v9_58 a9_59 a9_60 a9_61)), (a9_33, .inl (cyI, 202, .inl g9_33)), (a9_34, .inl (cyI, 202, .inl g9_34)), (a9_57, .inl (cyI, 60600, .inl (upd g9_57 (Int32.toNatClampNeg ((l1 + v9_16) + v9_17)) v9_35)))] := hD
        refine lv_aload_n hx hb dX9_keep_85 rfl (lv_at hl 0 rfl) ?_
        refine va_get (D := (dC, dI)) (ci := 9) (v := .ref a9_57) (C := RX9) (T := TX9) (N := 62) hx hb hts i_X9_keep_X9 hown hK hP 0 rfl rfl 57 (by decide) k_2 (fun _ h9 => h9) rfl dX9_keep_86 ?_
        refine lv_iload_n hx hb dX9_keep_89 rfl (lv_at hl 1 rfl) ?_
        refine lv_aload_n hx hb dX9_keep_90 rfl (lv_at hl 0 rfl) ?_
        refine va_get (D := (dC, dI)) (ci := 9) (v := .int v9_16) (C := RX9) (T := TX9) (N := 62) hx hb hts i_X9_keep_X9 hown hK hP 0 rfl rfl 16 (by decide) k_1 (fun _ h9 => h9) rfl dX9_keep_91 ?_
        refine lv_iadd hx hb dX9_keep_94 ?_
        refine lv_aload_n hx hb dX9_keep_95 rfl (lv_at hl 0 rfl) ?_
        refine va_get (D := (dC, dI)) (ci := 9) (v := .int v9_17) (C := RX9) (T := TX9) (N := 62) hx hb hts i_X9_keep_X9 hown hK hP 0 rfl rfl 17 (by decide) k_5 (fun _ h9 => h9) rfl dX9_keep_96 ?_
        refine lv_iadd hx hb dX9_keep_99 ?_
        refine lv_iconst (v := 1) hx hb dX9_keep_100 (by decide) ?_
        refine lv_iadd hx hb dX9_keep_101 ?_
        refine lv_aload_n hx hb dX9_keep_102 rfl (lv_at hl 0 rfl) ?_
        refine va_get (D := (dC, dI)) (ci := 9) (v := .int v9_36) (C := RX9) (T := TX9) (N := 62) hx hb hts i_X9_keep_X9 hown hK hP 0 rfl rfl 36 (by decide) k_6 (fun _ h9 => h9) rfl dX9_keep_103 ?_
        refine lv_if_eq (tgt := 113) hx hb dX9_keep_106 (by decide) (fun c_6 => ?_) (fun c_6 => ?_)
        · replace hf := x_ip c_6 hf
          refine lv_iconst (v := 0) hx hb dX9_keep_113 (by decide) ?_
          obtain ⟨g_7, hf⟩ := x_gu hf
          refine va_iast hx hb hK hP hD hS 3 0 rfl rfl (x_gdin g_7) dX9_keep_114 (fun H locs hP hD hS => ?_)
          have hP : va_P (dC, dI) vwCl [(o9, .inr (9, x_O9 v9_0 v9_1 v9_2 v9_3 a9_4 a9_5 a9_6 a9_7 a9_8 a9_9 a9_10 a9_11 a9_12 v9_13 v9_14 v9_15 v9_16 v9_17 v9_18 a9_19 v9_20 v9_21 v9_22 a9_23 a9_24 a9_25 a9_26 a9_27 a9_28 a9_29 a9_30 a9_31 a9_32 a9_33 a9_34 v9_35 v9_36 a9_37 a9_38 a9_39 a9_40 a9_41 v9_42 a9_43 a9_44 a9_45 a9_46 a9_47 v9_48 v9_49 v9_50 v9_51 a9_52 a9_53 v9_54 v9_55 a9_56 a9_57 v9_58 a9_59 a9_60 a9_61)), (a9_33, .inl (cyI, 202, .inl g9_33)), (a9_34, .inl (cyI, 202, .inl g9_34)), (a9_57, .inl (cyI, 60600, .inl (upd (upd g9_57 (Int32.toNatClampNeg ((l1 + v9_16) + v9_17)) v9_35) (Int32.toNatClampNeg (((l1 + v9_16) + v9_17) + (1 : Int32))) 0)))] H := hP
          have hD : va_D A [(o9, .inr (9, x_O9 v9_0 v9_1 v9_2 v9_3 a9_4 a9_5 a9_6 a9_7 a9_8 a9_9 a9_10 a9_11 a9_12 v9_13 v9_14 v9_15 v9_16 v9_17 v9_18 a9_19 v9_20 v9_21 v9_22 a9_23 a9_24 a9_25 a9_26 a9_27 a9_28 a9_29 a9_30 a9_31 a9_32 a9_33 a9_34 v9_35 v9_36 a9_37 a9_38 a9_39 a9_40 a9_41 v9_42 a9_43 a9_44 a9_45 a9_46 a9_47 v9_48 v9_49 v9_50 v9_51 a9_52 a9_53 v9_54 v9_55 a9_56 a9_57 v9_58 a9_59 a9_60 a9_61)), (a9_33, .inl (cyI, 202, .inl g9_33)), (a9_34, .inl (cyI, 202, .inl g9_34)), (a9_57, .inl (cyI, 60600, .inl (upd (upd g9_57 (Int32.toNatClampNeg ((l1 + v9_16) + v9_17)) v9_35) (Int32.toNatClampNeg (((l1 + v9_16) + v9_17) + (1 : Int32))) 0)))] := hD
          obtain rfl := Option.some.inj hf
          have hP9 := hP.sub (ws' := [(o9, .inr (9, x_O9 v9_0 v9_1 v9_2 v9_3 a9_4 a9_5 a9_6 a9_7 a9_8 a9_9 a9_10 a9_11 a9_12 v9_13 v9_14 v9_15 v9_16 v9_17 v9_18 a9_19 v9_20 v9_21 v9_22 a9_23 a9_24 a9_25 a9_26 a9_27 a9_28 a9_29 a9_30 a9_31 a9_32 a9_33 a9_34 v9_35 v9_36 a9_37 a9_38 a9_39 a9_40 a9_41 v9_42 a9_43 a9_44 a9_45 a9_46 a9_47 v9_48 v9_49 v9_50 v9_51 a9_52 a9_53 v9_54 v9_55 a9_56 a9_57 v9_58 a9_59 a9_60 a9_61)), (a9_33, .inl (cyI, 202, .inl g9_33)), (a9_34, .inl (cyI, 202, .inl g9_34)), (a9_57, .inl (cyI, 60600, .inl (upd (upd g9_57 (Int32.toNatClampNeg ((l1 + v9_16) + v9_17)) v9_35) (Int32.toNatClampNeg (((l1 + v9_16) + v9_17) + (1 : Int32))) 0)))]) [0, 1, 2, 3] rfl
          have hD9 := hD.sub (ws' := [(o9, .inr (9, x_O9 v9_0 v9_1 v9_2 v9_3 a9_4 a9_5 a9_6 a9_7 a9_8 a9_9 a9_10 a9_11 a9_12 v9_13 v9_14 v9_15 v9_16 v9_17 v9_18 a9_19 v9_20 v9_21 v9_22 a9_23 a9_24 a9_25 a9_26 a9_27 a9_28 a9_29 a9_30 a9_31 a9_32 a9_33 a9_34 v9_35 v9_36 a9_37 a9_38 a9_39 a9_40 a9_41 v9_42 a9_43 a9_44 a9_45 a9_46 a9_47 v9_48 v9_49 v9_50 v9_51 a9_52 a9_53 v9_54 v9_55 a9_56 a9_57 v9_58 a9_59 a9_60 a9_61)), (a9_33, .inl (cyI, 202, .inl g9_33)), (a9_34, .inl (cyI, 202, .inl g9_34)), (a9_57, .inl (cyI, 60600, .inl (upd (upd g9_57 (Int32.toNatClampNeg ((l1 + v9_16) + v9_17)) v9_35) (Int32.toNatClampNeg (((l1 + v9_16) + v9_17) + (1 : Int32))) 0)))]) [0, 1, 2, 3] (by decide) rfl
          exact W.vret hx hb hr (fun t ht hW => ⟨⟨(), rfl, trivial, by rw [ht]; exact hP9, va_K.moved hW.alike hK, hD9⟩, hS.F ht⟩) hS.2.2 dX9_keep_115
        · replace hf := x_in c_6 hf
          refine lv_iconst (v := 1) hx hb dX9_keep_109 (by decide) ?_
          refine lv_goto (tgt := 114) hx hb dX9_keep_110 (by decide) ?_
          obtain ⟨g_8, hf⟩ := x_gu hf
          refine va_iast hx hb hK hP hD hS 3 0 rfl rfl (x_gdin g_8) dX9_keep_114 (fun H locs hP hD hS => ?_)
          have hP : va_P (dC, dI) vwCl [(o9, .inr (9, x_O9 v9_0 v9_1 v9_2 v9_3 a9_4 a9_5 a9_6 a9_7 a9_8 a9_9 a9_10 a9_11 a9_12 v9_13 v9_14 v9_15 v9_16 v9_17 v9_18 a9_19 v9_20 v9_21 v9_22 a9_23 a9_24 a9_25 a9_26 a9_27 a9_28 a9_29 a9_30 a9_31 a9_32 a9_33 a9_34 v9_35 v9_36 a9_37 a9_38 a9_39 a9_40 a9_41 v9_42 a9_43 a9_44 a9_45 a9_46 a9_47 v9_48 v9_49 v9_50 v9_51 a9_52 a9_53 v9_54 v9_55 a9_56 a9_57 v9_58 a9_59 a9_60 a9_61)), (a9_33, .inl (cyI, 202, .inl g9_33)), (a9_34, .inl (cyI, 202, .inl g9_34)), (a9_57, .inl (cyI, 60600, .inl (upd (upd g9_57 (Int32.toNatClampNeg ((l1 + v9_16) + v9_17)) v9_35) (Int32.toNatClampNeg (((l1 + v9_16) + v9_17) + (1 : Int32))) 1)))] H := hP
          have hD : va_D A [(o9, .inr (9, x_O9 v9_0 v9_1 v9_2 v9_3 a9_4 a9_5 a9_6 a9_7 a9_8 a9_9 a9_10 a9_11 a9_12 v9_13 v9_14 v9_15 v9_16 v9_17 v9_18 a9_19 v9_20 v9_21 v9_22 a9_23 a9_24 a9_25 a9_26 a9_27 a9_28 a9_29 a9_30 a9_31 a9_32 a9_33 a9_34 v9_35 v9_36 a9_37 a9_38 a9_39 a9_40 a9_41 v9_42 a9_43 a9_44 a9_45 a9_46 a9_47 v9_48 v9_49 v9_50 v9_51 a9_52 a9_53 v9_54 v9_55 a9_56 a9_57 v9_58 a9_59 a9_60 a9_61)), (a9_33, .inl (cyI, 202, .inl g9_33)), (a9_34, .inl (cyI, 202, .inl g9_34)), (a9_57, .inl (cyI, 60600, .inl (upd (upd g9_57 (Int32.toNatClampNeg ((l1 + v9_16) + v9_17)) v9_35) (Int32.toNatClampNeg (((l1 + v9_16) + v9_17) + (1 : Int32))) 1)))] := hD
          obtain rfl := Option.some.inj hf
          have hP9 := hP.sub (ws' := [(o9, .inr (9, x_O9 v9_0 v9_1 v9_2 v9_3 a9_4 a9_5 a9_6 a9_7 a9_8 a9_9 a9_10 a9_11 a9_12 v9_13 v9_14 v9_15 v9_16 v9_17 v9_18 a9_19 v9_20 v9_21 v9_22 a9_23 a9_24 a9_25 a9_26 a9_27 a9_28 a9_29 a9_30 a9_31 a9_32 a9_33 a9_34 v9_35 v9_36 a9_37 a9_38 a9_39 a9_40 a9_41 v9_42 a9_43 a9_44 a9_45 a9_46 a9_47 v9_48 v9_49 v9_50 v9_51 a9_52 a9_53 v9_54 v9_55 a9_56 a9_57 v9_58 a9_59 a9_60 a9_61)), (a9_33, .inl (cyI, 202, .inl g9_33)), (a9_34, .inl (cyI, 202, .inl g9_34)), (a9_57, .inl (cyI, 60600, .inl (upd (upd g9_57 (Int32.toNatClampNeg ((l1 + v9_16) + v9_17)) v9_35) (Int32.toNatClampNeg (((l1 + v9_16) + v9_17) + (1 : Int32))) 1)))]) [0, 1, 2, 3] rfl
          have hD9 := hD.sub (ws' := [(o9, .inr (9, x_O9 v9_0 v9_1 v9_2 v9_3 a9_4 a9_5 a9_6 a9_7 a9_8 a9_9 a9_10 a9_11 a9_12 v9_13 v9_14 v9_15 v9_16 v9_17 v9_18 a9_19 v9_20 v9_21 v9_22 a9_23 a9_24 a9_25 a9_26 a9_27 a9_28 a9_29 a9_30 a9_31 a9_32 a9_33 a9_34 v9_35 v9_36 a9_37 a9_38 a9_39 a9_40 a9_41 v9_42 a9_43 a9_44 a9_45 a9_46 a9_47 v9_48 v9_49 v9_50 v9_51 a9_52 a9_53 v9_54 v9_55 a9_56 a9_57 v9_58 a9_59 a9_60 a9_61)), (a9_33, .inl (cyI, 202, .inl g9_33)), (a9_34, .inl (cyI, 202, .inl g9_34)), (a9_57, .inl (cyI, 60600, .inl (upd (upd g9_57 (Int32.toNatClampNeg ((l1 + v9_16) + v9_17)) v9_35) (Int32.toNatClampNeg (((l1 + v9_16) + v9_17) + (1 : Int32))) 1)))]) [0, 1, 2, 3] (by decide) rfl
          exact W.vret hx hb hr (fun t ht hW => ⟨⟨(), rfl, trivial, by rw [ht]; exact hP9, va_K.moved hW.alike hK, hD9⟩, hS.F ht⟩) hS.2.2 dX9_keep_115
      · replace hf := x_in c_4 hf
        refine lv_aload_n hx hb dX9_keep_40 rfl (lv_at hl 0 rfl) ?_
        refine va_get (D := (dC, dI)) (ci := 9) (v := .ref a9_57) (C := RX9) (T := TX9) (N := 62) hx hb hts i_X9_keep_X9 hown hK hP 0 rfl rfl 57 (by decide) k_2 (fun _ h9 => h9) rfl dX9_keep_41 ?_
        refine lv_iload_n hx hb dX9_keep_44 rfl (lv_at hl 1 rfl) ?_
        refine lv_aload_n hx hb dX9_keep_45 rfl (lv_at hl 0 rfl) ?_
        refine va_get (D := (dC, dI)) (ci := 9) (v := .int v9_16) (C := RX9) (T := TX9) (N := 62) hx hb hts i_X9_keep_X9 hown hK hP 0 rfl rfl 16 (by decide) k_1 (fun _ h9 => h9) rfl dX9_keep_46 ?_
        refine lv_iadd hx hb dX9_keep_49 ?_
        refine lv_iload_n hx hb dX9_keep_50 rfl (lv_at hl 2 rfl) ?_
        refine lv_iadd hx hb dX9_keep_51 ?_
        refine lv_aload_n hx hb dX9_keep_52 rfl (lv_at hl 0 rfl) ?_
        refine va_get (D := (dC, dI)) (ci := 9) (v := .ref a9_34) (C := RX9) (T := TX9) (N := 62) hx hb hts i_X9_keep_X9 hown hK hP 0 rfl rfl 34 (by decide) k_7 (fun _ h9 => h9) rfl dX9_keep_53 ?_
        refine lv_iload_n hx hb dX9_keep_56 rfl (lv_at hl 2 rfl) ?_
        obtain ⟨g_9, hf⟩ := x_gu hf
        refine va_iald hx hb hK hP 2 0 rfl rfl (x_gdin g_9) dX9_keep_57 ?_
        obtain ⟨g_10, hf⟩ := x_gu hf
        refine va_iast hx hb hK hP hD hS 3 0 rfl rfl (x_gdin g_10) dX9_keep_58 (fun H locs hP hD hS => ?_)
        have hP : va_P (dC, dI) vwCl [(o9, .inr (9, x_O9 v9_0 v9_1 v9_2 v9_3 a9_4 a9_5 a9_6 a9_7 a9_8 a9_9 a9_10 a9_11 a9_12 v9_13 v9_14 v9_15 v9_16 v9_17 v9_18 a9_19 v9_20 v9_21 v9_22 a9_23 a9_24 a9_25 a9_26 a9_27 a9_28 a9_29 a9_30 a9_31 a9_32 a9_33 a9_34 v9_35 v9_36 a9_37 a9_38 a9_39 a9_40 a9_41 v9_42 a9_43 a9_44 a9_45 a9_46 a9_47 v9_48 v9_49 v9_50 v9_51 a9_52 a9_53 v9_54 v9_55 a9_56 a9_57 v9_58 a9_59 a9_60 a9_61)), (a9_33, .inl (cyI, 202, .inl g9_33)), (a9_34, .inl (cyI, 202, .inl g9_34)), (a9_57, .inl (cyI, 60600, .inl (upd g9_57 (Int32.toNatClampNeg ((l1 + v9_16) + l2)) (g9_34 (Int32.toNatClampNeg l2)))))] H := hP
        have hD : va_D A [(o9, .inr (9, x_O9 v9_0 v9_1 v9_2 v9_3 a9_4 a9_5 a9_6 a9_7 a9_8 a9_9 a9_10 a9_11 a9_12 v9_13 v9_14 v9_15 v9_16 v9_17 v9_18 a9_19 v9_20 v9_21 v9_22 a9_23 a9_24 a9_25 a9_26 a9_27 a9_28 a9_29 a9_30 a9_31 a9_32 a9_33 a9_34 v9_35 v9_36 a9_37 a9_38 a9_39 a9_40 a9_41 v9_42 a9_43 a9_44 a9_45 a9_46 a9_47 v9_48 v9_49 v9_50 v9_51 a9_52 a9_53 v9_54 v9_55 a9_56 a9_57 v9_58 a9_59 a9_60 a9_61)), (a9_33, .inl (cyI, 202, .inl g9_33)), (a9_34, .inl (cyI, 202, .inl g9_34)), (a9_57, .inl (cyI, 60600, .inl (upd g9_57 (Int32.toNatClampNeg ((l1 + v9_16) + l2)) (g9_34 (Int32.toNatClampNeg l2)))))] := hD
        refine lv_iinc (v := (l2 + 1)) (lv' := [(2, .int (l2 + 1)), (0, .ref o9), (1, .int l1)]) hx hb dX9_keep_59 hl (k := 2) rfl rfl (by decide) rfl (fun ls hl => ?_)
        refine lv_goto (tgt := 32) hx hb dX9_keep_62 (by decide) ?_
        exact (hWW _ _ _ _ _).mpr ((ih (1, l2 + 1, upd g9_57 (Int32.toNatClampNeg ((l1 + v9_16) + l2)) (g9_34 (Int32.toNatClampNeg l2))) _ hf rfl _ _ _ rfl).2 rfl H locs ls hP hD hS (lv_sub hl [1, 2, 0] rfl)))
  refine lv_iconst (v := 0) hx hb dX9_keep_0 (by decide) ?_
  refine lv_istore_n (lv' := [(2, .int 0), (0, .ref o9), (1, .int p1)]) hx hb dX9_keep_1 rfl hl (by decide) rfl (fun ls hl => ?_)
  exact (hWW _ _ _ _ _).mpr ((J p1 (0, 0, g9_57) _ hf rfl _ _ _ rfl).1 rfl H locs ls hP hD hS (lv_sub hl [1, 2, 0] rfl))

