def f_X9_take_L (v9_16 : Int32) (v9_17 : Int32) (g9_57 : Nat → Int32) (l1 : Int32) (v9_36 : Int32) (z : Nat × Int32 × Int32 × (Nat → Int32) × (Nat → Int32)) : Option (Int32 × Int32 × (Nat → Int32) × (Nat → Int32)) := match z with
  | (q, l2, v9_35, g9_33, g9_34) => if q = 0 then if v9_16 ≤ l2 then if x_gd ((l1 + v9_16) + v9_17) 60600 = true then (f_X9_take_L v9_16 v9_17 g9_57 l1 v9_36 (1, 0, g9_57 (Int32.toNatClampNeg ((l1 + v9_16) + v9_17)), g9_33, g9_34)) else none else if x_gd (l1 + l2) 60600 = true then if x_gd l2 202 = true then (f_X9_take_L v9_16 v9_17 g9_57 l1 v9_36 (0, l2 + 1, v9_35, upd g9_33 (Int32.toNatClampNeg l2) (g9_57 (Int32.toNatClampNeg (l1 + l2))), g9_34)) else none else none else if q = 1 then if v9_35 ≤ l2 then if x_gd (((l1 + v9_16) + v9_17) + (1 : Int32)) 60600 = true then if (g9_57 (Int32.toNatClampNeg (((l1 + v9_16) + v9_17) + (1 : Int32)))) = (1 : Int32) then some (v9_35, 1, g9_33, g9_34) else some (v9_35, 0, g9_33, g9_34) else none else if x_gd ((l1 + v9_16) + l2) 60600 = true then if x_gd l2 202 = true then (f_X9_take_L v9_16 v9_17 g9_57 l1 v9_36 (1, l2 + 1, v9_35, g9_33, upd g9_34 (Int32.toNatClampNeg l2) (g9_57 (Int32.toNatClampNeg ((l1 + v9_16) + l2))))) else none else none else none
partial_fixpoint
def f_X9_take (v9_16 : Int32) (v9_17 : Int32) (v9_35 : Int32) (v9_36 : Int32) (g9_33 : Nat → Int32) (g9_34 : Nat → Int32) (g9_57 : Nat → Int32) (p1 : Int32) : Option (Int32 × Int32 × (Nat → Int32) × (Nat → Int32)) := (f_X9_take_L v9_16 v9_17 g9_57 p1 v9_36 (0, 0, v9_35, g9_33, g9_34))
theorem i_X9_take_X9 : ∀ w ∈ wsX90, w ∈ wsX9_take := fun _ h => List.mem_cons_of_mem _ (List.mem_append_right _ h)
set_option maxHeartbeats 4000000 in
set_option maxRecDepth 100000 in
theorem c_X9_take (l : Launch) (dC : Nat → ClassId) (dI : Nat → Nat → Nat) (cyI cyZ cyJ : ClassId) (sz : Nat) (o9 : Nat) (v9_0 : Int32) (v9_1 : Int32) (v9_2 : Int32) (v9_3 : Int32) (a9_4 : Nat) (a9_5 : Nat) (a9_6 : Nat) (a9_7 : Nat) (a9_8 : Nat) (a9_9 : Nat) (a9_10 : Nat) (a9_11 : Nat) (a9_12 : Nat) (v9_13 : Int32) (v9_14 : Int32) (v9_15 : Int32) (v9_16 : Int32) (v9_17 : Int32) (v9_18 : Int32) (a9_19 : Nat) (v9_20 : Int32) (v9_21 : Int32) (v9_22 : Int32) (a9_23 : Nat) (a9_24 : Nat) (a9_25 : Nat) (a9_26 : Nat) (a9_27 : Nat) (a9_28 : Nat) (a9_29 : Nat) (a9_30 : Nat) (a9_31 : Nat) (a9_32 : Nat) (a9_33 : Nat) (a9_34 : Nat) (v9_35 : Int32) (v9_36 : Int32) (a9_37 : Nat) (a9_38 : Nat) (a9_39 : Nat) (a9_40 : Nat) (a9_41 : Nat) (v9_42 : Int32) (a9_43 : Nat) (a9_44 : Nat) (a9_45 : Nat) (a9_46 : Nat) (a9_47 : Nat) (v9_48 : Int32) (v9_49 : Int32) (v9_50 : Int32) (v9_51 : Int32) (a9_52 : Nat) (a9_53 : Nat) (v9_54 : Int32) (v9_55 : Int32) (a9_56 : Nat) (a9_57 : Nat) (v9_58 : Int32) (a9_59 : Nat) (a9_60 : Nat) (a9_61 : Nat) (g9_33 : Nat → Int32) (g9_34 : Nat → Int32) (g9_57 : Nat → Int32) (p1 : Int32) (R : Int32 × Int32 × (Nat → Int32) × (Nat → Int32)) (hf : f_X9_take v9_16 v9_17 v9_35 v9_36 g9_33 g9_34 g9_57 p1 = some R) : Met l yX9_take wsX9_take ({ frames := 0, cells := 0, slots := 0, locals := 0 }) (va_Pc [.ref o9, .int p1] (x_PreD (dC, dI) (x_T cyI cyZ cyJ) [(o9, .inr (9, x_O9 v9_0 v9_1 v9_2 v9_3 a9_4 a9_5 a9_6 a9_7 a9_8 a9_9 a9_10 a9_11 a9_12 v9_13 v9_14 v9_15 v9_16 v9_17 v9_18 a9_19 v9_20 v9_21 v9_22 a9_23 a9_24 a9_25 a9_26 a9_27 a9_28 a9_29 a9_30 a9_31 a9_32 a9_33 a9_34 v9_35 v9_36 a9_37 a9_38 a9_39 a9_40 a9_41 v9_42 a9_43 a9_44 a9_45 a9_46 a9_47 v9_48 v9_49 v9_50 v9_51 a9_52 a9_53 v9_54 v9_55 a9_56 a9_57 v9_58 a9_59 a9_60 a9_61)), (a9_33, .inl (cyI, 202, .inl g9_33)), (a9_34, .inl (cyI, 202, .inl g9_34)), (a9_57, .inl (cyI, 60600, .inl g9_57))] sz)) (va_Qv (fun _ : Unit => True) (fun (_ : Unit) (t : State) => va_P (dC, dI) vwCl [(o9, .inr (9, x_O9 v9_0 v9_1 v9_2 v9_3 a9_4 a9_5 a9_6 a9_7 a9_8 a9_9 a9_10 a9_11 a9_12 v9_13 v9_14 v9_15 v9_16 v9_17 v9_18 a9_19 v9_20 v9_21 v9_22 a9_23 a9_24 a9_25 a9_26 a9_27 a9_28 a9_29 a9_30 a9_31 a9_32 a9_33 a9_34 (R.1) (R.2.1) a9_37 a9_38 a9_39 a9_40 a9_41 v9_42 a9_43 a9_44 a9_45 a9_46 a9_47 v9_48 v9_49 v9_50 v9_51 a9_52 a9_53 v9_54 v9_55 a9_56 a9_57 v9_58 a9_59 a9_60 a9_61)), (a9_33, .inl (cyI, 202, .inl R.2.2.1)), (a9_34, .inl (cyI, 202, .inl R.2.2.2)), (a9_57, .inl (cyI, 60600, .inl g9_57))] t.heap ∧ va_K (dC, dI) vwCl (x_T cyI cyZ cyJ) t ∧ va_D (va_A [(o9, .inr (9, x_O9 v9_0 v9_1 v9_2 v9_3 a9_4 a9_5 a9_6 a9_7 a9_8 a9_9 a9_10 a9_11 a9_12 v9_13 v9_14 v9_15 v9_16 v9_17 v9_18 a9_19 v9_20 v9_21 v9_22 a9_23 a9_24 a9_25 a9_26 a9_27 a9_28 a9_29 a9_30 a9_31 a9_32 a9_33 a9_34 v9_35 v9_36 a9_37 a9_38 a9_39 a9_40 a9_41 v9_42 a9_43 a9_44 a9_45 a9_46 a9_47 v9_48 v9_49 v9_50 v9_51 a9_52 a9_53 v9_54 v9_55 a9_56 a9_57 v9_58 a9_59 a9_60 a9_61)), (a9_33, .inl (cyI, 202, .inl g9_33)), (a9_34, .inl (cyI, 202, .inl g9_34)), (a9_57, .inl (cyI, 60600, .inl g9_57))] sz) [(o9, .inr (9, x_O9 v9_0 v9_1 v9_2 v9_3 a9_4 a9_5 a9_6 a9_7 a9_8 a9_9 a9_10 a9_11 a9_12 v9_13 v9_14 v9_15 v9_16 v9_17 v9_18 a9_19 v9_20 v9_21 v9_22 a9_23 a9_24 a9_25 a9_26 a9_27 a9_28 a9_29 a9_30 a9_31 a9_32 a9_33 a9_34 (R.1) (R.2.1) a9_37 a9_38 a9_39 a9_40 a9_41 v9_42 a9_43 a9_44 a9_45 a9_46 a9_47 v9_48 v9_49 v9_50 v9_51 a9_52 a9_53 v9_54 v9_55 a9_56 a9_57 v9_58 a9_59 a9_60 a9_61)), (a9_33, .inl (cyI, 202, .inl R.2.2.1)), (a9_34, .inl (cyI, 202, .inl R.2.2.2)), (a9_57, .inl (cyI, 60600, .inl g9_57))]) (va_A [(o9, .inr (9, x_O9 v9_0 v9_1 v9_2 v9_3 a9_4 a9_5 a9_6 a9_7 a9_8 a9_9 a9_10 a9_11 a9_12 v9_13 v9_14 v9_15 v9_16 v9_17 v9_18 a9_19 v9_20 v9_21 v9_22 a9_23 a9_24 a9_25 a9_26 a9_27 a9_28 a9_29 a9_30 a9_31 a9_32 a9_33 a9_34 v9_35 v9_36 a9_37 a9_38 a9_39 a9_40 a9_41 v9_42 a9_43 a9_44 a9_45 a9_46 a9_47 v9_48 v9_49 v9_50 v9_51 a9_52 a9_53 v9_54 v9_55 a9_56 a9_57 v9_58 a9_59 a9_60 a9_61)), (a9_33, .inl (cyI, 202, .inl g9_33)), (a9_34, .inl (cyI, 202, .inl g9_34)), (a9_57, .inl (cyI, 60600, .inl g9_57))] sz)) 0 0 (va_A [(o9, .inr (9, x_O9 v9_0 v9_1 v9_2 v9_3 a9_4 a9_5 a9_6 a9_7 a9_8 a9_9 a9_10 a9_11 a9_12 v9_13 v9_14 v9_15 v9_16 v9_17 v9_18 a9_19 v9_20 v9_21 v9_22 a9_23 a9_24 a9_25 a9_26 a9_27 a9_28 a9_29 a9_30 a9_31 a9_32 a9_33 a9_34 v9_35 v9_36 a9_37 a9_38 a9_39 a9_40 a9_41 v9_42 a9_43 a9_44 a9_45 a9_46 a9_47 v9_48 v9_49 v9_50 v9_51 a9_52 a9_53 v9_54 v9_55 a9_56 a9_57 v9_58 a9_59 a9_60 a9_61)), (a9_33, .inl (cyI, 202, .inl g9_33)), (a9_34, .inl (cyI, 202, .inl g9_34)), (a9_57, .inl (cyI, 60600, .inl g9_57))] sz) := by
  refine Met.ofW (cc := cX9_take) (maxL := 3) (ret := none) (by decide) rfl ?_
  intro p e s m args below meth c s₁ B hml hv
  obtain ⟨rfl, ⟨hsz, hP, hK, hN⟩, hD0⟩ := hv
  have hx := B.exec
  have hb := B.bytes
  have hr := B.returns
  have hts := atoms_spec (ws := wsX9_take) B.pre
  have hown : s.vm.findClass RX9 = some m.cls := findClass_of_methodNamed B.named
  have k_1 := hts (.fieldLink RX9 170 "FlowJudgeModel" "maxL" "I") (by decide +kernel)
  have k_2 := hts (.fieldLink RX9 128 "FlowJudgeModel" "frames" "[I") (by decide +kernel)
  have k_3 := hts (.fieldLink RX9 173 "FlowJudgeModel" "maxS" "I") (by decide +kernel)
  have k_4 := hts (.fieldLink RX9 215 "FlowJudgeModel" "h" "I") (by decide +kernel)
  have k_5 := hts (.fieldLink RX9 82 "FlowJudgeModel" "l" "[I") (by decide +kernel)
  have k_6 := hts (.fieldLink RX9 231 "FlowJudgeModel" "made" "Z") (by decide +kernel)
  have k_7 := hts (.fieldLink RX9 85 "FlowJudgeModel" "st" "[I") (by decide +kernel)
  subst hsz
  have hD := hD0.self (sz := s.heap.size)
  generalize hAe : va_A [(o9, .inr (9, x_O9 v9_0 v9_1 v9_2 v9_3 a9_4 a9_5 a9_6 a9_7 a9_8 a9_9 a9_10 a9_11 a9_12 v9_13 v9_14 v9_15 v9_16 v9_17 v9_18 a9_19 v9_20 v9_21 v9_22 a9_23 a9_24 a9_25 a9_26 a9_27 a9_28 a9_29 a9_30 a9_31 a9_32 a9_33 a9_34 v9_35 v9_36 a9_37 a9_38 a9_39 a9_40 a9_41 v9_42 a9_43 a9_44 a9_45 a9_46 a9_47 v9_48 v9_49 v9_50 v9_51 a9_52 a9_53 v9_54 v9_55 a9_56 a9_57 v9_58 a9_59 a9_60 a9_61)), (a9_33, .inl (cyI, 202, .inl g9_33)), (a9_34, .inl (cyI, 202, .inl g9_34)), (a9_57, .inl (cyI, 60600, .inl g9_57))] s.heap.size = A at hD ⊢
  have hA : ∀ q : Nat, s.heap.size ≤ q → A q := fun q h => by rw [← hAe]; exact Or.inr h
  have hP : va_P (dC, dI) vwCl [(o9, .inr (9, x_O9 v9_0 v9_1 v9_2 v9_3 a9_4 a9_5 a9_6 a9_7 a9_8 a9_9 a9_10 a9_11 a9_12 v9_13 v9_14 v9_15 v9_16 v9_17 v9_18 a9_19 v9_20 v9_21 v9_22 a9_23 a9_24 a9_25 a9_26 a9_27 a9_28 a9_29 a9_30 a9_31 a9_32 a9_33 a9_34 v9_35 v9_36 a9_37 a9_38 a9_39 a9_40 a9_41 v9_42 a9_43 a9_44 a9_45 a9_46 a9_47 v9_48 v9_49 v9_50 v9_51 a9_52 a9_53 v9_54 v9_55 a9_56 a9_57 v9_58 a9_59 a9_60 a9_61)), (a9_33, .inl (cyI, 202, .inl g9_33)), (a9_34, .inl (cyI, 202, .inl g9_34)), (a9_57, .inl (cyI, 60600, .inl g9_57))] s.heap := hP
  have hl := lv_entry ([.ref o9, .int p1]) (n := 3) (Nat.le_of_ble_eq_true rfl)
  rw [lg_entry_eq]
  generalize (lg_sl ([.ref o9, .int p1]) ++ List.replicate (3 - (lg_sl ([.ref o9, .int p1])).length) Slot.unset).toArray = ls at hl ⊢
  have hl : lv_has ls 3 [(0, .ref o9), (1, .int p1)] := hl
  obtain ⟨H, hH⟩ : ∃ z, z = s.heap := ⟨_, rfl⟩
  refine x_here hH ?_
  have hP : va_P (dC, dI) vwCl [(o9, .inr (9, x_O9 v9_0 v9_1 v9_2 v9_3 a9_4 a9_5 a9_6 a9_7 a9_8 a9_9 a9_10 a9_11 a9_12 v9_13 v9_14 v9_15 v9_16 v9_17 v9_18 a9_19 v9_20 v9_21 v9_22 a9_23 a9_24 a9_25 a9_26 a9_27 a9_28 a9_29 a9_30 a9_31 a9_32 a9_33 a9_34 v9_35 v9_36 a9_37 a9_38 a9_39 a9_40 a9_41 v9_42 a9_43 a9_44 a9_45 a9_46 a9_47 v9_48 v9_49 v9_50 v9_51 a9_52 a9_53 v9_54 v9_55 a9_56 a9_57 v9_58 a9_59 a9_60 a9_61)), (a9_33, .inl (cyI, 202, .inl g9_33)), (a9_34, .inl (cyI, 202, .inl g9_34)), (a9_57, .inl (cyI, 60600, .inl g9_57))] H := by rw [hH]; exact hP
  have hS : va_S A s.heap H [] := by rw [hH]; exact va_S.rf
  clear hH
  obtain ⟨locs, hlo⟩ : ∃ z : List Loc, z = [] := ⟨_, rfl⟩
  refine x_herl hlo ?_
  have hS : va_S A s.heap H locs := by rw [hlo]; exact hS
  clear hlo
  unfold f_X9_take at hf
  refine x_wn (fun WW hWW => ?_)
  have J := fun (l1 : Int32) (v9_36 : Int32) => f_X9_take_L.partial_correctness v9_16 v9_17 g9_57 l1 v9_36 (fun (z : Nat × Int32 × Int32 × (Nat → Int32) × (Nat → Int32)) (r : Int32 × Int32 × (Nat → Int32) × (Nat → Int32)) => r = R → ∀ (q : Nat) (l2 : Int32) (v9_35 : Int32) (g9_33 : Nat → Int32) (g9_34 : Nat → Int32), z = (q, l2, v9_35, g9_33, g9_34) → ((q = 0 → ∀ (H : Heap) (locs : List Loc) (ls : Array Slot), va_P (dC, dI) vwCl [(o9, .inr (9, x_O9 v9_0 v9_1 v9_2 v9_3 a9_4 a9_5 a9_6 a9_7 a9_8 a9_9 a9_10 a9_11 a9_12 v9_13 v9_14 v9_15 v9_16 v9_17 v9_18 a9_19 v9_20 v9_21 v9_22 a9_23 a9_24 a9_25 a9_26 a9_27 a9_28 a9_29 a9_30 a9_31 a9_32 a9_33 a9_34 v9_35 v9_36 a9_37 a9_38 a9_39 a9_40 a9_41 v9_42 a9_43 a9_44 a9_45 a9_46 a9_47 v9_48 v9_49 v9_50 v9_51 a9_52 a9_53 v9_54 v9_55 a9_56 a9_57 v9_58 a9_59 a9_60 a9_61)), (a9_33, .inl (cyI, 202, .inl g9_33)), (a9_34, .inl (cyI, 202, .inl g9_34)), (a9_57, .inl (cyI, 60600, .inl g9_57))] H → va_D A [(o9, .inr (9, x_O9 v9_0 v9_1 v9_2 v9_3 a9_4 a9_5 a9_6 a9_7 a9_8 a9_9 a9_10 a9_11 a9_12 v9_13 v9_14 v9_15 v9_16 v9_17 v9_18 a9_19 v9_20 v9_21 v9_22 a9_23 a9_24 a9_25 a9_26 a9_27 a9_28 a9_29 a9_30 a9_31 a9_32 a9_33 a9_34 v9_35 v9_36 a9_37 a9_38 a9_39 a9_40 a9_41 v9_42 a9_43 a9_44 a9_45 a9_46 a9_47 v9_48 v9_49 v9_50 v9_51 a9_52 a9_53 v9_54 v9_55 a9_56 a9_57 v9_58 a9_59 a9_60 a9_61)), (a9_33, .inl (cyI, 202, .inl g9_33)), (a9_34, .inl (cyI, 202, .inl g9_34)), (a9_57, .inl (cyI, 60600, .inl g9_57))] → va_S A s.heap H locs → lv_has ls 3 [(0, .ref o9), (1, .int l1), (2, .int l2)] → WW H locs 0 0 (F0 m 2 ls [])) ∧ (q = 1 → ∀ (H : Heap) (locs : List Loc) (ls : Array Slot), va_P (dC, dI) vwCl [(o9, .inr (9, x_O9 v9_0 v9_1 v9_2 v9_3 a9_4 a9_5 a9_6 a9_7 a9_8 a9_9 a9_10 a9_11 a9_12 v9_13 v9_14 v9_15 v9_16 v9_17 v9_18 a9_19 v9_20 v9_21 v9_22 a9_23 a9_24 a9_25 a9_26 a9_27 a9_28 a9_29 a9_30 a9_31 a9_32 a9_33 a9_34 v9_35 v9_36 a9_37 a9_38 a9_39 a9_40 a9_41 v9_42 a9_43 a9_44 a9_45 a9_46 a9_47 v9_48 v9_49 v9_50 v9_51 a9_52 a9_53 v9_54 v9_55 a9_56 a9_57 v9_58 a9_59 a9_60 a9_61)), (a9_33, .inl (cyI, 202, .inl g9_33)), (a9_34, .inl (cyI, 202, .inl g9_34)), (a9_57, .inl (cyI, 60600, .inl g9_57))] H → va_D A [(o9, .inr (9, x_O9 v9_0 v9_1 v9_2 v9_3 a9_4 a9_5 a9_6 a9_7 a9_8 a9_9 a9_10 a9_11 a9_12 v9_13 v9_14 v9_15 v9_16 v9_17 v9_18 a9_19 v9_20 v9_21 v9_22 a9_23 a9_24 a9_25 a9_26 a9_27 a9_28 a9_29 a9_30 a9_31 a9_32 a9_33 a9_34 v9_35 v9_36 a9_37 a9_38 a9_39 a9_40 a9_41 v9_42 a9_43 a9_44 a9_45 a9_46 a9_47 v9_48 v9_49 v9_50 v9_51 a9_52 a9_53 v9_54 v9_55 a9_56 a9_57 v9_58 a9_59 a9_60 a9_61)), (a9_33, .inl (cyI, 202, .inl g9_33)), (a9_34, .inl (cyI, 202, .inl g9_34)), (a9_57, .inl (cyI, 60600, .inl g9_57))] → va_S A s.heap H locs → lv_has ls 3 [(0, .ref o9), (1, .int l1), (2, .int l2)] → WW H locs 0 0 (F0 m 52 ls [])))) (by
    intro F ih z r hf hr q l2 v9_35 g9_33 g9_34 hz
    subst hz
    obtain rfl := hr
    refine ⟨?_, ?_⟩
    · intro hq H locs ls hP hD hS hl
      subst hq
      refine (hWW _ _ _ _ _).mp ?_
      replace hf := x_ip rfl hf
      refine lv_iload_n hx hb dX9_take_2 rfl (lv_at hl 2 rfl) ?_
      refine lv_aload_n hx hb dX9_take_3 rfl (lv_at hl 0 rfl) ?_
      refine va_get (D := (dC, dI)) (ci := 9) (v := .int v9_16) (C := RX9) (T := TX9) (N := 62) hx hb hts i_X9_take_X9 hown hK hP 0 rfl rfl 16 (by decide) k_1 (fun _ h9 => h9) rfl dX9_take_4 ?_
      refine lv_icmp_ge (tgt := 30) hx hb dX9_take_7 (by decide) (fun c_1 => ?_) (fun c_1 => ?_)
      · replace hf := x_ip c_1 hf
        refine lv_aload_n hx hb dX9_take_30 rfl (lv_at hl 0 rfl) ?_
        refine lv_aload_n hx hb dX9_take_31 rfl (lv_at hl 0 rfl) ?_
        refine va_get (D := (dC, dI)) (ci := 9) (v := .ref a9_57) (C := RX9) (T := TX9) (N := 62) hx hb hts i_X9_take_X9 hown hK hP 0 rfl rfl 57 (by decide) k_2 (fun _ h9 => h9) rfl dX9_take_32 ?_
        refine lv_iload_n hx hb dX9_take_35 rfl (lv_at hl 1 rfl) ?_
        refine lv_aload_n hx hb dX9_take_36 rfl (lv_at hl 0 rfl) ?_
        refine va_get (D := (dC, dI)) (ci := 9) (v := .int v9_16) (C := RX9) (T := TX9) (N := 62) hx hb hts i_X9_take_X9 hown hK hP 0 rfl rfl 16 (by decide) k_1 (fun _ h9 => h9) rfl dX9_take_37 ?_
        refine lv_iadd hx hb dX9_take_40 ?_
        refine lv_aload_n hx hb dX9_take_41 rfl (lv_at hl 0 rfl) ?_
        refine va_get (D := (dC, dI)) (ci := 9) (v := .int v9_17) (C := RX9) (T := TX9) (N := 62) hx hb hts i_X9_take_X9 hown hK hP 0 rfl rfl 17 (by decide) k_3 (fun _ h9 => h9) rfl dX9_take_42 ?_
        refine lv_iadd hx hb dX9_take_45 ?_
        obtain ⟨g_2, hf⟩ := x_gu hf
        refine va_iald hx hb hK hP 3 0 rfl rfl (x_gdin g_2) dX9_take_46 ?_
        refine va_put (D := (dC, dI)) (ci := 9) (v := .int (g9_57 (Int32.toNatClampNeg ((l1 + v9_16) + v9_17)))) (ty := .int) (C := RX9) (T := TX9) (N := 62) hx hb hts i_X9_take_X9 tyX9 tyX9_ok nmX9 hown hK hP hD hS 0 rfl rfl 35 (by decide) k_4 (fun _ h9 => h9) rfl (by decide +kernel) rfl rfl (Nat.le_of_ble_eq_true rfl) dX9_take_47 (fun H locs hP hD hS => ?_)
        have hP : va_P (dC, dI) vwCl [(o9, .inr (9, x_O9 v9_0 v9_1 v9_2 v9_3 a9_4 a9_5 a9_6 a9_7 a9_8 a9_9 a9_10 a9_11 a9_12 v9_13 v9_14 v9_15 v9_16 v9_17 v9_18 a9_19 v9_20 v9_21 v9_22 a9_23 a9_24 a9_25 a9_26 a9_27 a9_28 a9_29 a9_30 a9_31 a9_32 a9_33 a9_34 (g9_57 (Int32.toNatClampNeg ((l1 + v9_16) + v9_17))) v9_36 a9_37 a9_38 a9_39 a9_40 a9_41 v9_42 a9_43 a9_44 a9_45 a9_46 a9_47 v9_48 v9_49 v9_50 v9_51 a9_52 a9_53 v9_54 v9_55 a9_56 a9_57 v9_58 a9_59 a9_60 a9_61)), (a9_33, .inl (cyI, 202, .inl g9_33)), (a9_34, .inl (cyI, 202, .inl g9_34)), (a9_57, .inl (cyI, 60600, .inl g9_57))] H := hP
        have hD : va_D A [(o9, .inr (9, x_O9 v9_0 v9_1 v9_2 v9_3 a9_4 a9_5 a9_6 a9_7 a9_8 a9_9 a9_10 a9_11 a9_12 v9_13 v9_14 v9_15 v9_16 v9_17 v9_18 a9_19 v9_20 v9_21 v9_22 a9_23 a9_24 a9_25 a9_26 a9_27 a9_28 a9_29 a9_30 a9_31 a9_32 a9_33 a9_34 (g9_57 (Int32.toNatClampNeg ((l1 + v9_16) + v9_17))) v9_36 a9_37 a9_38 a9_39 a9_40 a9_41 v9_42 a9_43 a9_44 a9_45 a9_46 a9_47 v9_48 v9_49 v9_50 v9_51 a9_52 a9_53 v9_54 v9_55 a9_56 a9_57 v9_58 a9_59 a9_60 a9_61)), (a9_33, .inl (cyI, 202, .inl g9_33)), (a9_34, .inl (cyI, 202, .inl g9_34)), (a9_57, .inl (cyI, 60600, .inl g9_57))] := hD
        refine lv_iconst (v := 0) hx hb dX9_take_50 (by decide) ?_
        refine lv_istore_n (lv' := [(2, .int 0), (0, .ref o9), (1, .int l1)]) hx hb dX9_take_51 rfl hl (by decide) rfl (fun ls hl => ?_)
        exact (hWW _ _ _ _ _).mpr ((ih (1, 0, g9_57 (Int32.toNatClampNeg ((l1 + v9_16) + v9_17)), g9_33, g9_34) _ hf rfl _ _ _ _ _ rfl).2 rfl H locs ls hP hD hS (lv_sub hl [1, 2, 0] rfl))
      · replace hf := x_in c_1 hf
        refine lv_aload_n hx hb dX9_take_10 rfl (lv_at hl 0 rfl) ?_
        refine va_get (D := (dC, dI)) (ci := 9) (v := .ref a9_33) (C := RX9) (T := TX9) (N := 62) hx hb hts i_X9_take_X9 hown hK hP 0 rfl rfl 33 (by decide) k_5 (fun _ h9 => h9) rfl dX9_take_11 ?_
        refine lv_iload_n hx hb dX9_take_14 rfl (lv_at hl 2 rfl) ?_
        refine lv_aload_n hx hb dX9_take_15 rfl (lv_at hl 0 rfl) ?_
        refine va_get (D := (dC, dI)) (ci := 9) (v := .ref a9_57) (C := RX9) (T := TX9) (N := 62) hx hb hts i_X9_take_X9 hown hK hP 0 rfl rfl 57 (by decide) k_2 (fun _ h9 => h9) rfl dX9_take_16 ?_
        refine lv_iload_n hx hb dX9_take_19 rfl (lv_at hl 1 rfl) ?_
        refine lv_iload_n hx hb dX9_take_20 rfl (lv_at hl 2 rfl) ?_
        refine lv_iadd hx hb dX9_take_21 ?_
        obtain ⟨g_3, hf⟩ := x_gu hf
        refine va_iald hx hb hK hP 3 0 rfl rfl (x_gdin g_3) dX9_take_22 ?_
        obtain ⟨g_4, hf⟩ := x_gu hf
        refine va_iast hx hb hK hP hD hS 1 0 rfl rfl (x_gdin g_4) dX9_take_23 (fun H locs hP hD hS => ?_)
        have hP : va_P (dC, dI) vwCl [(o9, .inr (9, x_O9 v9_0 v9_1 v9_2 v9_3 a9_4 a9_5 a9_6 a9_7 a9_8 a9_9 a9_10 a9_11 a9_12 v9_13 v9_14 v9_15 v9_16 v9_17 v9_18 a9_19 v9_20 v9_21 v9_22 a9_23 a9_24 a9_25 a9_26 a9_27 a9_28 a9_29 a9_30 a9_31 a9_32 a9_33 a9_34 v9_35 v9_36 a9_37 a9_38 a9_39 a9_40 a9_41 v9_42 a9_43 a9_44 a9_45 a9_46 a9_47 v9_48 v9_49 v9_50 v9_51 a9_52 a9_53 v9_54 v9_55 a9_56 a9_57 v9_58 a9_59 a9_60 a9_61)), (a9_33, .inl (cyI, 202, .inl (upd g9_33 (Int32.toNatClampNeg l2) (g9_57 (Int32.toNatClampNeg (l1 + l2)))))), (a9_34, .inl (cyI, 202, .inl g9_34)), (a9_57, .inl (cyI, 60600, .inl g9_57))] H := hP
        have hD : va_D A [(o9, .inr (9, x_O9 v9_0 v9_1 v9_2 v9_3 a9_4 a9_5 a9_6 a9_7 a9_8 a9_9 a9_10 a9_11 a9_12 v9_13 v9_14 v9_15 v9_16 v9_17 v9_18 a9_19 v9_20 v9_21 v9_22 a9_23 a9_24 a9_25 a9_26 a9_27 a9_28 a9_29 a9_30 a9_31 a9_32 a9_33 a9_34 v9_35 v9_36 a9_37 a9_38 a9_39 a9_40 a9_41 v9_42 a9_43 a9_44 a9_45 a9_46 a9_47 v9_48 v9_49 v9_50 v9_51 a9_52 a9_53 v9_54 v9_55 a9_56 a9_57 v9_58 a9_59 a9_60 a9_61)), (a9_33, .inl (cyI, 202, .inl (upd g9_33 (Int32.toNatClampNeg l2) (g9_57 (Int32.toNatClampNeg (l1 + l2)))))), (a9_34, .inl (cyI, 202, .inl g9_34)), (a9_57, .inl (cyI, 60600, .inl g9_57))] := hD
        refine lv_iinc (v := (l2 + 1)) (lv' := [(2, .int (l2 + 1)), (0, .ref o9), (1, .int l1)]) hx hb dX9_take_24 hl (k := 2) rfl rfl (by decide) rfl (fun ls hl => ?_)
        refine lv_goto (tgt := 2) hx hb dX9_take_27 (by decide) ?_
        exact (hWW _ _ _ _ _).mpr ((ih (0, l2 + 1, v9_35, upd g9_33 (Int32.toNatClampNeg l2) (g9_57 (Int32.toNatClampNeg (l1 + l2))), g9_34) _ hf rfl _ _ _ _ _ rfl).1 rfl H locs ls hP hD hS (lv_sub hl [1, 2, 0] rfl))
    · intro hq H locs ls hP hD hS hl
      subst hq
      refine (hWW _ _ _ _ _).mp ?_
      replace hf := x_ip rfl (x_in (by decide) hf)
      refine lv_iload_n hx hb dX9_take_52 rfl (lv_at hl 2 rfl) ?_
      refine lv_aload_n hx hb dX9_take_53 rfl (lv_at hl 0 rfl) ?_
      refine va_get (D := (dC, dI)) (ci := 9) (v := .int v9_35) (C := RX9) (T := TX9) (N := 62) hx hb hts i_X9_take_X9 hown hK hP 0 rfl rfl 35 (by decide) k_4 (fun _ h9 => h9) rfl dX9_take_54 ?_
      refine lv_icmp_ge (tgt := 85) hx hb dX9_take_57 (by decide) (fun c_5 => ?_) (fun c_5 => ?_)
      · replace hf := x_ip c_5 hf
        refine lv_aload_n hx hb dX9_take_85 rfl (lv_at hl 0 rfl) ?_
        refine lv_aload_n hx hb dX9_take_86 rfl (lv_at hl 0 rfl) ?_
        refine va_get (D := (dC, dI)) (ci := 9) (v := .ref a9_57) (C := RX9) (T := TX9) (N := 62) hx hb hts i_X9_take_X9 hown hK hP 0 rfl rfl 57 (by decide) k_2 (fun _ h9 => h9) rfl dX9_take_87 ?_
        refine lv_iload_n hx hb dX9_take_90 rfl (lv_at hl 1 rfl) ?_
        refine lv_aload_n hx hb dX9_take_91 rfl (lv_at hl 0 rfl) ?_
        refine va_get (D := (dC, dI)) (ci := 9) (v := .int v9_16) (C := RX9) (T := TX9) (N := 62) hx hb hts i_X9_take_X9 hown hK hP 0 rfl rfl 16 (by decide) k_1 (fun _ h9 => h9) rfl dX9_take_92 ?_
        refine lv_iadd hx hb dX9_take_95 ?_
        refine lv_aload_n hx hb dX9_take_96 rfl (lv_at hl 0 rfl) ?_
        refine va_get (D := (dC, dI)) (ci := 9) (v := .int v9_17) (C := RX9) (T := TX9) (N := 62) hx hb hts i_X9_take_X9 hown hK hP 0 rfl rfl 17 (by decide) k_3 (fun _ h9 => h9) rfl dX9_take_97 ?_
        refine lv_iadd hx hb dX9_take_100 ?_
        refine lv_iconst (v := 1) hx hb dX9_take_101 (by decide) ?_
        refine lv_iadd hx hb dX9_take_102 ?_
        obtain ⟨g_6, hf⟩ := x_gu hf
        refine va_iald hx hb hK hP 3 0 rfl rfl (x_gdin g_6) dX9_take_103 ?_
        refine lv_iconst (v := 1) hx hb dX9_take_104 (by decide) ?_
        refine lv_icmp_ne (tgt := 112) hx hb dX9_take_105 (by decide) (fun c_7 => ?_) (fun c_7 => ?_)
        · replace hf := x_in c_7 hf
          refine lv_iconst (v := 0) hx hb dX9_take_112 (by decide) ?_
          refine va_put (D := (dC, dI)) (ci := 9) (v := .int 0) (ty := .boolean) (C := RX9) (T := TX9) (N := 62) hx hb hts i_X9_take_X9 tyX9 tyX9_ok nmX9 hown hK hP hD hS 0 rfl rfl 36 (by decide) k_6 (fun _ h9 => h9) rfl (by decide +kernel) rfl rfl (Nat.le_of_ble_eq_true rfl) dX9_take_113 (fun H locs hP hD hS => ?_)
          have hP : va_P (dC, dI) vwCl [(o9, .inr (9, x_O9 v9_0 v9_1 v9_2 v9_3 a9_4 a9_5 a9_6 a9_7 a9_8 a9_9 a9_10 a9_11 a9_12 v9_13 v9_14 v9_15 v9_16 v9_17 v9_18 a9_19 v9_20 v9_21 v9_22 a9_23 a9_24 a9_25 a9_26 a9_27 a9_28 a9_29 a9_30 a9_31 a9_32 a9_33 a9_34 v9_35 0 a9_37 a9_38 a9_39 a9_40 a9_41 v9_42 a9_43 a9_44 a9_45 a9_46 a9_47 v9_48 v9_49 v9_50 v9_51 a9_52 a9_53 v9_54 v9_55 a9_56 a9_57 v9_58 a9_59 a9_60 a9_61)), (a9_33, .inl (cyI, 202, .inl g9_33)), (a9_34, .inl (cyI, 202, .inl g9_34)), (a9_57, .inl (cyI, 60600, .inl g9_57))] H := hP
          have hD : va_D A [(o9, .inr (9, x_O9 v9_0 v9_1 v9_2 v9_3 a9_4 a9_5 a9_6 a9_7 a9_8 a9_9 a9_10 a9_11 a9_12 v9_13 v9_14 v9_15 v9_16 v9_17 v9_18 a9_19 v9_20 v9_21 v9_22 a9_23 a9_24 a9_25 a9_26 a9_27 a9_28 a9_29 a9_30 a9_31 a9_32 a9_33 a9_34 v9_35 0 a9_37 a9_38 a9_39 a9_40 a9_41 v9_42 a9_43 a9_44 a9_45 a9_46 a9_47 v9_48 v9_49 v9_50 v9_51 a9_52 a9_53 v9_54 v9_55 a9_56 a9_57 v9_58 a9_59 a9_60 a9_61)), (a9_33, .inl (cyI, 202, .inl g9_33)), (a9_34, .inl (cyI, 202, .inl g9_34)), (a9_57, .inl (cyI, 60600, .inl g9_57))] := hD
          obtain rfl := Option.some.inj hf
          have hP9 := hP.sub (ws' := [(o9, .inr (9, x_O9 v9_0 v9_1 v9_2 v9_3 a9_4 a9_5 a9_6 a9_7 a9_8 a9_9 a9_10 a9_11 a9_12 v9_13 v9_14 v9_15 v9_16 v9_17 v9_18 a9_19 v9_20 v9_21 v9_22 a9_23 a9_24 a9_25 a9_26 a9_27 a9_28 a9_29 a9_30 a9_31 a9_32 a9_33 a9_34 v9_35 0 a9_37 a9_38 a9_39 a9_40 a9_41 v9_42 a9_43 a9_44 a9_45 a9_46 a9_47 v9_48 v9_49 v9_50 v9_51 a9_52 a9_53 v9_54 v9_55 a9_56 a9_57 v9_58 a9_59 a9_60 a9_61)), (a9_33, .inl (cyI, 202, .inl g9_33)), (a9_34, .inl (cyI, 202, .inl g9_34)), (a9_57, .inl (cyI, 60600, .inl g9_57))]) [0, 1, 2, 3] rfl
          have hD9 := hD.sub (ws' := [(o9, .inr (9, x_O9 v9_0 v9_1 v9_2 v9_3 a9_4 a9_5 a9_6 a9_7 a9_8 a9_9 a9_10 a9_11 a9_12 v9_13 v9_14 v9_15 v9_16 v9_17 v9_18 a9_19 v9_20 v9_21 v9_22 a9_23 a9_24 a9_25 a9_26 a9_27 a9_28 a9_29 a9_30 a9_31 a9_32 a9_33 a9_34 v9_35 0 a9_37 a9_38 a9_39 a9_40 a9_41 v9_42 a9_43 a9_44 a9_45 a9_46 a9_47 v9_48 v9_49 v9_50 v9_51 a9_52 a9_53 v9_54 v9_55 a9_56 a9_57 v9_58 a9_59 a9_60 a9_61)), (a9_33, .inl (cyI, 202, .inl g9_33)), (a9_34, .inl (cyI, 202, .inl g9_34)), (a9_57, .inl (cyI, 60600, .inl g9_57))]) [0, 1, 2, 3] (by decide) rfl
          exact W.vret hx hb hr (fun t ht hW => ⟨⟨(), rfl, trivial, by rw [ht]; exact hP9, va_K.moved hW.alike hK, hD9⟩, hS.F ht⟩) hS.2.2 dX9_take_116
        · replace hf := x_ip c_7 hf
          refine lv_iconst (v := 1) hx hb dX9_take_108 (by decide) ?_
          refine lv_goto (tgt := 113) hx hb dX9_take_109 (by decide) ?_
          refine va_put (D := (dC, dI)) (ci := 9) (v := .int 1) (ty := .boolean) (C := RX9) (T := TX9) (N := 62) hx hb hts i_X9_take_X9 tyX9 tyX9_ok nmX9 hown hK hP hD hS 0 rfl rfl 36 (by decide) k_6 (fun _ h9 => h9) rfl (by decide +kernel) rfl rfl (Nat.le_of_ble_eq_true rfl) dX9_take_113 (fun H locs hP hD hS => ?_)
          have hP : va_P (dC, dI) vwCl [(o9, .inr (9, x_O9 v9_0 v9_1 v9_2 v9_3 a9_4 a9_5 a9_6 a9_7 a9_8 a9_9 a9_10 a9_11 a9_12 v9_13 v9_14 v9_15 v9_16 v9_17 v9_18 a9_19 v9_20 v9_21 v9_22 a9_23 a9_24 a9_25 a9_26 a9_27 a9_28 a9_29 a9_30 a9_31 a9_32 a9_33 a9_34 v9_35 1 a9_37 a9_38 a9_39 a9_40 a9_41 v9_42 a9_43 a9_44 a9_45 a9_46 a9_47 v9_48 v9_49 v9_50 v9_51 a9_52 a9_53 v9_54 v9_55 a9_56 a9_57 v9_58 a9_59 a9_60 a9_61)), (a9_33, .inl (cyI, 202, .inl g9_33)), (a9_34, .inl (cyI, 202, .inl g9_34)), (a9_57, .inl (cyI, 60600, .inl g9_57))] H := hP
          have hD : va_D A [(o9, .inr (9, x_O9 v9_0 v9_1 v9_2 v9_3 a9_4 a9_5 a9_6 a9_7 a9_8 a9_9 a9_10 a9_11 a9_12 v9_13 v9_14 v9_15 v9_16 v9_17 v9_18 a9_19 v9_20 v9_21 v9_22 a9_23 a9_24 a9_25 a9_26 a9_27 a9_28 a9_29 a9_30 a9_31 a9_32 a9_33 a9_34 v9_35 1 a9_37 a9_38 a9_39 a9_40 a9_41 v9_42 a9_43 a9_44 a9_45 a9_46 a9_47 v9_48 v9_49 v9_50 v9_51 a9_52 a9_53 v9_54 v9_55 a9_56 a9_57 v9_58 a9_59 a9_60 a9_61)), (a9_33, .inl (cyI, 202, .inl g9_33)), (a9_34, .inl (cyI, 202, .inl g9_34)), (a9_57, .inl (cyI, 60600, .inl g9_57))] := hD
          obtain rfl := Option.some.inj hf
          have hP9 := hP.sub (ws' := [(o9, .inr (9, x_O9 v9_0 v9_1 v9_2 v9_3 a9_4 a9_5 a9_6 a9_7 a9_8 a9_9 a9_10 a9_11 a9_12 v9_13 v9_14 v9_15 v9_16 v9_17 v9_18 a9_19 v9_20 v9_21 v9_22 a9_23 a9_24 a9_25 a9_26 a9_27 a9_28 a9_29 a9_30 a9_31 a9_32 a9_33 a9_34 v9_35 1 a9_37 a9_38 a9_39 a9_40 a9_41 v9_42 a9_43 a9_44 a9_45 a9_46 a9_47 v9_48 v9_49 v9_50 v9_51 a9_52 a9_53 v9_54 v9_55 a9_56 a9_57 v9_58 a9_59 a9_60 a9_61)), (a9_33, .inl (cyI, 202, .inl g9_33)), (a9_34, .inl (cyI, 202, .inl g9_34)), (a9_57, .inl (cyI, 60600, .inl g9_57))]) [0, 1, 2, 3] rfl
          have hD9 := hD.sub (ws' := [(o9, .inr (9, x_O9 v9_0 v9_1 v9_2 v9_3 a9_4 a9_5 a9_6 a9_7 a9_8 a9_9 a9_10 a9_11 a9_12 v9_13 v9_14 v9_15 v9_16 v9_17 v9_18 a9_19 v9_20 v9_21 v9_22 a9_23 a9_24 a9_25 a9_26 a9_27 a9_28 a9_29 a9_30 a9_31 a9_32 a9_33 a9_34 v9_35 1 a9_37 a9_38 a9_39 a9_40 a9_41 v9_42 a9_43 a9_44 a9_45 a9_46 a9_47 v9_48 v9_49 v9_50 v9_51 a9_52 a9_53 v9_54 v9_55 a9_56 a9_57 v9_58 a9_59 a9_60 a9_61)), (a9_33, .inl (cyI, 202, .inl g9_33)), (a9_34, .inl (cyI, 202, .inl g9_34)), (a9_57, .inl (cyI, 60600, .inl g9_57))]) [0, 1, 2, 3] (by decide) rfl
          exact W.vret hx hb hr (fun t ht hW => ⟨⟨(), rfl, trivial, by rw [ht]; exact hP9, va_K.moved hW.alike hK, hD9⟩, hS.F ht⟩) hS.2.2 dX9_take_116
      · replace hf := x_in c_5 hf
        refine lv_aload_n hx hb dX9_take_60 rfl (lv_at hl 0 rfl) ?_
        refine va_get (D := (dC, dI)) (ci := 9) (v := .ref a9_34) (C := RX9) (T := TX9) (N := 62) hx hb hts i_X9_take_X9 hown hK hP 0 rfl rfl 34 (by decide) k_7 (fun _ h9 => h9) rfl dX9_take_61 ?_
        refine lv_iload_n hx hb dX9_take_64 rfl (lv_at hl 2 rfl) ?_
        refine lv_aload_n hx hb dX9_take_65 rfl (lv_at hl 0 rfl) ?_
        refine va_get (D := (dC, dI)) (ci := 9) (v := .ref a9_57) (C := RX9) (T := TX9) (N := 62) hx hb hts i_X9_take_X9 hown hK hP 0 rfl rfl 57 (by decide) k_2 (fun _ h9 => h9) rfl dX9_take_66 ?_
        refine lv_iload_n hx hb dX9_take_69 rfl (lv_at hl 1 rfl) ?_
        refine lv_aload_n hx hb dX9_take_70 rfl (lv_at hl 0 rfl) ?_
        refine va_get (D := (dC, dI)) (ci := 9) (v := .int v9_16) (C := RX9) (T := TX9) (N := 62) hx hb hts i_X9_take_X9 hown hK hP 0 rfl rfl 16 (by decide) k_1 (fun _ h9 => h9) rfl dX9_take_71 ?_
        refine lv_iadd hx hb dX9_take_74 ?_
        refine lv_iload_n hx hb dX9_take_75 rfl (lv_at hl 2 rfl) ?_
        refine lv_iadd hx hb dX9_take_76 ?_
        obtain ⟨g_8, hf⟩ := x_gu hf
        refine va_iald hx hb hK hP 3 0 rfl rfl (x_gdin g_8) dX9_take_77 ?_
        obtain ⟨g_9, hf⟩ := x_gu hf
        refine va_iast hx hb hK hP hD hS 2 0 rfl rfl (x_gdin g_9) dX9_take_78 (fun H locs hP hD hS => ?_)
        have hP : va_P (dC, dI) vwCl [(o9, .inr (9, x_O9 v9_0 v9_1 v9_2 v9_3 a9_4 a9_5 a9_6 a9_7 a9_8 a9_9 a9_10 a9_11 a9_12 v9_13 v9_14 v9_15 v9_16 v9_17 v9_18 a9_19 v9_20 v9_21 v9_22 a9_23 a9_24 a9_25 a9_26 a9_27 a9_28 a9_29 a9_30 a9_31 a9_32 a9_33 a9_34 v9_35 v9_36 a9_37 a9_38 a9_39 a9_40 a9_41 v9_42 a9_43 a9_44 a9_45 a9_46 a9_47 v9_48 v9_49 v9_50 v9_51 a9_52 a9_53 v9_54 v9_55 a9_56 a9_57 v9_58 a9_59 a9_60 a9_61)), (a9_33, .inl (cyI, 202, .inl g9_33)), (a9_34, .inl (cyI, 202, .inl (upd g9_34 (Int32.toNatClampNeg l2) (g9_57 (Int32.toNatClampNeg ((l1 + v9_16) + l2)))))), (a9_57, .inl (cyI, 60600, .inl g9_57))] H := hP
        have hD : va_D A [(o9, .inr (9, x_O9 v9_0 v9_1 v9_2 v9_3 a9_4 a9_5 a9_6 a9_7 a9_8 a9_9 a9_10 a9_11 a9_12 v9_13 v9_14 v9_15 v9_16 v9_17 v9_18 a9_19 v9_20 v9_21 v9_22 a9_23 a9_24 a9_25 a9_26 a9_27 a9_28 a9_29 a9_30 a9_31 a9_32 a9_33 a9_34 v9_35 v9_36 a9_37 a9_38 a9_39 a9_40 a9_41 v9_42 a9_43 a9_44 a9_45 a9_46 a9_47 v9_48 v9_49 v9_50 v9_51 a9_52 a9_53 v9_54 v9_55 a9_56 a9_57 v9_58 a9_59 a9_60 a9_61)), (a9_33, .inl (cyI, 202, .inl g9_33)), (a9_34, .inl (cyI, 202, .inl (upd g9_34 (Int32.toNatClampNeg l2) (g9_57 (Int32.toNatClampNeg ((l1 + v9_16) + l2)))))), (a9_57, .inl (cyI, 60600, .inl g9_57))] := hD
        refine lv_iinc (v := (l2 + 1)) (lv' := [(2, .int (l2 + 1)), (0, .ref o9), (1, .int l1)]) hx hb dX9_take_79 hl (k := 2) rfl rfl (by decide) rfl (fun ls hl => ?_)
        refine lv_goto (tgt := 52) hx hb dX9_take_82 (by decide) ?_
        exact (hWW _ _ _ _ _).mpr ((ih (1, l2 + 1, v9_35, g9_33, upd g9_34 (Int32.toNatClampNeg l2) (g9_57 (Int32.toNatClampNeg ((l1 + v9_16) + l2)))) _ hf rfl _ _ _ _ _ rfl).2 rfl H locs ls hP hD hS (lv_sub hl [1, 2, 0] rfl)))
  refine lv_iconst (v := 0) hx hb dX9_take_0 (by decide) ?_
  refine lv_istore_n (lv' := [(2, .int 0), (0, .ref o9), (1, .int p1)]) hx hb dX9_take_1 rfl hl (by decide) rfl (fun ls hl => ?_)
  exact (hWW _ _ _ _ _).mpr ((J p1 v9_36 (0, 0, v9_35, g9_33, g9_34) _ hf rfl _ _ _ _ _ rfl).1 rfl H locs ls hP hD hS (lv_sub hl [1, 2, 0] rfl))

def f_X9_deeper_L (l1 : Int32) (l2 : Int32) (l3 : Int32) (v9_42 : Int32) (g9_37 : Nat → Int32) (g9_38 : Nat → Int32) (g9_39 : Nat → Int32) (g9_40 : Nat → Int32) (g9_41 : Nat → Int32) (z : Nat × Int32) : Option (Int32 × Int32 × (Nat → Int32) × (Nat → Int32) × (Nat → Int32) × (Nat → Int32) × (Nat → Int32)) := match z with
  | (q, l4) => if q = 0 then if l4 ≤ (0 : Int32) then if x_gd v9_42 20010 = true then if x_gd v9_42 20010 = true then if x_gd l1 20010 = true then if x_gd v9_42 20010 = true then if x_gd l3 1024 = true then if x_gd v9_42 20010 = true then if x_gd l3 1024 = true then some (v9_42, v9_42 + (1 : Int32), upd g9_37 (Int32.toNatClampNeg v9_42) l2, upd g9_38 (Int32.toNatClampNeg v9_42) l1, upd g9_39 (Int32.toNatClampNeg v9_42) ((g9_39 (Int32.toNatClampNeg l1)) + (1 : Int32)), upd g9_40 (Int32.toNatClampNeg v9_42) (g9_41 (Int32.toNatClampNeg l3)), upd g9_41 (Int32.toNatClampNeg l3) v9_42) else none else none else none else none else none else none else none else if x_gd l4 20010 = true then if (g9_38 (Int32.toNatClampNeg l4)) = l1 then if x_gd l4 20010 = true then if (g9_37 (Int32.toNatClampNeg l4)) = l2 then some (l4, v9_42, g9_37, g9_38, g9_39, g9_40, g9_41) else if x_gd l4 20010 = true then (f_X9_deeper_L l1 l2 l3 v9_42 g9_37 g9_38 g9_39 g9_40 g9_41 (0, g9_40 (Int32.toNatClampNeg l4))) else none else none else if x_gd l4 20010 = true then (f_X9_deeper_L l1 l2 l3 v9_42 g9_37 g9_38 g9_39 g9_40 g9_41 (0, g9_40 (Int32.toNatClampNeg l4))) else none else none else none
partial_fixpoint
def f_X9_deeper (v9_42 : Int32) (g9_37 : Nat → Int32) (g9_38 : Nat → Int32) (g9_39 : Nat → Int32) (g9_40 : Nat → Int32) (g9_41 : Nat → Int32) (p1 : Int32) (p2 : Int32) : Option (Int32 × Int32 × (Nat → Int32) × (Nat → Int32) × (Nat → Int32) × (Nat → Int32) × (Nat → Int32)) := if x_gd (((p1 * (31 : Int32)) + p2) &&& 1023) 1024 = true then (f_X9_deeper_L p1 p2 (((p1 * (31 : Int32)) + p2) &&& 1023) v9_42 g9_37 g9_38 g9_39 g9_40 g9_41 (0, g9_41 (Int32.toNatClampNeg (((p1 * (31 : Int32)) + p2) &&& 1023)))) else none
theorem i_X9_deeper_X9 : ∀ w ∈ wsX90, w ∈ wsX9_deeper := fun _ h => List.mem_cons_of_mem _ (List.mem_append_right _ h)
set_option maxHeartbeats 4000000 in
set_option maxRecDepth 100000 in
theorem c_X9_deeper (l : Launch) (dC : Nat → ClassId) (dI : Nat → Nat → Nat) (cyI cyZ cyJ : ClassId) (sz : Nat) (o9 : Nat) (v9_0 : Int32) (v9_1 : Int32) (v9_2 : Int32) (v9_3 : Int32) (a9_4 : Nat) (a9_5 : Nat) (a9_6 : Nat) (a9_7 : Nat) (a9_8 : Nat) (a9_9 : Nat) (a9_10 : Nat) (a9_11 : Nat) (a9_12 : Nat) (v9_13 : Int32) (v9_14 : Int32) (v9_15 : Int32) (v9_16 : Int32) (v9_17 : Int32) (v9_18 : Int32) (a9_19 : Nat) (v9_20 : Int32) (v9_21 : Int32) (v9_22 : Int32) (a9_23 : Nat) (a9_24 : Nat) (a9_25 : Nat) (a9_26 : Nat) (a9_27 : Nat) (a9_28 : Nat) (a9_29 : Nat) (a9_30 : Nat) (a9_31 : Nat) (a9_32 : Nat) (a9_33 : Nat) (a9_34 : Nat) (v9_35 : Int32) (v9_36 : Int32) (a9_37 : Nat) (a9_38 : Nat) (a9_39 : Nat) (a9_40 : Nat) (a9_41 : Nat) (v9_42 : Int32) (a9_43 : Nat) (a9_44 : Nat) (a9_45 : Nat) (a9_46 : Nat) (a9_47 : Nat) (v9_48 : Int32) (v9_49 : Int32) (v9_50 : Int32) (v9_51 : Int32) (a9_52 : Nat) (a9_53 : Nat) (v9_54 : Int32) (v9_55 : Int32) (a9_56 : Nat) (a9_57 : Nat) (v9_58 : Int32) (a9_59 : Nat) (a9_60 : Nat) (a9_61 : Nat) (g9_37 : Nat → Int32) (g9_38 : Nat → Int32) (g9_39 : Nat → Int32) (g9_40 : Nat → Int32) (g9_41 : Nat → Int32) (p1 : Int32) (p2 : Int32) (R : Int32 × Int32 × (Nat → Int32) × (Nat → Int32) × (Nat → Int32) × (Nat → Int32) × (Nat → Int32)) (hf : f_X9_deeper v9_42 g9_37 g9_38 g9_39 g9_40 g9_41 p1 p2 = some R) : Met l yX9_deeper wsX9_deeper ({ frames := 0, cells := 0, slots := 0, locals := 0 }) (va_Pc [.ref o9, .int p1, .int p2] (x_PreD (dC, dI) (x_T cyI cyZ cyJ) [(o9, .inr (9, x_O9 v9_0 v9_1 v9_2 v9_3 a9_4 a9_5 a9_6 a9_7 a9_8 a9_9 a9_10 a9_11 a9_12 v9_13 v9_14 v9_15 v9_16 v9_17 v9_18 a9_19 v9_20 v9_21 v9_22 a9_23 a9_24 a9_25 a9_26 a9_27 a9_28 a9_29 a9_30 a9_31 a9_32 a9_33 a9_34 v9_35 v9_36 a9_37 a9_38 a9_39 a9_40 a9_41 v9_42 a9_43 a9_44 a9_45 a9_46 a9_47 v9_48 v9_49 v9_50 v9_51 a9_52 a9_53 v9_54 v9_55 a9_56 a9_57 v9_58 a9_59 a9_60 a9_61)), (a9_37, .inl (cyI, 20010, .inl g9_37)), (a9_38, .inl (cyI, 20010, .inl g9_38)), (a9_39, .inl (cyI, 20010, .inl g9_39)), (a9_40, .inl (cyI, 20010, .inl g9_40)), (a9_41, .inl (cyI, 1024, .inl g9_41))] sz)) (va_Qi (fun (r : Int32) (_ : Unit) => r = R.1) (fun (_ : Unit) (t : State) => va_P (dC, dI) vwCl [(o9, .inr (9, x_O9 v9_0 v9_1 v9_2 v9_3 a9_4 a9_5 a9_6 a9_7 a9_8 a9_9 a9_10 a9_11 a9_12 v9_13 v9_14 v9_15 v9_16 v9_17 v9_18 a9_19 v9_20 v9_21 v9_22 a9_23 a9_24 a9_25 a9_26 a9_27 a9_28 a9_29 a9_30 a9_31 a9_32 a9_33 a9_34 v9_35 v9_36 a9_37 a9_38 a9_39 a9_40 a9_41 (R.2.1) a9_43 a9_44 a9_45 a9_46 a9_47 v9_48 v9_49 v9_50 v9_51 a9_52 a9_53 v9_54 v9_55 a9_56 a9_57 v9_58 a9_59 a9_60 a9_61)), (a9_37, .inl (cyI, 20010, .inl R.2.2.1)), (a9_38, .inl (cyI, 20010, .inl R.2.2.2.1)), (a9_39, .inl (cyI, 20010, .inl R.2.2.2.2.1)), (a9_40, .inl (cyI, 20010, .inl R.2.2.2.2.2.1)), (a9_41, .inl (cyI, 1024, .inl R.2.2.2.2.2.2))] t.heap ∧ va_K (dC, dI) vwCl (x_T cyI cyZ cyJ) t ∧ va_D (va_A [(o9, .inr (9, x_O9 v9_0 v9_1 v9_2 v9_3 a9_4 a9_5 a9_6 a9_7 a9_8 a9_9 a9_10 a9_11 a9_12 v9_13 v9_14 v9_15 v9_16 v9_17 v9_18 a9_19 v9_20 v9_21 v9_22 a9_23 a9_24 a9_25 a9_26 a9_27 a9_28 a9_29 a9_30 a9_31 a9_32 a9_33 a9_34 v9_35 v9_36 a9_37 a9_38 a9_39 a9_40 a9_41 v9_42 a9_43 a9_44 a9_45 a9_46 a9_47 v9_48 v9_49 v9_50 v9_51 a9_52 a9_53 v9_54 v9_55 a9_56 a9_57 v9_58 a9_59 a9_60 a9_61)), (a9_37, .inl (cyI, 20010, .inl g9_37)), (a9_38, .inl (cyI, 20010, .inl g9_38)), (a9_39, .inl (cyI, 20010, .inl g9_39)), (a9_40, .inl (cyI, 20010, .inl g9_40)), (a9_41, .inl (cyI, 1024, .inl g9_41))] sz) [(o9, .inr (9, x_O9 v9_0 v9_1 v9_2 v9_3 a9_4 a9_5 a9_6 a9_7 a9_8 a9_9 a9_10 a9_11 a9_12 v9_13 v9_14 v9_15 v9_16 v9_17 v9_18 a9_19 v9_20 v9_21 v9_22 a9_23 a9_24 a9_25 a9_26 a9_27 a9_28 a9_29 a9_30 a9_31 a9_32 a9_33 a9_34 v9_35 v9_36 a9_37 a9_38 a9_39 a9_40 a9_41 (R.2.1) a9_43 a9_44 a9_45 a9_46 a9_47 v9_48 v9_49 v9_50 v9_51 a9_52 a9_53 v9_54 v9_55 a9_56 a9_57 v9_58 a9_59 a9_60 a9_61)), (a9_37, .inl (cyI, 20010, .inl R.2.2.1)), (a9_38, .inl (cyI, 20010, .inl R.2.2.2.1)), (a9_39, .inl (cyI, 20010, .inl R.2.2.2.2.1)), (a9_40, .inl (cyI, 20010, .inl R.2.2.2.2.2.1)), (a9_41, .inl (cyI, 1024, .inl R.2.2.2.2.2.2))]) (va_A [(o9, .inr (9, x_O9 v9_0 v9_1 v9_2 v9_3 a9_4 a9_5 a9_6 a9_7 a9_8 a9_9 a9_10 a9_11 a9_12 v9_13 v9_14 v9_15 v9_16 v9_17 v9_18 a9_19 v9_20 v9_21 v9_22 a9_23 a9_24 a9_25 a9_26 a9_27 a9_28 a9_29 a9_30 a9_31 a9_32 a9_33 a9_34 v9_35 v9_36 a9_37 a9_38 a9_39 a9_40 a9_41 v9_42 a9_43 a9_44 a9_45 a9_46 a9_47 v9_48 v9_49 v9_50 v9_51 a9_52 a9_53 v9_54 v9_55 a9_56 a9_57 v9_58 a9_59 a9_60 a9_61)), (a9_37, .inl (cyI, 20010, .inl g9_37)), (a9_38, .inl (cyI, 20010, .inl g9_38)), (a9_39, .inl (cyI, 20010, .inl g9_39)), (a9_40, .inl (cyI, 20010, .inl g9_40)), (a9_41, .inl (cyI, 1024, .inl g9_41))] sz)) 0 0 (va_A [(o9, .inr (9, x_O9 v9_0 v9_1 v9_2 v9_3 a9_4 a9_5 a9_6 a9_7 a9_8 a9_9 a9_10 a9_11 a9_12 v9_13 v9_14 v9_15 v9_16 v9_17 v9_18 a9_19 v9_20 v9_21 v9_22 a9_23 a9_24 a9_25 a9_26 a9_27 a9_28 a9_29 a9_30 a9_31 a9_32 a9_33 a9_34 v9_35 v9_36 a9_37 a9_38 a9_39 a9_40 a9_41 v9_42 a9_43 a9_44 a9_45 a9_46 a9_47 v9_48 v9_49 v9_50 v9_51 a9_52 a9_53 v9_54 v9_55 a9_56 a9_57 v9_58 a9_59 a9_60 a9_61)), (a9_37, .inl (cyI, 20010, .inl g9_37)), (a9_38, .inl (cyI, 20010, .inl g9_38)), (a9_39, .inl (cyI, 20010, .inl g9_39)), (a9_40, .inl (cyI, 20010, .inl g9_40)), (a9_41, .inl (cyI, 1024, .inl g9_41))] sz) := by
  refine Met.ofW (cc := cX9_deeper) (maxL := 5) (ret := (some .int)) (by decide) rfl ?_
  intro p e s m args below meth c s₁ B hml hv
  obtain ⟨rfl, ⟨hsz, hP, hK, hN⟩, hD0⟩ := hv
  have hx := B.exec
  have hb := B.bytes
  have hr := B.returns
  have hts := atoms_spec (ws := wsX9_deeper) B.pre
  have hown : s.vm.findClass RX9 = some m.cls := findClass_of_methodNamed B.named
  have k_1 := hts (.fieldLink RX9 235 "FlowJudgeModel" "contexts" "I") (by decide +kernel)
  have k_2 := hts (.fieldLink RX9 88 "FlowJudgeModel" "xAddr" "[I") (by decide +kernel)
  have k_3 := hts (.fieldLink RX9 91 "FlowJudgeModel" "xBefore" "[I") (by decide +kernel)
  have k_4 := hts (.fieldLink RX9 94 "FlowJudgeModel" "xDeep" "[I") (by decide +kernel)
  have k_5 := hts (.fieldLink RX9 97 "FlowJudgeModel" "xNext" "[I") (by decide +kernel)
  have k_6 := hts (.fieldLink RX9 100 "FlowJudgeModel" "xHead" "[I") (by decide +kernel)
  subst hsz
  have hD := hD0.self (sz := s.heap.size)
  generalize hAe : va_A [(o9, .inr (9, x_O9 v9_0 v9_1 v9_2 v9_3 a9_4 a9_5 a9_6 a9_7 a9_8 a9_9 a9_10 a9_11 a9_12 v9_13 v9_14 v9_15 v9_16 v9_17 v9_18 a9_19 v9_20 v9_21 v9_22 a9_23 a9_24 a9_25 a9_26 a9_27 a9_28 a9_29 a9_30 a9_31 a9_32 a9_33 a9_34 v9_35 v9_36 a9_37 a9_38 a9_39 a9_40 a9_41 v9_42 a9_43 a9_44 a9_45 a9_46 a9_47 v9_48 v9_49 v9_50 v9_51 a9_52 a9_53 v9_54 v9_55 a9_56 a9_57 v9_58 a9_59 a9_60 a9_61)), (a9_37, .inl (cyI, 20010, .inl g9_37)), (a9_38, .inl (cyI, 20010, .inl g9_38)), (a9_39, .inl (cyI, 20010, .inl g9_39)), (a9_40, .inl (cyI, 20010, .inl g9_40)), (a9_41, .inl (cyI, 1024, .inl g9_41))] s.heap.size = A at hD ⊢
  have hA : ∀ q : Nat, s.heap.size ≤ q → A q := fun q h => by rw [← hAe]; exact Or.inr h
  have hP : va_P (dC, dI) vwCl [(o9, .inr (9, x_O9 v9_0 v9_1 v9_2 v9_3 a9_4 a9_5 a9_6 a9_7 a9_8 a9_9 a9_10 a9_11 a9_12 v9_13 v9_14 v9_15 v9_16 v9_17 v9_18 a9_19 v9_20 v9_21 v9_22 a9_23 a9_24 a9_25 a9_26 a9_27 a9_28 a9_29 a9_30 a9_31 a9_32 a9_33 a9_34 v9_35 v9_36 a9_37 a9_38 a9_39 a9_40 a9_41 v9_42 a9_43 a9_44 a9_45 a9_46 a9_47 v9_48 v9_49 v9_50 v9_51 a9_52 a9_53 v9_54 v9_55 a9_56 a9_57 v9_58 a9_59 a9_60 a9_61)), (a9_37, .inl (cyI, 20010, .inl g9_37)), (a9_38, .inl (cyI, 20010, .inl g9_38)), (a9_39, .inl (cyI, 20010, .inl g9_39)), (a9_40, .inl (cyI, 20010, .inl g9_40)), (a9_41, .inl (cyI, 1024, .inl g9_41))] s.heap := hP
  have hl := lv_entry ([.ref o9, .int p1, .int p2]) (n := 5) (Nat.le_of_ble_eq_true rfl)
  rw [lg_entry_eq]
  generalize (lg_sl ([.ref o9, .int p1, .int p2]) ++ List.replicate (5 - (lg_sl ([.ref o9, .int p1, .int p2])).length) Slot.unset).toArray = ls at hl ⊢
  have hl : lv_has ls 5 [(0, .ref o9), (1, .int p1), (2, .int p2)] := hl
  obtain ⟨H, hH⟩ : ∃ z, z = s.heap := ⟨_, rfl⟩
  refine x_here hH ?_
  have hP : va_P (dC, dI) vwCl [(o9, .inr (9, x_O9 v9_0 v9_1 v9_2 v9_3 a9_4 a9_5 a9_6 a9_7 a9_8 a9_9 a9_10 a9_11 a9_12 v9_13 v9_14 v9_15 v9_16 v9_17 v9_18 a9_19 v9_20 v9_21 v9_22 a9_23 a9_24 a9_25 a9_26 a9_27 a9_28 a9_29 a9_30 a9_31 a9_32 a9_33 a9_34 v9_35 v9_36 a9_37 a9_38 a9_39 a9_40 a9_41 v9_42 a9_43 a9_44 a9_45 a9_46 a9_47 v9_48 v9_49 v9_50 v9_51 a9_52 a9_53 v9_54 v9_55 a9_56 a9_57 v9_58 a9_59 a9_60 a9_61)), (a9_37, .inl (cyI, 20010, .inl g9_37)), (a9_38, .inl (cyI, 20010, .inl g9_38)), (a9_39, .inl (cyI, 20010, .inl g9_39)), (a9_40, .inl (cyI, 20010, .inl g9_40)), (a9_41, .inl (cyI, 1024, .inl g9_41))] H := by rw [hH]; exact hP
  have hS : va_S A s.heap H [] := by rw [hH]; exact va_S.rf
  clear hH
  obtain ⟨locs, hlo⟩ : ∃ z : List Loc, z = [] := ⟨_, rfl⟩
  refine x_herl hlo ?_
  have hS : va_S A s.heap H locs := by rw [hlo]; exact hS
  clear hlo
  unfold f_X9_deeper at hf
  refine x_wn (fun WW hWW => ?_)
  have J := fun (l1 : Int32) (l2 : Int32) (l3 : Int32) (v9_42 : Int32) (g9_37 : Nat → Int32) (g9_38 : Nat → Int32) (g9_39 : Nat → Int32) (g9_40 : Nat → Int32) (g9_41 : Nat → Int32) => f_X9_deeper_L.partial_correctness l1 l2 l3 v9_42 g9_37 g9_38 g9_39 g9_40 g9_41 (fun (z : Nat × Int32) (r : Int32 × Int32 × (Nat → Int32) × (Nat → Int32) × (Nat → Int32) × (Nat → Int32) × (Nat → Int32)) => r = R → ∀ (q : Nat) (l4 : Int32), z = (q, l4) → ((q = 0 → ∀ (H : Heap) (locs : List Loc) (ls : Array Slot), va_P (dC, dI) vwCl [(o9, .inr (9, x_O9 v9_0 v9_1 v9_2 v9_3 a9_4 a9_5 a9_6 a9_7 a9_8 a9_9 a9_10 a9_11 a9_12 v9_13 v9_14 v9_15 v9_16 v9_17 v9_18 a9_19 v9_20 v9_21 v9_22 a9_23 a9_24 a9_25 a9_26 a9_27 a9_28 a9_29 a9_30 a9_31 a9_32 a9_33 a9_34 v9_35 v9_36 a9_37 a9_38 a9_39 a9_40 a9_41 v9_42 a9_43 a9_44 a9_45 a9_46 a9_47 v9_48 v9_49 v9_50 v9_51 a9_52 a9_53 v9_54 v9_55 a9_56 a9_57 v9_58 a9_59 a9_60 a9_61)), (a9_37, .inl (cyI, 20010, .inl g9_37)), (a9_38, .inl (cyI, 20010, .inl g9_38)), (a9_39, .inl (cyI, 20010, .inl g9_39)), (a9_40, .inl (cyI, 20010, .inl g9_40)), (a9_41, .inl (cyI, 1024, .inl g9_41))] H → va_D A [(o9, .inr (9, x_O9 v9_0 v9_1 v9_2 v9_3 a9_4 a9_5 a9_6 a9_7 a9_8 a9_9 a9_10 a9_11 a9_12 v9_13 v9_14 v9_15 v9_16 v9_17 v9_18 a9_19 v9_20 v9_21 v9_22 a9_23 a9_24 a9_25 a9_26 a9_27 a9_28 a9_29 a9_30 a9_31 a9_32 a9_33 a9_34 v9_35 v9_36 a9_37 a9_38 a9_39 a9_40 a9_41 v9_42 a9_43 a9_44 a9_45 a9_46 a9_47 v9_48 v9_49 v9_50 v9_51 a9_52 a9_53 v9_54 v9_55 a9_56 a9_57 v9_58 a9_59 a9_60 a9_61)), (a9_37, .inl (cyI, 20010, .inl g9_37)), (a9_38, .inl (cyI, 20010, .inl g9_38)), (a9_39, .inl (cyI, 20010, .inl g9_39)), (a9_40, .inl (cyI, 20010, .inl g9_40)), (a9_41, .inl (cyI, 1024, .inl g9_41))] → va_S A s.heap H locs → lv_has ls 5 [(0, .ref o9), (1, .int l1), (2, .int l2), (3, .int l3), (4, .int l4)] → WW H locs 0 0 (F0 m 19 ls [])))) (by
    intro F ih z r hf hr q l4 hz
    subst hz
    obtain rfl := hr
    · intro hq H locs ls hP hD hS hl
      subst hq
      refine (hWW _ _ _ _ _).mp ?_
      replace hf := x_ip rfl hf
      refine lv_iload hx hb dX9_deeper_19 (lv_at hl 4 rfl) ?_
      refine lv_if_le (tgt := 61) hx hb dX9_deeper_21 (by decide) (fun c_1 => ?_) (fun c_1 => ?_)
      · replace hf := x_ip c_1 hf
        refine lv_aload_n hx hb dX9_deeper_61 rfl (lv_at hl 0 rfl) ?_
        refine lv_dup hx hb dX9_deeper_62 rfl ?_
        refine va_get (D := (dC, dI)) (ci := 9) (v := .int v9_42) (C := RX9) (T := TX9) (N := 62) hx hb hts i_X9_deeper_X9 hown hK hP 0 rfl rfl 42 (by decide) k_1 (fun _ h9 => h9) rfl dX9_deeper_63 ?_
        refine lv_dup_x1 hx hb dX9_deeper_66 rfl rfl ?_
        refine lv_iconst (v := 1) hx hb dX9_deeper_67 (by decide) ?_
        refine lv_iadd hx hb dX9_deeper_68 ?_
        refine va_put (D := (dC, dI)) (ci := 9) (v := .int (v9_42 + (1 : Int32))) (ty := .int) (C := RX9) (T := TX9) (N := 62) hx hb hts i_X9_deeper_X9 tyX9 tyX9_ok nmX9 hown hK hP hD hS 0 rfl rfl 42 (by decide) k_1 (fun _ h9 => h9) rfl (by decide +kernel) rfl rfl (Nat.le_of_ble_eq_true rfl) dX9_deeper_69 (fun H locs hP hD hS => ?_)
        have hP : va_P (dC, dI) vwCl [(o9, .inr (9, x_O9 v9_0 v9_1 v9_2 v9_3 a9_4 a9_5 a9_6 a9_7 a9_8 a9_9 a9_10 a9_11 a9_12 v9_13 v9_14 v9_15 v9_16 v9_17 v9_18 a9_19 v9_20 v9_21 v9_22 a9_23 a9_24 a9_25 a9_26 a9_27 a9_28 a9_29 a9_30 a9_31 a9_32 a9_33 a9_34 v9_35 v9_36 a9_37 a9_38 a9_39 a9_40 a9_41 (v9_42 + (1 : Int32)) a9_43 a9_44 a9_45 a9_46 a9_47 v9_48 v9_49 v9_50 v9_51 a9_52 a9_53 v9_54 v9_55 a9_56 a9_57 v9_58 a9_59 a9_60 a9_61)), (a9_37, .inl (cyI, 20010, .inl g9_37)), (a9_38, .inl (cyI, 20010, .inl g9_38)), (a9_39, .inl (cyI, 20010, .inl g9_39)), (a9_40, .inl (cyI, 20010, .inl g9_40)), (a9_41, .inl (cyI, 1024, .inl g9_41))] H := hP
        have hD : va_D A [(o9, .inr (9, x_O9 v9_0 v9_1 v9_2 v9_3 a9_4 a9_5 a9_6 a9_7 a9_8 a9_9 a9_10 a9_11 a9_12 v9_13 v9_14 v9_15 v9_16 v9_17 v9_18 a9_19 v9_20 v9_21 v9_22 a9_23 a9_24 a9_25 a9_26 a9_27 a9_28 a9_29 a9_30 a9_31 a9_32 a9_33 a9_34 v9_35 v9_36 a9_37 a9_38 a9_39 a9_40 a9_41 (v9_42 + (1 : Int32)) a9_43 a9_44 a9_45 a9_46 a9_47 v9_48 v9_49 v9_50 v9_51 a9_52 a9_53 v9_54 v9_55 a9_56 a9_57 v9_58 a9_59 a9_60 a9_61)), (a9_37, .inl (cyI, 20010, .inl g9_37)), (a9_38, .inl (cyI, 20010, .inl g9_38)), (a9_39, .inl (cyI, 20010, .inl g9_39)), (a9_40, .inl (cyI, 20010, .inl g9_40)), (a9_41, .inl (cyI, 1024, .inl g9_41))] := hD
        refine lv_istore (lv' := [(4, .int v9_42), (0, .ref o9), (1, .int l1), (2, .int l2), (3, .int l3)]) hx hb dX9_deeper_72 hl (by decide) rfl (fun ls hl => ?_)
        refine lv_aload_n hx hb dX9_deeper_74 rfl (lv_at hl 1 rfl) ?_
        refine va_get (D := (dC, dI)) (ci := 9) (v := .ref a9_37) (C := RX9) (T := TX9) (N := 62) hx hb hts i_X9_deeper_X9 hown hK hP 0 rfl rfl 37 (by decide) k_2 (fun _ h9 => h9) rfl dX9_deeper_75 ?_
        refine lv_iload hx hb dX9_deeper_78 (lv_at hl 0 rfl) ?_
        refine lv_iload_n hx hb dX9_deeper_80 rfl (lv_at hl 3 rfl) ?_
        obtain ⟨g_2, hf⟩ := x_gu hf
        refine va_iast hx hb hK hP hD hS 1 0 rfl rfl (x_gdin g_2) dX9_deeper_81 (fun H locs hP hD hS => ?_)
        have hP : va_P (dC, dI) vwCl [(o9, .inr (9, x_O9 v9_0 v9_1 v9_2 v9_3 a9_4 a9_5 a9_6 a9_7 a9_8 a9_9 a9_10 a9_11 a9_12 v9_13 v9_14 v9_15 v9_16 v9_17 v9_18 a9_19 v9_20 v9_21 v9_22 a9_23 a9_24 a9_25 a9_26 a9_27 a9_28 a9_29 a9_30 a9_31 a9_32 a9_33 a9_34 v9_35 v9_36 a9_37 a9_38 a9_39 a9_40 a9_41 (v9_42 + (1 : Int32)) a9_43 a9_44 a9_45 a9_46 a9_47 v9_48 v9_49 v9_50 v9_51 a9_52 a9_53 v9_54 v9_55 a9_56 a9_57 v9_58 a9_59 a9_60 a9_61)), (a9_37, .inl (cyI, 20010, .inl (upd g9_37 (Int32.toNatClampNeg v9_42) l2))), (a9_38, .inl (cyI, 20010, .inl g9_38)), (a9_39, .inl (cyI, 20010, .inl g9_39)), (a9_40, .inl (cyI, 20010, .inl g9_40)), (a9_41, .inl (cyI, 1024, .inl g9_41))] H := hP
        have hD : va_D A [(o9, .inr (9, x_O9 v9_0 v9_1 v9_2 v9_3 a9_4 a9_5 a9_6 a9_7 a9_8 a9_9 a9_10 a9_11 a9_12 v9_13 v9_14 v9_15 v9_16 v9_17 v9_18 a9_19 v9_20 v9_21 v9_22 a9_23 a9_24 a9_25 a9_26 a9_27 a9_28 a9_29 a9_30 a9_31 a9_32 a9_33 a9_34 v9_35 v9_36 a9_37 a9_38 a9_39 a9_40 a9_41 (v9_42 + (1 : Int32)) a9_43 a9_44 a9_45 a9_46 a9_47 v9_48 v9_49 v9_50 v9_51 a9_52 a9_53 v9_54 v9_55 a9_56 a9_57 v9_58 a9_59 a9_60 a9_61)), (a9_37, .inl (cyI, 20010, .inl (upd g9_37 (Int32.toNatClampNeg v9_42) l2))), (a9_38, .inl (cyI, 20010, .inl g9_38)), (a9_39, .inl (cyI, 20010, .inl g9_39)), (a9_40, .inl (cyI, 20010, .inl g9_40)), (a9_41, .inl (cyI, 1024, .inl g9_41))] := hD
        refine lv_aload_n hx hb dX9_deeper_82 rfl (lv_at hl 1 rfl) ?_
        refine va_get (D := (dC, dI)) (ci := 9) (v := .ref a9_38) (C := RX9) (T := TX9) (N := 62) hx hb hts i_X9_deeper_X9 hown hK hP 0 rfl rfl 38 (by decide) k_3 (fun _ h9 => h9) rfl dX9_deeper_83 ?_
        refine lv_iload hx hb dX9_deeper_86 (lv_at hl 0 rfl) ?_
        refine lv_iload_n hx hb dX9_deeper_88 rfl (lv_at hl 2 rfl) ?_
        obtain ⟨g_3, hf⟩ := x_gu hf
        refine va_iast hx hb hK hP hD hS 2 0 rfl rfl (x_gdin g_3) dX9_deeper_89 (fun H locs hP hD hS => ?_)
        have hP : va_P (dC, dI) vwCl [(o9, .inr (9, x_O9 v9_0 v9_1 v9_2 v9_3 a9_4 a9_5 a9_6 a9_7 a9_8 a9_9 a9_10 a9_11 a9_12 v9_13 v9_14 v9_15 v9_16 v9_17 v9_18 a9_19 v9_20 v9_21 v9_22 a9_23 a9_24 a9_25 a9_26 a9_27 a9_28 a9_29 a9_30 a9_31 a9_32 a9_33 a9_34 v9_35 v9_36 a9_37 a9_38 a9_39 a9_40 a9_41 (v9_42 + (1 : Int32)) a9_43 a9_44 a9_45 a9_46 a9_47 v9_48 v9_49 v9_50 v9_51 a9_52 a9_53 v9_54 v9_55 a9_56 a9_57 v9_58 a9_59 a9_60 a9_61)), (a9_37, .inl (cyI, 20010, .inl (upd g9_37 (Int32.toNatClampNeg v9_42) l2))), (a9_38, .inl (cyI, 20010, .inl (upd g9_38 (Int32.toNatClampNeg v9_42) l1))), (a9_39, .inl (cyI, 20010, .inl g9_39)), (a9_40, .inl (cyI, 20010, .inl g9_40)), (a9_41, .inl (cyI, 1024, .inl g9_41))] H := hP
        have hD : va_D A [(o9, .inr (9, x_O9 v9_0 v9_1 v9_2 v9_3 a9_4 a9_5 a9_6 a9_7 a9_8 a9_9 a9_10 a9_11 a9_12 v9_13 v9_14 v9_15 v9_16 v9_17 v9_18 a9_19 v9_20 v9_21 v9_22 a9_23 a9_24 a9_25 a9_26 a9_27 a9_28 a9_29 a9_30 a9_31 a9_32 a9_33 a9_34 v9_35 v9_36 a9_37 a9_38 a9_39 a9_40 a9_41 (v9_42 + (1 : Int32)) a9_43 a9_44 a9_45 a9_46 a9_47 v9_48 v9_49 v9_50 v9_51 a9_52 a9_53 v9_54 v9_55 a9_56 a9_57 v9_58 a9_59 a9_60 a9_61)), (a9_37, .inl (cyI, 20010, .inl (upd g9_37 (Int32.toNatClampNeg v9_42) l2))), (a9_38, .inl (cyI, 20010, .inl (upd g9_38 (Int32.toNatClampNeg v9_42) l1))), (a9_39, .inl (cyI, 20010, .inl g9_39)), (a9_40, .inl (cyI, 20010, .inl g9_40)), (a9_41, .inl (cyI, 1024, .inl g9_41))] := hD
        refine lv_aload_n hx hb dX9_deeper_90 rfl (lv_at hl 1 rfl) ?_
        refine va_get (D := (dC, dI)) (ci := 9) (v := .ref a9_39) (C := RX9) (T := TX9) (N := 62) hx hb hts i_X9_deeper_X9 hown hK hP 0 rfl rfl 39 (by decide) k_4 (fun _ h9 => h9) rfl dX9_deeper_91 ?_
        refine lv_iload hx hb dX9_deeper_94 (lv_at hl 0 rfl) ?_
        refine lv_aload_n hx hb dX9_deeper_96 rfl (lv_at hl 1 rfl) ?_
        refine va_get (D := (dC, dI)) (ci := 9) (v := .ref a9_39) (C := RX9) (T := TX9) (N := 62) hx hb hts i_X9_deeper_X9 hown hK hP 0 rfl rfl 39 (by decide) k_4 (fun _ h9 => h9) rfl dX9_deeper_97 ?_
        refine lv_iload_n hx hb dX9_deeper_100 rfl (lv_at hl 2 rfl) ?_
        obtain ⟨g_4, hf⟩ := x_gu hf
        refine va_iald hx hb hK hP 3 0 rfl rfl (x_gdin g_4) dX9_deeper_101 ?_
        refine lv_iconst (v := 1) hx hb dX9_deeper_102 (by decide) ?_
        refine lv_iadd hx hb dX9_deeper_103 ?_
        obtain ⟨g_5, hf⟩ := x_gu hf
        refine va_iast hx hb hK hP hD hS 3 0 rfl rfl (x_gdin g_5) dX9_deeper_104 (fun H locs hP hD hS => ?_)
        have hP : va_P (dC, dI) vwCl [(o9, .inr (9, x_O9 v9_0 v9_1 v9_2 v9_3 a9_4 a9_5 a9_6 a9_7 a9_8 a9_9 a9_10 a9_11 a9_12 v9_13 v9_14 v9_15 v9_16 v9_17 v9_18 a9_19 v9_20 v9_21 v9_22 a9_23 a9_24 a9_25 a9_26 a9_27 a9_28 a9_29 a9_30 a9_31 a9_32 a9_33 a9_34 v9_35 v9_36 a9_37 a9_38 a9_39 a9_40 a9_41 (v9_42 + (1 : Int32)) a9_43 a9_44 a9_45 a9_46 a9_47 v9_48 v9_49 v9_50 v9_51 a9_52 a9_53 v9_54 v9_55 a9_56 a9_57 v9_58 a9_59 a9_60 a9_61)), (a9_37, .inl (cyI, 20010, .inl (upd g9_37 (Int32.toNatClampNeg v9_42) l2))), (a9_38, .inl (cyI, 20010, .inl (upd g9_38 (Int32.toNatClampNeg v9_42) l1))), (a9_39, .inl (cyI, 20010, .inl (upd g9_39 (Int32.toNatClampNeg v9_42) ((g9_39 (Int32.toNatClampNeg l1)) + (1 : Int32))))), (a9_40, .inl (cyI, 20010, .inl g9_40)), (a9_41, .inl (cyI, 1024, .inl g9_41))] H := hP
        have hD : va_D A [(o9, .inr (9, x_O9 v9_0 v9_1 v9_2 v9_3 a9_4 a9_5 a9_6 a9_7 a9_8 a9_9 a9_10 a9_11 a9_12 v9_13 v9_14 v9_15 v9_16 v9_17 v9_18 a9_19 v9_20 v9_21 v9_22 a9_23 a9_24 a9_25 a9_26 a9_27 a9_28 a9_29 a9_30 a9_31 a9_32 a9_33 a9_34 v9_35 v9_36 a9_37 a9_38 a9_39 a9_40 a9_41 (v9_42 + (1 : Int32)) a9_43 a9_44 a9_45 a9_46 a9_47 v9_48 v9_49 v9_50 v9_51 a9_52 a9_53 v9_54 v9_55 a9_56 a9_57 v9_58 a9_59 a9_60 a9_61)), (a9_37, .inl (cyI, 20010, .inl (upd g9_37 (Int32.toNatClampNeg v9_42) l2))), (a9_38, .inl (cyI, 20010, .inl (upd g9_38 (Int32.toNatClampNeg v9_42) l1))), (a9_39, .inl (cyI, 20010, .inl (upd g9_39 (Int32.toNatClampNeg v9_42) ((g9_39 (Int32.toNatClampNeg l1)) + (1 : Int32))))), (a9_40, .inl (cyI, 20010, .inl g9_40)), (a9_41, .inl (cyI, 1024, .inl g9_41))] := hD
        refine lv_aload_n hx hb dX9_deeper_105 rfl (lv_at hl 1 rfl) ?_
        refine va_get (D := (dC, dI)) (ci := 9) (v := .ref a9_40) (C := RX9) (T := TX9) (N := 62) hx hb hts i_X9_deeper_X9 hown hK hP 0 rfl rfl 40 (by decide) k_5 (fun _ h9 => h9) rfl dX9_deeper_106 ?_
        refine lv_iload hx hb dX9_deeper_109 (lv_at hl 0 rfl) ?_
        refine lv_aload_n hx hb dX9_deeper_111 rfl (lv_at hl 1 rfl) ?_
        refine va_get (D := (dC, dI)) (ci := 9) (v := .ref a9_41) (C := RX9) (T := TX9) (N := 62) hx hb hts i_X9_deeper_X9 hown hK hP 0 rfl rfl 41 (by decide) k_6 (fun _ h9 => h9) rfl dX9_deeper_112 ?_
        refine lv_iload_n hx hb dX9_deeper_115 rfl (lv_at hl 4 rfl) ?_
        obtain ⟨g_6, hf⟩ := x_gu hf
        refine va_iald hx hb hK hP 5 0 rfl rfl (x_gdin g_6) dX9_deeper_116 ?_
        obtain ⟨g_7, hf⟩ := x_gu hf
        refine va_iast hx hb hK hP hD hS 4 0 rfl rfl (x_gdin g_7) dX9_deeper_117 (fun H locs hP hD hS => ?_)
        have hP : va_P (dC, dI) vwCl [(o9, .inr (9, x_O9 v9_0 v9_1 v9_2 v9_3 a9_4 a9_5 a9_6 a9_7 a9_8 a9_9 a9_10 a9_11 a9_12 v9_13 v9_14 v9_15 v9_16 v9_17 v9_18 a9_19 v9_20 v9_21 v9_22 a9_23 a9_24 a9_25 a9_26 a9_27 a9_28 a9_29 a9_30 a9_31 a9_32 a9_33 a9_34 v9_35 v9_36 a9_37 a9_38 a9_39 a9_40 a9_41 (v9_42 + (1 : Int32)) a9_43 a9_44 a9_45 a9_46 a9_47 v9_48 v9_49 v9_50 v9_51 a9_52 a9_53 v9_54 v9_55 a9_56 a9_57 v9_58 a9_59 a9_60 a9_61)), (a9_37, .inl (cyI, 20010, .inl (upd g9_37 (Int32.toNatClampNeg v9_42) l2))), (a9_38, .inl (cyI, 20010, .inl (upd g9_38 (Int32.toNatClampNeg v9_42) l1))), (a9_39, .inl (cyI, 20010, .inl (upd g9_39 (Int32.toNatClampNeg v9_42) ((g9_39 (Int32.toNatClampNeg l1)) + (1 : Int32))))), (a9_40, .inl (cyI, 20010, .inl (upd g9_40 (Int32.toNatClampNeg v9_42) (g9_41 (Int32.toNatClampNeg l3))))), (a9_41, .inl (cyI, 1024, .inl g9_41))] H := hP
        have hD : va_D A [(o9, .inr (9, x_O9 v9_0 v9_1 v9_2 v9_3 a9_4 a9_5 a9_6 a9_7 a9_8 a9_9 a9_10 a9_11 a9_12 v9_13 v9_14 v9_15 v9_16 v9_17 v9_18 a9_19 v9_20 v9_21 v9_22 a9_23 a9_24 a9_25 a9_26 a9_27 a9_28 a9_29 a9_30 a9_31 a9_32 a9_33 a9_34 v9_35 v9_36 a9_37 a9_38 a9_39 a9_40 a9_41 (v9_42 + (1 : Int32)) a9_43 a9_44 a9_45 a9_46 a9_47 v9_48 v9_49 v9_50 v9_51 a9_52 a9_53 v9_54 v9_55 a9_56 a9_57 v9_58 a9_59 a9_60 a9_61)), (a9_37, .inl (cyI, 20010, .inl (upd g9_37 (Int32.toNatClampNeg v9_42) l2))), (a9_38, .inl (cyI, 20010, .inl (upd g9_38 (Int32.toNatClampNeg v9_42) l1))), (a9_39, .inl (cyI, 20010, .inl (upd g9_39 (Int32.toNatClampNeg v9_42) ((g9_39 (Int32.toNatClampNeg l1)) + (1 : Int32))))), (a9_40, .inl (cyI, 20010, .inl (upd g9_40 (Int32.toNatClampNeg v9_42) (g9_41 (Int32.toNatClampNeg l3))))), (a9_41, .inl (cyI, 1024, .inl g9_41))] := hD
        refine lv_aload_n hx hb dX9_deeper_118 rfl (lv_at hl 1 rfl) ?_
        refine va_get (D := (dC, dI)) (ci := 9) (v := .ref a9_41) (C := RX9) (T := TX9) (N := 62) hx hb hts i_X9_deeper_X9 hown hK hP 0 rfl rfl 41 (by decide) k_6 (fun _ h9 => h9) rfl dX9_deeper_119 ?_
        refine lv_iload_n hx hb dX9_deeper_122 rfl (lv_at hl 4 rfl) ?_
        refine lv_iload hx hb dX9_deeper_123 (lv_at hl 0 rfl) ?_
        obtain ⟨g_8, hf⟩ := x_gu hf
        refine va_iast hx hb hK hP hD hS 5 0 rfl rfl (x_gdin g_8) dX9_deeper_125 (fun H locs hP hD hS => ?_)
        have hP : va_P (dC, dI) vwCl [(o9, .inr (9, x_O9 v9_0 v9_1 v9_2 v9_3 a9_4 a9_5 a9_6 a9_7 a9_8 a9_9 a9_10 a9_11 a9_12 v9_13 v9_14 v9_15 v9_16 v9_17 v9_18 a9_19 v9_20 v9_21 v9_22 a9_23 a9_24 a9_25 a9_26 a9_27 a9_28 a9_29 a9_30 a9_31 a9_32 a9_33 a9_34 v9_35 v9_36 a9_37 a9_38 a9_39 a9_40 a9_41 (v9_42 + (1 : Int32)) a9_43 a9_44 a9_45 a9_46 a9_47 v9_48 v9_49 v9_50 v9_51 a9_52 a9_53 v9_54 v9_55 a9_56 a9_57 v9_58 a9_59 a9_60 a9_61)), (a9_37, .inl (cyI, 20010, .inl (upd g9_37 (Int32.toNatClampNeg v9_42) l2))), (a9_38, .inl (cyI, 20010, .inl (upd g9_38 (Int32.toNatClampNeg v9_42) l1))), (a9_39, .inl (cyI, 20010, .inl (upd g9_39 (Int32.toNatClampNeg v9_42) ((g9_39 (Int32.toNatClampNeg l1)) + (1 : Int32))))), (a9_40, .inl (cyI, 20010, .inl (upd g9_40 (Int32.toNatClampNeg v9_42) (g9_41 (Int32.toNatClampNeg l3))))), (a9_41, .inl (cyI, 1024, .inl (upd g9_41 (Int32.toNatClampNeg l3) v9_42)))] H := hP
        have hD : va_D A [(o9, .inr (9, x_O9 v9_0 v9_1 v9_2 v9_3 a9_4 a9_5 a9_6 a9_7 a9_8 a9_9 a9_10 a9_11 a9_12 v9_13 v9_14 v9_15 v9_16 v9_17 v9_18 a9_19 v9_20 v9_21 v9_22 a9_23 a9_24 a9_25 a9_26 a9_27 a9_28 a9_29 a9_30 a9_31 a9_32 a9_33 a9_34 v9_35 v9_36 a9_37 a9_38 a9_39 a9_40 a9_41 (v9_42 + (1 : Int32)) a9_43 a9_44 a9_45 a9_46 a9_47 v9_48 v9_49 v9_50 v9_51 a9_52 a9_53 v9_54 v9_55 a9_56 a9_57 v9_58 a9_59 a9_60 a9_61)), (a9_37, .inl (cyI, 20010, .inl (upd g9_37 (Int32.toNatClampNeg v9_42) l2))), (a9_38, .inl (cyI, 20010, .inl (upd g9_38 (Int32.toNatClampNeg v9_42) l1))), (a9_39, .inl (cyI, 20010, .inl (upd g9_39 (Int32.toNatClampNeg v9_42) ((g9_39 (Int32.toNatClampNeg l1)) + (1 : Int32))))), (a9_40, .inl (cyI, 20010, .inl (upd g9_40 (Int32.toNatClampNeg v9_42) (g9_41 (Int32.toNatClampNeg l3))))), (a9_41, .inl (cyI, 1024, .inl (upd g9_41 (Int32.toNatClampNeg l3) v9_42)))] := hD
        refine lv_iload hx hb dX9_deeper_126 (lv_at hl 0 rfl) ?_
        obtain rfl := Option.some.inj hf
        have hP9 := hP.sub (ws' := [(o9, .inr (9, x_O9 v9_0 v9_1 v9_2 v9_3 a9_4 a9_5 a9_6 a9_7 a9_8 a9_9 a9_10 a9_11 a9_12 v9_13 v9_14 v9_15 v9_16 v9_17 v9_18 a9_19 v9_20 v9_21 v9_22 a9_23 a9_24 a9_25 a9_26 a9_27 a9_28 a9_29 a9_30 a9_31 a9_32 a9_33 a9_34 v9_35 v9_36 a9_37 a9_38 a9_39 a9_40 a9_41 (v9_42 + (1 : Int32)) a9_43 a9_44 a9_45 a9_46 a9_47 v9_48 v9_49 v9_50 v9_51 a9_52 a9_53 v9_54 v9_55 a9_56 a9_57 v9_58 a9_59 a9_60 a9_61)), (a9_37, .inl (cyI, 20010, .inl (upd g9_37 (Int32.toNatClampNeg v9_42) l2))), (a9_38, .inl (cyI, 20010, .inl (upd g9_38 (Int32.toNatClampNeg v9_42) l1))), (a9_39, .inl (cyI, 20010, .inl (upd g9_39 (Int32.toNatClampNeg v9_42) ((g9_39 (Int32.toNatClampNeg l1)) + (1 : Int32))))), (a9_40, .inl (cyI, 20010, .inl (upd g9_40 (Int32.toNatClampNeg v9_42) (g9_41 (Int32.toNatClampNeg l3))))), (a9_41, .inl (cyI, 1024, .inl (upd g9_41 (Int32.toNatClampNeg l3) v9_42)))]) [0, 1, 2, 3, 4, 5] rfl
        have hD9 := hD.sub (ws' := [(o9, .inr (9, x_O9 v9_0 v9_1 v9_2 v9_3 a9_4 a9_5 a9_6 a9_7 a9_8 a9_9 a9_10 a9_11 a9_12 v9_13 v9_14 v9_15 v9_16 v9_17 v9_18 a9_19 v9_20 v9_21 v9_22 a9_23 a9_24 a9_25 a9_26 a9_27 a9_28 a9_29 a9_30 a9_31 a9_32 a9_33 a9_34 v9_35 v9_36 a9_37 a9_38 a9_39 a9_40 a9_41 (v9_42 + (1 : Int32)) a9_43 a9_44 a9_45 a9_46 a9_47 v9_48 v9_49 v9_50 v9_51 a9_52 a9_53 v9_54 v9_55 a9_56 a9_57 v9_58 a9_59 a9_60 a9_61)), (a9_37, .inl (cyI, 20010, .inl (upd g9_37 (Int32.toNatClampNeg v9_42) l2))), (a9_38, .inl (cyI, 20010, .inl (upd g9_38 (Int32.toNatClampNeg v9_42) l1))), (a9_39, .inl (cyI, 20010, .inl (upd g9_39 (Int32.toNatClampNeg v9_42) ((g9_39 (Int32.toNatClampNeg l1)) + (1 : Int32))))), (a9_40, .inl (cyI, 20010, .inl (upd g9_40 (Int32.toNatClampNeg v9_42) (g9_41 (Int32.toNatClampNeg l3))))), (a9_41, .inl (cyI, 1024, .inl (upd g9_41 (Int32.toNatClampNeg l3) v9_42)))]) [0, 1, 2, 3, 4, 5] (by decide) rfl
        exact W.iret hx hb hr (fun t ht hW => ⟨⟨_, (), rfl, rfl, by rw [ht]; exact hP9, va_K.moved hW.alike hK, hD9⟩, hS.F ht⟩) hS.2.2 dX9_deeper_128
      · replace hf := x_in c_1 hf
        refine lv_aload_n hx hb dX9_deeper_24 rfl (lv_at hl 0 rfl) ?_
        refine va_get (D := (dC, dI)) (ci := 9) (v := .ref a9_38) (C := RX9) (T := TX9) (N := 62) hx hb hts i_X9_deeper_X9 hown hK hP 0 rfl rfl 38 (by decide) k_3 (fun _ h9 => h9) rfl dX9_deeper_25 ?_
        refine lv_iload hx hb dX9_deeper_28 (lv_at hl 4 rfl) ?_
        obtain ⟨g_9, hf⟩ := x_gu hf
        refine va_iald hx hb hK hP 2 0 rfl rfl (x_gdin g_9) dX9_deeper_30 ?_
        refine lv_iload_n hx hb dX9_deeper_31 rfl (lv_at hl 1 rfl) ?_
        refine lv_icmp_ne (tgt := 49) hx hb dX9_deeper_32 (by decide) (fun c_10 => ?_) (fun c_10 => ?_)
        · replace hf := x_in c_10 hf
          refine lv_aload_n hx hb dX9_deeper_49 rfl (lv_at hl 0 rfl) ?_
          refine va_get (D := (dC, dI)) (ci := 9) (v := .ref a9_40) (C := RX9) (T := TX9) (N := 62) hx hb hts i_X9_deeper_X9 hown hK hP 0 rfl rfl 40 (by decide) k_5 (fun _ h9 => h9) rfl dX9_deeper_50 ?_
          refine lv_iload hx hb dX9_deeper_53 (lv_at hl 4 rfl) ?_
          obtain ⟨g_11, hf⟩ := x_gu hf
          refine va_iald hx hb hK hP 4 0 rfl rfl (x_gdin g_11) dX9_deeper_55 ?_
          refine lv_istore (lv' := [(4, .int (g9_40 (Int32.toNatClampNeg l4))), (0, .ref o9), (1, .int l1), (2, .int l2), (3, .int l3)]) hx hb dX9_deeper_56 hl (by decide) rfl (fun ls hl => ?_)
          refine lv_goto (tgt := 19) hx hb dX9_deeper_58 (by decide) ?_
          exact (hWW _ _ _ _ _).mpr ((ih (0, g9_40 (Int32.toNatClampNeg l4)) _ hf rfl _ _ rfl) rfl H locs ls hP hD hS (lv_sub hl [1, 2, 3, 4, 0] rfl))
        · replace hf := x_ip c_10 hf
          refine lv_aload_n hx hb dX9_deeper_35 rfl (lv_at hl 0 rfl) ?_
          refine va_get (D := (dC, dI)) (ci := 9) (v := .ref a9_37) (C := RX9) (T := TX9) (N := 62) hx hb hts i_X9_deeper_X9 hown hK hP 0 rfl rfl 37 (by decide) k_2 (fun _ h9 => h9) rfl dX9_deeper_36 ?_
          refine lv_iload hx hb dX9_deeper_39 (lv_at hl 4 rfl) ?_
          obtain ⟨g_12, hf⟩ := x_gu hf
          refine va_iald hx hb hK hP 1 0 rfl rfl (x_gdin g_12) dX9_deeper_41 ?_
          refine lv_iload_n hx hb dX9_deeper_42 rfl (lv_at hl 2 rfl) ?_
          refine lv_icmp_ne (tgt := 49) hx hb dX9_deeper_43 (by decide) (fun c_13 => ?_) (fun c_13 => ?_)
          · replace hf := x_in c_13 hf
            refine lv_aload_n hx hb dX9_deeper_49 rfl (lv_at hl 0 rfl) ?_
            refine va_get (D := (dC, dI)) (ci := 9) (v := .ref a9_40) (C := RX9) (T := TX9) (N := 62) hx hb hts i_X9_deeper_X9 hown hK hP 0 rfl rfl 40 (by decide) k_5 (fun _ h9 => h9) rfl dX9_deeper_50 ?_
            refine lv_iload hx hb dX9_deeper_53 (lv_at hl 4 rfl) ?_
            obtain ⟨g_14, hf⟩ := x_gu hf
            refine va_iald hx hb hK hP 4 0 rfl rfl (x_gdin g_14) dX9_deeper_55 ?_
            refine lv_istore (lv' := [(4, .int (g9_40 (Int32.toNatClampNeg l4))), (0, .ref o9), (1, .int l1), (2, .int l2), (3, .int l3)]) hx hb dX9_deeper_56 hl (by decide) rfl (fun ls hl => ?_)
            refine lv_goto (tgt := 19) hx hb dX9_deeper_58 (by decide) ?_
            exact (hWW _ _ _ _ _).mpr ((ih (0, g9_40 (Int32.toNatClampNeg l4)) _ hf rfl _ _ rfl) rfl H locs ls hP hD hS (lv_sub hl [1, 2, 3, 4, 0] rfl))
          · replace hf := x_ip c_13 hf
            refine lv_iload hx hb dX9_deeper_46 (lv_at hl 4 rfl) ?_
            obtain rfl := Option.some.inj hf
            have hP9 := hP.sub (ws' := [(o9, .inr (9, x_O9 v9_0 v9_1 v9_2 v9_3 a9_4 a9_5 a9_6 a9_7 a9_8 a9_9 a9_10 a9_11 a9_12 v9_13 v9_14 v9_15 v9_16 v9_17 v9_18 a9_19 v9_20 v9_21 v9_22 a9_23 a9_24 a9_25 a9_26 a9_27 a9_28 a9_29 a9_30 a9_31 a9_32 a9_33 a9_34 v9_35 v9_36 a9_37 a9_38 a9_39 a9_40 a9_41 v9_42 a9_43 a9_44 a9_45 a9_46 a9_47 v9_48 v9_49 v9_50 v9_51 a9_52 a9_53 v9_54 v9_55 a9_56 a9_57 v9_58 a9_59 a9_60 a9_61)), (a9_37, .inl (cyI, 20010, .inl g9_37)), (a9_38, .inl (cyI, 20010, .inl g9_38)), (a9_39, .inl (cyI, 20010, .inl g9_39)), (a9_40, .inl (cyI, 20010, .inl g9_40)), (a9_41, .inl (cyI, 1024, .inl g9_41))]) [0, 1, 2, 3, 4, 5] rfl
            have hD9 := hD.sub (ws' := [(o9, .inr (9, x_O9 v9_0 v9_1 v9_2 v9_3 a9_4 a9_5 a9_6 a9_7 a9_8 a9_9 a9_10 a9_11 a9_12 v9_13 v9_14 v9_15 v9_16 v9_17 v9_18 a9_19 v9_20 v9_21 v9_22 a9_23 a9_24 a9_25 a9_26 a9_27 a9_28 a9_29 a9_30 a9_31 a9_32 a9_33 a9_34 v9_35 v9_36 a9_37 a9_38 a9_39 a9_40 a9_41 v9_42 a9_43 a9_44 a9_45 a9_46 a9_47 v9_48 v9_49 v9_50 v9_51 a9_52 a9_53 v9_54 v9_55 a9_56 a9_57 v9_58 a9_59 a9_60 a9_61)), (a9_37, .inl (cyI, 20010, .inl g9_37)), (a9_38, .inl (cyI, 20010, .inl g9_38)), (a9_39, .inl (cyI, 20010, .inl g9_39)), (a9_40, .inl (cyI, 20010, .inl g9_40)), (a9_41, .inl (cyI, 1024, .inl g9_41))]) [0, 1, 2, 3, 4, 5] (by decide) rfl
            exact W.iret hx hb hr (fun t ht hW => ⟨⟨_, (), rfl, rfl, by rw [ht]; exact hP9, va_K.moved hW.alike hK, hD9⟩, hS.F ht⟩) hS.2.2 dX9_deeper_48)
  refine lv_iload_n hx hb dX9_deeper_0 rfl (lv_at hl 1 rfl) ?_
  refine lv_bipush (v := 31) hx hb dX9_deeper_1 (by decide) ?_
  refine lv_imul hx hb dX9_deeper_3 ?_
  refine lv_iload_n hx hb dX9_deeper_4 rfl (lv_at hl 2 rfl) ?_
  refine lv_iadd hx hb dX9_deeper_5 ?_
  refine lv_sipush (v := 1023) hx hb dX9_deeper_6 (by decide) ?_
  refine lv_iand hx hb dX9_deeper_9 ?_
  refine lv_istore_n (lv' := [(3, .int (((p1 * (31 : Int32)) + p2) &&& 1023)), (0, .ref o9), (1, .int p1), (2, .int p2)]) hx hb dX9_deeper_10 rfl hl (by decide) rfl (fun ls hl => ?_)
  refine lv_aload_n hx hb dX9_deeper_11 rfl (lv_at hl 1 rfl) ?_
  refine va_get (D := (dC, dI)) (ci := 9) (v := .ref a9_41) (C := RX9) (T := TX9) (N := 62) hx hb hts i_X9_deeper_X9 hown hK hP 0 rfl rfl 41 (by decide) k_6 (fun _ h9 => h9) rfl dX9_deeper_12 ?_
  refine lv_iload_n hx hb dX9_deeper_15 rfl (lv_at hl 0 rfl) ?_
  obtain ⟨g_15, hf⟩ := x_gu hf
  refine va_iald hx hb hK hP 5 0 rfl rfl (x_gdin g_15) dX9_deeper_16 ?_
  refine lv_istore (lv' := [(4, .int (g9_41 (Int32.toNatClampNeg (((p1 * (31 : Int32)) + p2) &&& 1023)))), (3, .int (((p1 * (31 : Int32)) + p2) &&& 1023)), (0, .ref o9), (1, .int p1), (2, .int p2)]) hx hb dX9_deeper_17 hl (by decide) rfl (fun ls hl => ?_)
  exact (hWW _ _ _ _ _).mpr ((J p1 p2 (((p1 * (31 : Int32)) + p2) &&& 1023) v9_42 g9_37 g9_38 g9_39 g9_40 g9_41 (0, g9_41 (Int32.toNatClampNeg (((p1 * (31 : Int32)) + p2) &&& 1023))) _ hf rfl _ _ rfl) rfl H locs ls hP hD hS (lv_sub hl [2, 3, 4, 1, 0] rfl))

def f_X9_joined (g9_4 : Nat → Int32) (g9_5 : Nat → Int32) (p1 : Int32) (p2 : Int32) : Option (Int32) := if p1 = p2 then some p1 else if (p1 &&& 15) = (8 : Int32) then if p2 = (5 : Int32) then some p1 else if p1 = (5 : Int32) then if (p2 &&& 15) = (8 : Int32) then some p2 else if (p1 &&& 15) = (8 : Int32) then if (p2 &&& 15) = (8 : Int32) then (f_X9_shared g9_4 g9_5 (p1 >>> (4 &&& 31)) (p2 >>> (4 &&& 31))) >>= (fun r_19 => some (((16 : Int32) * r_19) + (8 : Int32))) else some (-1) else some (-1) else if (p1 &&& 15) = (8 : Int32) then if (p2 &&& 15) = (8 : Int32) then (f_X9_shared g9_4 g9_5 (p1 >>> (4 &&& 31)) (p2 >>> (4 &&& 31))) >>= (fun r_15 => some (((16 : Int32) * r_15) + (8 : Int32))) else some (-1) else some (-1) else if p1 = (5 : Int32) then if (p2 &&& 15) = (8 : Int32) then some p2 else if (p1 &&& 15) = (8 : Int32) then if (p2 &&& 15) = (8 : Int32) then (f_X9_shared g9_4 g9_5 (p1 >>> (4 &&& 31)) (p2 >>> (4 &&& 31))) >>= (fun r_10 => some (((16 : Int32) * r_10) + (8 : Int32))) else some (-1) else some (-1) else if (p1 &&& 15) = (8 : Int32) then if (p2 &&& 15) = (8 : Int32) then (f_X9_shared g9_4 g9_5 (p1 >>> (4 &&& 31)) (p2 >>> (4 &&& 31))) >>= (fun r_6 => some (((16 : Int32) * r_6) + (8 : Int32))) else some (-1) else some (-1)
set_option maxHeartbeats 4000000 in
set_option maxRecDepth 100000 in
theorem c_X9_joined (l : Launch) (dC : Nat → ClassId) (dI : Nat → Nat → Nat) (cyI cyZ cyJ : ClassId) (sz : Nat) (o9 : Nat) (v9_0 : Int32) (v9_1 : Int32) (v9_2 : Int32) (v9_3 : Int32) (a9_4 : Nat) (a9_5 : Nat) (a9_6 : Nat) (a9_7 : Nat) (a9_8 : Nat) (a9_9 : Nat) (a9_10 : Nat) (a9_11 : Nat) (a9_12 : Nat) (v9_13 : Int32) (v9_14 : Int32) (v9_15 : Int32) (v9_16 : Int32) (v9_17 : Int32) (v9_18 : Int32) (a9_19 : Nat) (v9_20 : Int32) (v9_21 : Int32) (v9_22 : Int32) (a9_23 : Nat) (a9_24 : Nat) (a9_25 : Nat) (a9_26 : Nat) (a9_27 : Nat) (a9_28 : Nat) (a9_29 : Nat) (a9_30 : Nat) (a9_31 : Nat) (a9_32 : Nat) (a9_33 : Nat) (a9_34 : Nat) (v9_35 : Int32) (v9_36 : Int32) (a9_37 : Nat) (a9_38 : Nat) (a9_39 : Nat) (a9_40 : Nat) (a9_41 : Nat) (v9_42 : Int32) (a9_43 : Nat) (a9_44 : Nat) (a9_45 : Nat) (a9_46 : Nat) (a9_47 : Nat) (v9_48 : Int32) (v9_49 : Int32) (v9_50 : Int32) (v9_51 : Int32) (a9_52 : Nat) (a9_53 : Nat) (v9_54 : Int32) (v9_55 : Int32) (a9_56 : Nat) (a9_57 : Nat) (v9_58 : Int32) (a9_59 : Nat) (a9_60 : Nat) (a9_61 : Nat) (g9_4 : Nat → Int32) (g9_5 : Nat → Int32) (p1 : Int32) (p2 : Int32) (R : Int32) (hf : f_X9_joined g9_4 g9_5 p1 p2 = some R) : Met l yX9_joined wsX9_joined ({ frames := 3, cells := 0, slots := 0, locals := 77 }) (va_Pc [.ref o9, .int p1, .int p2] (x_Pre (dC, dI) (x_T cyI cyZ cyJ) [(o9, .inr (9, x_O9 v9_0 v9_1 v9_2 v9_3 a9_4 a9_5 a9_6 a9_7 a9_8 a9_9 a9_10 a9_11 a9_12 v9_13 v9_14 v9_15 v9_16 v9_17 v9_18 a9_19 v9_20 v9_21 v9_22 a9_23 a9_24 a9_25 a9_26 a9_27 a9_28 a9_29 a9_30 a9_31 a9_32 a9_33 a9_34 v9_35 v9_36 a9_37 a9_38 a9_39 a9_40 a9_41 v9_42 a9_43 a9_44 a9_45 a9_46 a9_47 v9_48 v9_49 v9_50 v9_51 a9_52 a9_53 v9_54 v9_55 a9_56 a9_57 v9_58 a9_59 a9_60 a9_61)), (a9_4, .inl (cyI, 200, .inl g9_4)), (a9_5, .inl (cyZ, 200, .inl g9_5))] sz)) (va_Qi (fun (r : Int32) (_ : Unit) => r = R) (fun _ _ => True) (x_new sz)) 0 0 (x_new sz) := by
  refine Met.ofW (cc := cX9_joined) (maxL := 3) (ret := (some .int)) (by decide) rfl ?_
  intro p e s m args below meth c s₁ B hml hv
  obtain ⟨rfl, hsz, hP, hK, hN⟩ := hv
  have hx := B.exec
  have hb := B.bytes
  have hr := B.returns
  have hts := atoms_spec (ws := wsX9_joined) B.pre
  have hown : s.vm.findClass RX9 = some m.cls := findClass_of_methodNamed B.named
  subst hsz
  have hA : ∀ q : Nat, s.heap.size ≤ q → x_new s.heap.size q := fun _ h => h
  have hS : va_S (x_new s.heap.size) s.heap s.heap [] := va_S.rf
  have hP : va_P (dC, dI) vwCl [(o9, .inr (9, x_O9 v9_0 v9_1 v9_2 v9_3 a9_4 a9_5 a9_6 a9_7 a9_8 a9_9 a9_10 a9_11 a9_12 v9_13 v9_14 v9_15 v9_16 v9_17 v9_18 a9_19 v9_20 v9_21 v9_22 a9_23 a9_24 a9_25 a9_26 a9_27 a9_28 a9_29 a9_30 a9_31 a9_32 a9_33 a9_34 v9_35 v9_36 a9_37 a9_38 a9_39 a9_40 a9_41 v9_42 a9_43 a9_44 a9_45 a9_46 a9_47 v9_48 v9_49 v9_50 v9_51 a9_52 a9_53 v9_54 v9_55 a9_56 a9_57 v9_58 a9_59 a9_60 a9_61)), (a9_4, .inl (cyI, 200, .inl g9_4)), (a9_5, .inl (cyZ, 200, .inl g9_5))] s.heap := hP
  have hl := lv_entry ([.ref o9, .int p1, .int p2]) (n := 3) (Nat.le_of_ble_eq_true rfl)
  rw [lg_entry_eq]
  generalize (lg_sl ([.ref o9, .int p1, .int p2]) ++ List.replicate (3 - (lg_sl ([.ref o9, .int p1, .int p2])).length) Slot.unset).toArray = ls at hl ⊢
  have hl : lv_has ls 3 [(0, .ref o9), (1, .int p1), (2, .int p2)] := hl
  obtain ⟨H, hH⟩ : ∃ z, z = s.heap := ⟨_, rfl⟩
  refine x_here hH ?_
  have hP : va_P (dC, dI) vwCl [(o9, .inr (9, x_O9 v9_0 v9_1 v9_2 v9_3 a9_4 a9_5 a9_6 a9_7 a9_8 a9_9 a9_10 a9_11 a9_12 v9_13 v9_14 v9_15 v9_16 v9_17 v9_18 a9_19 v9_20 v9_21 v9_22 a9_23 a9_24 a9_25 a9_26 a9_27 a9_28 a9_29 a9_30 a9_31 a9_32 a9_33 a9_34 v9_35 v9_36 a9_37 a9_38 a9_39 a9_40 a9_41 v9_42 a9_43 a9_44 a9_45 a9_46 a9_47 v9_48 v9_49 v9_50 v9_51 a9_52 a9_53 v9_54 v9_55 a9_56 a9_57 v9_58 a9_59 a9_60 a9_61)), (a9_4, .inl (cyI, 200, .inl g9_4)), (a9_5, .inl (cyZ, 200, .inl g9_5))] H := by rw [hH]; exact hP
  have hS : va_S (x_new s.heap.size) s.heap H [] := by rw [hH]; exact va_S.rf
  clear hH
  obtain ⟨locs, hlo⟩ : ∃ z : List Loc, z = [] := ⟨_, rfl⟩
  refine x_herl hlo ?_
  have hS : va_S (x_new s.heap.size) s.heap H locs := by rw [hlo]; exact hS
  clear hlo
  unfold f_X9_joined at hf
  refine lv_iload_n hx hb dX9_joined_0 rfl (lv_at hl 1 rfl) ?_
  refine lv_iload_n hx hb dX9_joined_1 rfl (lv_at hl 2 rfl) ?_
  refine lv_icmp_ne (tgt := 7) hx hb dX9_joined_2 (by decide) (fun c_1 => ?_) (fun c_1 => ?_)
  · replace hf := x_in c_1 hf
    refine lv_iload_n hx hb dX9_joined_7 rfl (lv_at hl 1 rfl) ?_
    refine lv_bipush (v := 15) hx hb dX9_joined_8 (by decide) ?_
    refine lv_iand hx hb dX9_joined_10 ?_
    refine lv_bipush (v := 8) hx hb dX9_joined_11 (by decide) ?_
    refine lv_icmp_ne (tgt := 23) hx hb dX9_joined_13 (by decide) (fun c_2 => ?_) (fun c_2 => ?_)
    · replace hf := x_in c_2 hf
      refine lv_iload_n hx hb dX9_joined_23 rfl (lv_at hl 1 rfl) ?_
      refine lv_iconst (v := 5) hx hb dX9_joined_24 (by decide) ?_
      refine lv_icmp_ne (tgt := 39) hx hb dX9_joined_25 (by decide) (fun c_3 => ?_) (fun c_3 => ?_)
      · replace hf := x_in c_3 hf
        refine lv_iload_n hx hb dX9_joined_39 rfl (lv_at hl 1 rfl) ?_
        refine lv_bipush (v := 15) hx hb dX9_joined_40 (by decide) ?_
        refine lv_iand hx hb dX9_joined_42 ?_
        refine lv_bipush (v := 8) hx hb dX9_joined_43 (by decide) ?_
        refine lv_icmp_ne (tgt := 74) hx hb dX9_joined_45 (by decide) (fun c_4 => ?_) (fun c_4 => ?_)
        · replace hf := x_in c_4 hf
          refine lv_iconst (v := (-1)) hx hb dX9_joined_74 (by decide) ?_
          obtain rfl := Option.some.inj hf
          exact W.iret hx hb hr (fun t ht hW => ⟨⟨_, (), rfl, rfl, trivial⟩, hS.F ht⟩) hS.2.2 dX9_joined_75
        · replace hf := x_ip c_4 hf
          refine lv_iload_n hx hb dX9_joined_48 rfl (lv_at hl 2 rfl) ?_
          refine lv_bipush (v := 15) hx hb dX9_joined_49 (by decide) ?_
          refine lv_iand hx hb dX9_joined_51 ?_
          refine lv_bipush (v := 8) hx hb dX9_joined_52 (by decide) ?_
          refine lv_icmp_ne (tgt := 74) hx hb dX9_joined_54 (by decide) (fun c_5 => ?_) (fun c_5 => ?_)
          · replace hf := x_in c_5 hf
            refine lv_iconst (v := (-1)) hx hb dX9_joined_74 (by decide) ?_
            obtain rfl := Option.some.inj hf
            exact W.iret hx hb hr (fun t ht hW => ⟨⟨_, (), rfl, rfl, trivial⟩, hS.F ht⟩) hS.2.2 dX9_joined_75
          · replace hf := x_ip c_5 hf
            refine lv_bipush (v := 16) hx hb dX9_joined_57 (by decide) ?_
            refine lv_aload_n hx hb dX9_joined_59 rfl (lv_at hl 0 rfl) ?_
            refine lv_iload_n hx hb dX9_joined_60 rfl (lv_at hl 1 rfl) ?_
            refine lv_iconst (v := 4) hx hb dX9_joined_61 (by decide) ?_
            refine lv_ishr hx hb dX9_joined_62 ?_
            refine lv_iload_n hx hb dX9_joined_63 rfl (lv_at hl 2 rfl) ?_
            refine lv_iconst (v := 4) hx hb dX9_joined_64 (by decide) ?_
            refine lv_ishr hx hb dX9_joined_65 ?_
            obtain ⟨r_6, h_6, hf⟩ := x_bi hf
            have hPc := hP.sub (ws' := [(o9, .inr (9, x_O9 v9_0 v9_1 v9_2 v9_3 a9_4 a9_5 a9_6 a9_7 a9_8 a9_9 a9_10 a9_11 a9_12 v9_13 v9_14 v9_15 v9_16 v9_17 v9_18 a9_19 v9_20 v9_21 v9_22 a9_23 a9_24 a9_25 a9_26 a9_27 a9_28 a9_29 a9_30 a9_31 a9_32 a9_33 a9_34 v9_35 v9_36 a9_37 a9_38 a9_39 a9_40 a9_41 v9_42 a9_43 a9_44 a9_45 a9_46 a9_47 v9_48 v9_49 v9_50 v9_51 a9_52 a9_53 v9_54 v9_55 a9_56 a9_57 v9_58 a9_59 a9_60 a9_61)), (a9_4, .inl (cyI, 200, .inl g9_4)), (a9_5, .inl (cyZ, 200, .inl g9_5))]) [0, 1, 2] rfl
            refine va_calli (va_runV (As := [.int (p1 >>> (4 &&& 31)), .int (p2 >>> (4 &&& 31))]) (rest := [.int 16]) ⟨hx, hb, hml, hown, hts⟩ (c_X9_shared l dC dI cyI cyZ cyJ H.size o9 v9_0 v9_1 v9_2 v9_3 a9_4 a9_5 a9_6 a9_7 a9_8 a9_9 a9_10 a9_11 a9_12 v9_13 v9_14 v9_15 v9_16 v9_17 v9_18 a9_19 v9_20 v9_21 v9_22 a9_23 a9_24 a9_25 a9_26 a9_27 a9_28 a9_29 a9_30 a9_31 a9_32 a9_33 a9_34 v9_35 v9_36 a9_37 a9_38 a9_39 a9_40 a9_41 v9_42 a9_43 a9_44 a9_45 a9_46 a9_47 v9_48 v9_49 v9_50 v9_51 a9_52 a9_53 v9_54 v9_55 a9_56 a9_57 v9_58 a9_59 a9_60 a9_61 g9_4 g9_5 (p1 >>> (4 &&& 31)) (p2 >>> (4 &&& 31)) r_6 h_6) (cwV 2 hts gX9_joined_X9_shared rfl rfl rfl (by decide +kernel) ⟨Nat.le_of_ble_eq_true rfl, Nat.le_of_ble_eq_true rfl⟩) (x_pV hN hK hPc (ci := 9) (q0 := 0) rfl rfl) rfl rfl hl.1 rfl (lv_room (Nat.le_of_ble_eq_true rfl)) dX9_joined_66 ⟨Nat.le_of_ble_eq_true rfl, Nat.le_of_ble_eq_true rfl⟩) hS x_nA (x_nf hA hS) (fun q_6 u t H1 locs ht hvm hw hB hz1 hk1 hS => ?_)
            have hP := x_kp hP hk1
            clear ht hvm hB hz1 hk1 t u hPc
            generalize H1 = H at hP hS ⊢
            obtain rfl := hw.symm
            refine lv_imul hx hb dX9_joined_69 ?_
            refine lv_bipush (v := 8) hx hb dX9_joined_70 (by decide) ?_
            refine lv_iadd hx hb dX9_joined_72 ?_
            obtain rfl := Option.some.inj hf
            exact W.iret hx hb hr (fun t ht hW => ⟨⟨_, (), rfl, rfl, trivial⟩, hS.F ht⟩) hS.2.2 dX9_joined_73
      · replace hf := x_ip c_3 hf
        refine lv_iload_n hx hb dX9_joined_28 rfl (lv_at hl 2 rfl) ?_
        refine lv_bipush (v := 15) hx hb dX9_joined_29 (by decide) ?_
        refine lv_iand hx hb dX9_joined_31 ?_
        refine lv_bipush (v := 8) hx hb dX9_joined_32 (by decide) ?_
        refine lv_icmp_ne (tgt := 39) hx hb dX9_joined_34 (by decide) (fun c_7 => ?_) (fun c_7 => ?_)
        · replace hf := x_in c_7 hf
          refine lv_iload_n hx hb dX9_joined_39 rfl (lv_at hl 1 rfl) ?_
          refine lv_bipush (v := 15) hx hb dX9_joined_40 (by decide) ?_
          refine lv_iand hx hb dX9_joined_42 ?_
          refine lv_bipush (v := 8) hx hb dX9_joined_43 (by decide) ?_
          refine lv_icmp_ne (tgt := 74) hx hb dX9_joined_45 (by decide) (fun c_8 => ?_) (fun c_8 => ?_)
          · replace hf := x_in c_8 hf
            refine lv_iconst (v := (-1)) hx hb dX9_joined_74 (by decide) ?_
            obtain rfl := Option.some.inj hf
            exact W.iret hx hb hr (fun t ht hW => ⟨⟨_, (), rfl, rfl, trivial⟩, hS.F ht⟩) hS.2.2 dX9_joined_75
          · replace hf := x_ip c_8 hf
            refine lv_iload_n hx hb dX9_joined_48 rfl (lv_at hl 2 rfl) ?_
            refine lv_bipush (v := 15) hx hb dX9_joined_49 (by decide) ?_
            refine lv_iand hx hb dX9_joined_51 ?_
            refine lv_bipush (v := 8) hx hb dX9_joined_52 (by decide) ?_
            refine lv_icmp_ne (tgt := 74) hx hb dX9_joined_54 (by decide) (fun c_9 => ?_) (fun c_9 => ?_)
            · replace hf := x_in c_9 hf
              refine lv_iconst (v := (-1)) hx hb dX9_joined_74 (by decide) ?_
              obtain rfl := Option.some.inj hf
              exact W.iret hx hb hr (fun t ht hW => ⟨⟨_, (), rfl, rfl, trivial⟩, hS.F ht⟩) hS.2.2 dX9_joined_75
            · replace hf := x_ip c_9 hf
              refine lv_bipush (v := 16) hx hb dX9_joined_57 (by decide) ?_
              refine lv_aload_n hx hb dX9_joined_59 rfl (lv_at hl 0 rfl) ?_
              refine lv_iload_n hx hb dX9_joined_60 rfl (lv_at hl 1 rfl) ?_
              refine lv_iconst (v := 4) hx hb dX9_joined_61 (by decide) ?_
              refine lv_ishr hx hb dX9_joined_62 ?_
              refine lv_iload_n hx hb dX9_joined_63 rfl (lv_at hl 2 rfl) ?_
              refine lv_iconst (v := 4) hx hb dX9_joined_64 (by decide) ?_
              refine lv_ishr hx hb dX9_joined_65 ?_
              obtain ⟨r_10, h_10, hf⟩ := x_bi hf
              have hPc := hP.sub (ws' := [(o9, .inr (9, x_O9 v9_0 v9_1 v9_2 v9_3 a9_4 a9_5 a9_6 a9_7 a9_8 a9_9 a9_10 a9_11 a9_12 v9_13 v9_14 v9_15 v9_16 v9_17 v9_18 a9_19 v9_20 v9_21 v9_22 a9_23 a9_24 a9_25 a9_26 a9_27 a9_28 a9_29 a9_30 a9_31 a9_32 a9_33 a9_34 v9_35 v9_36 a9_37 a9_38 a9_39 a9_40 a9_41 v9_42 a9_43 a9_44 a9_45 a9_46 a9_47 v9_48 v9_49 v9_50 v9_51 a9_52 a9_53 v9_54 v9_55 a9_56 a9_57 v9_58 a9_59 a9_60 a9_61)), (a9_4, .inl (cyI, 200, .inl g9_4)), (a9_5, .inl (cyZ, 200, .inl g9_5))]) [0, 1, 2] rfl
              refine va_calli (va_runV (As := [.int (p1 >>> (4 &&& 31)), .int (p2 >>> (4 &&& 31))]) (rest := [.int 16]) ⟨hx, hb, hml, hown, hts⟩ (c_X9_shared l dC dI cyI cyZ cyJ H.size o9 v9_0 v9_1 v9_2 v9_3 a9_4 a9_5 a9_6 a9_7 a9_8 a9_9 a9_10 a9_11 a9_12 v9_13 v9_14 v9_15 v9_16 v9_17 v9_18 a9_19 v9_20 v9_21 v9_22 a9_23 a9_24 a9_25 a9_26 a9_27 a9_28 a9_29 a9_30 a9_31 a9_32 a9_33 a9_34 v9_35 v9_36 a9_37 a9_38 a9_39 a9_40 a9_41 v9_42 a9_43 a9_44 a9_45 a9_46 a9_47 v9_48 v9_49 v9_50 v9_51 a9_52 a9_53 v9_54 v9_55 a9_56 a9_57 v9_58 a9_59 a9_60 a9_61 g9_4 g9_5 (p1 >>> (4 &&& 31)) (p2 >>> (4 &&& 31)) r_10 h_10) (cwV 2 hts gX9_joined_X9_shared rfl rfl rfl (by decide +kernel) ⟨Nat.le_of_ble_eq_true rfl, Nat.le_of_ble_eq_true rfl⟩) (x_pV hN hK hPc (ci := 9) (q0 := 0) rfl rfl) rfl rfl hl.1 rfl (lv_room (Nat.le_of_ble_eq_true rfl)) dX9_joined_66 ⟨Nat.le_of_ble_eq_true rfl, Nat.le_of_ble_eq_true rfl⟩) hS x_nA (x_nf hA hS) (fun q_10 u t H1 locs ht hvm hw hB hz1 hk1 hS => ?_)
              have hP := x_kp hP hk1
              clear ht hvm hB hz1 hk1 t u hPc
              generalize H1 = H at hP hS ⊢
              obtain rfl := hw.symm
              refine lv_imul hx hb dX9_joined_69 ?_
              refine lv_bipush (v := 8) hx hb dX9_joined_70 (by decide) ?_
              refine lv_iadd hx hb dX9_joined_72 ?_
              obtain rfl := Option.some.inj hf
              exact W.iret hx hb hr (fun t ht hW => ⟨⟨_, (), rfl, rfl, trivial⟩, hS.F ht⟩) hS.2.2 dX9_joined_73
        · replace hf := x_ip c_7 hf
          refine lv_iload_n hx hb dX9_joined_37 rfl (lv_at hl 2 rfl) ?_
          obtain rfl := Option.some.inj hf
          exact W.iret hx hb hr (fun t ht hW => ⟨⟨_, (), rfl, rfl, trivial⟩, hS.F ht⟩) hS.2.2 dX9_joined_38
    · replace hf := x_ip c_2 hf
      refine lv_iload_n hx hb dX9_joined_16 rfl (lv_at hl 2 rfl) ?_
      refine lv_iconst (v := 5) hx hb dX9_joined_17 (by decide) ?_
      refine lv_icmp_ne (tgt := 23) hx hb dX9_joined_18 (by decide) (fun c_11 => ?_) (fun c_11 => ?_)
      · replace hf := x_in c_11 hf
        refine lv_iload_n hx hb dX9_joined_23 rfl (lv_at hl 1 rfl) ?_
        refine lv_iconst (v := 5) hx hb dX9_joined_24 (by decide) ?_
        refine lv_icmp_ne (tgt := 39) hx hb dX9_joined_25 (by decide) (fun c_12 => ?_) (fun c_12 => ?_)
        · replace hf := x_in c_12 hf
          refine lv_iload_n hx hb dX9_joined_39 rfl (lv_at hl 1 rfl) ?_
          refine lv_bipush (v := 15) hx hb dX9_joined_40 (by decide) ?_
          refine lv_iand hx hb dX9_joined_42 ?_
          refine lv_bipush (v := 8) hx hb dX9_joined_43 (by decide) ?_
          refine lv_icmp_ne (tgt := 74) hx hb dX9_joined_45 (by decide) (fun c_13 => ?_) (fun c_13 => ?_)
          · replace hf := x_in c_13 hf
            refine lv_iconst (v := (-1)) hx hb dX9_joined_74 (by decide) ?_
            obtain rfl := Option.some.inj hf
            exact W.iret hx hb hr (fun t ht hW => ⟨⟨_, (), rfl, rfl, trivial⟩, hS.F ht⟩) hS.2.2 dX9_joined_75
          · replace hf := x_ip c_13 hf
            refine lv_iload_n hx hb dX9_joined_48 rfl (lv_at hl 2 rfl) ?_
            refine lv_bipush (v := 15) hx hb dX9_joined_49 (by decide) ?_
            refine lv_iand hx hb dX9_joined_51 ?_
            refine lv_bipush (v := 8) hx hb dX9_joined_52 (by decide) ?_
            refine lv_icmp_ne (tgt := 74) hx hb dX9_joined_54 (by decide) (fun c_14 => ?_) (fun c_14 => ?_)
            · replace hf := x_in c_14 hf
              refine lv_iconst (v := (-1)) hx hb dX9_joined_74 (by decide) ?_
              obtain rfl := Option.some.inj hf
              exact W.iret hx hb hr (fun t ht hW => ⟨⟨_, (), rfl, rfl, trivial⟩, hS.F ht⟩) hS.2.2 dX9_joined_75
            · replace hf := x_ip c_14 hf
              refine lv_bipush (v := 16) hx hb dX9_joined_57 (by decide) ?_
              refine lv_aload_n hx hb dX9_joined_59 rfl (lv_at hl 0 rfl) ?_
              refine lv_iload_n hx hb dX9_joined_60 rfl (lv_at hl 1 rfl) ?_
              refine lv_iconst (v := 4) hx hb dX9_joined_61 (by decide) ?_
              refine lv_ishr hx hb dX9_joined_62 ?_
              refine lv_iload_n hx hb dX9_joined_63 rfl (lv_at hl 2 rfl) ?_
              refine lv_iconst (v := 4) hx hb dX9_joined_64 (by decide) ?_
              refine lv_ishr hx hb dX9_joined_65 ?_
              obtain ⟨r_15, h_15, hf⟩ := x_bi hf
              have hPc := hP.sub (ws' := [(o9, .inr (9, x_O9 v9_0 v9_1 v9_2 v9_3 a9_4 a9_5 a9_6 a9_7 a9_8 a9_9 a9_10 a9_11 a9_12 v9_13 v9_14 v9_15 v9_16 v9_17 v9_18 a9_19 v9_20 v9_21 v9_22 a9_23 a9_24 a9_25 a9_26 a9_27 a9_28 a9_29 a9_30 a9_31 a9_32 a9_33 a9_34 v9_35 v9_36 a9_37 a9_38 a9_39 a9_40 a9_41 v9_42 a9_43 a9_44 a9_45 a9_46 a9_47 v9_48 v9_49 v9_50 v9_51 a9_52 a9_53 v9_54 v9_55 a9_56 a9_57 v9_58 a9_59 a9_60 a9_61)), (a9_4, .inl (cyI, 200, .inl g9_4)), (a9_5, .inl (cyZ, 200, .inl g9_5))]) [0, 1, 2] rfl
              refine va_calli (va_runV (As := [.int (p1 >>> (4 &&& 31)), .int (p2 >>> (4 &&& 31))]) (rest := [.int 16]) ⟨hx, hb, hml, hown, hts⟩ (c_X9_shared l dC dI cyI cyZ cyJ H.size o9 v9_0 v9_1 v9_2 v9_3 a9_4 a9_5 a9_6 a9_7 a9_8 a9_9 a9_10 a9_11 a9_12 v9_13 v9_14 v9_15 v9_16 v9_17 v9_18 a9_19 v9_20 v9_21 v9_22 a9_23 a9_24 a9_25 a9_26 a9_27 a9_28 a9_29 a9_30 a9_31 a9_32 a9_33 a9_34 v9_35 v9_36 a9_37 a9_38 a9_39 a9_40 a9_41 v9_42 a9_43 a9_44 a9_45 a9_46 a9_47 v9_48 v9_49 v9_50 v9_51 a9_52 a9_53 v9_54 v9_55 a9_56 a9_57 v9_58 a9_59 a9_60 a9_61 g9_4 g9_5 (p1 >>> (4 &&& 31)) (p2 >>> (4 &&& 31)) r_15 h_15) (cwV 2 hts gX9_joined_X9_shared rfl rfl rfl (by decide +kernel) ⟨Nat.le_of_ble_eq_true rfl, Nat.le_of_ble_eq_true rfl⟩) (x_pV hN hK hPc (ci := 9) (q0 := 0) rfl rfl) rfl rfl hl.1 rfl (lv_room (Nat.le_of_ble_eq_true rfl)) dX9_joined_66 ⟨Nat.le_of_ble_eq_true rfl, Nat.le_of_ble_eq_true rfl⟩) hS x_nA (x_nf hA hS) (fun q_15 u t H1 locs ht hvm hw hB hz1 hk1 hS => ?_)
              have hP := x_kp hP hk1
              clear ht hvm hB hz1 hk1 t u hPc
              generalize H1 = H at hP hS ⊢
              obtain rfl := hw.symm
              refine lv_imul hx hb dX9_joined_69 ?_
              refine lv_bipush (v := 8) hx hb dX9_joined_70 (by decide) ?_
              refine lv_iadd hx hb dX9_joined_72 ?_
              obtain rfl := Option.some.inj hf
              exact W.iret hx hb hr (fun t ht hW => ⟨⟨_, (), rfl, rfl, trivial⟩, hS.F ht⟩) hS.2.2 dX9_joined_73
        · replace hf := x_ip c_12 hf
          refine lv_iload_n hx hb dX9_joined_28 rfl (lv_at hl 2 rfl) ?_
          refine lv_bipush (v := 15) hx hb dX9_joined_29 (by decide) ?_
          refine lv_iand hx hb dX9_joined_31 ?_
          refine lv_bipush (v := 8) hx hb dX9_joined_32 (by decide) ?_
          refine lv_icmp_ne (tgt := 39) hx hb dX9_joined_34 (by decide) (fun c_16 => ?_) (fun c_16 => ?_)
          · replace hf := x_in c_16 hf
            refine lv_iload_n hx hb dX9_joined_39 rfl (lv_at hl 1 rfl) ?_
            refine lv_bipush (v := 15) hx hb dX9_joined_40 (by decide) ?_
            refine lv_iand hx hb dX9_joined_42 ?_
            refine lv_bipush (v := 8) hx hb dX9_joined_43 (by decide) ?_
            refine lv_icmp_ne (tgt := 74) hx hb dX9_joined_45 (by decide) (fun c_17 => ?_) (fun c_17 => ?_)
            · replace hf := x_in c_17 hf
              refine lv_iconst (v := (-1)) hx hb dX9_joined_74 (by decide) ?_
              obtain rfl := Option.some.inj hf
              exact W.iret hx hb hr (fun t ht hW => ⟨⟨_, (), rfl, rfl, trivial⟩, hS.F ht⟩) hS.2.2 dX9_joined_75
            · replace hf := x_ip c_17 hf
              refine lv_iload_n hx hb dX9_joined_48 rfl (lv_at hl 2 rfl) ?_
              refine lv_bipush (v := 15) hx hb dX9_joined_49 (by decide) ?_
              refine lv_iand hx hb dX9_joined_51 ?_
              refine lv_bipush (v := 8) hx hb dX9_joined_52 (by decide) ?_
              refine lv_icmp_ne (tgt := 74) hx hb dX9_joined_54 (by decide) (fun c_18 => ?_) (fun c_18 => ?_)
              · replace hf := x_in c_18 hf
                refine lv_iconst (v := (-1)) hx hb dX9_joined_74 (by decide) ?_
                obtain rfl := Option.some.inj hf
                exact W.iret hx hb hr (fun t ht hW => ⟨⟨_, (), rfl, rfl, trivial⟩, hS.F ht⟩) hS.2.2 dX9_joined_75
              · replace hf := x_ip c_18 hf
                refine lv_bipush (v := 16) hx hb dX9_joined_57 (by decide) ?_
                refine lv_aload_n hx hb dX9_joined_59 rfl (lv_at hl 0 rfl) ?_
                refine lv_iload_n hx hb dX9_joined_60 rfl (lv_at hl 1 rfl) ?_
                refine lv_iconst (v := 4) hx hb dX9_joined_61 (by decide) ?_
                refine lv_ishr hx hb dX9_joined_62 ?_
                refine lv_iload_n hx hb dX9_joined_63 rfl (lv_at hl 2 rfl) ?_
                refine lv_iconst (v := 4) hx hb dX9_joined_64 (by decide) ?_
                refine lv_ishr hx hb dX9_joined_65 ?_
                obtain ⟨r_19, h_19, hf⟩ := x_bi hf
                have hPc := hP.sub (ws' := [(o9, .inr (9, x_O9 v9_0 v9_1 v9_2 v9_3 a9_4 a9_5 a9_6 a9_7 a9_8 a9_9 a9_10 a9_11 a9_12 v9_13 v9_14 v9_15 v9_16 v9_17 v9_18 a9_19 v9_20 v9_21 v9_22 a9_23 a9_24 a9_25 a9_26 a9_27 a9_28 a9_29 a9_30 a9_31 a9_32 a9_33 a9_34 v9_35 v9_36 a9_37 a9_38 a9_39 a9_40 a9_41 v9_42 a9_43 a9_44 a9_45 a9_46 a9_47 v9_48 v9_49 v9_50 v9_51 a9_52 a9_53 v9_54 v9_55 a9_56 a9_57 v9_58 a9_59 a9_60 a9_61)), (a9_4, .inl (cyI, 200, .inl g9_4)), (a9_5, .inl (cyZ, 200, .inl g9_5))]) [0, 1, 2] rfl
                refine va_calli (va_runV (As := [.int (p1 >>> (4 &&& 31)), .int (p2 >>> (4 &&& 31))]) (rest := [.int 16]) ⟨hx, hb, hml, hown, hts⟩ (c_X9_shared l dC dI cyI cyZ cyJ H.size o9 v9_0 v9_1 v9_2 v9_3 a9_4 a9_5 a9_6 a9_7 a9_8 a9_9 a9_10 a9_11 a9_12 v9_13 v9_14 v9_15 v9_16 v9_17 v9_18 a9_19 v9_20 v9_21 v9_22 a9_23 a9_24 a9_25 a9_26 a9_27 a9_28 a9_29 a9_30 a9_31 a9_32 a9_33 a9_34 v9_35 v9_36 a9_37 a9_38 a9_39 a9_40 a9_41 v9_42 a9_43 a9_44 a9_45 a9_46 a9_47 v9_48 v9_49 v9_50 v9_51 a9_52 a9_53 v9_54 v9_55 a9_56 a9_57 v9_58 a9_59 a9_60 a9_61 g9_4 g9_5 (p1 >>> (4 &&& 31)) (p2 >>> (4 &&& 31)) r_19 h_19) (cwV 2 hts gX9_joined_X9_shared rfl rfl rfl (by decide +kernel) ⟨Nat.le_of_ble_eq_true rfl, Nat.le_of_ble_eq_true rfl⟩) (x_pV hN hK hPc (ci := 9) (q0 := 0) rfl rfl) rfl rfl hl.1 rfl (lv_room (Nat.le_of_ble_eq_true rfl)) dX9_joined_66 ⟨Nat.le_of_ble_eq_true rfl, Nat.le_of_ble_eq_true rfl⟩) hS x_nA (x_nf hA hS) (fun q_19 u t H1 locs ht hvm hw hB hz1 hk1 hS => ?_)
                have hP := x_kp hP hk1
                clear ht hvm hB hz1 hk1 t u hPc
                generalize H1 = H at hP hS ⊢
                obtain rfl := hw.symm
                refine lv_imul hx hb dX9_joined_69 ?_
                refine lv_bipush (v := 8) hx hb dX9_joined_70 (by decide) ?_
                refine lv_iadd hx hb dX9_joined_72 ?_
                obtain rfl := Option.some.inj hf
                exact W.iret hx hb hr (fun t ht hW => ⟨⟨_, (), rfl, rfl, trivial⟩, hS.F ht⟩) hS.2.2 dX9_joined_73
          · replace hf := x_ip c_16 hf
            refine lv_iload_n hx hb dX9_joined_37 rfl (lv_at hl 2 rfl) ?_
            obtain rfl := Option.some.inj hf
            exact W.iret hx hb hr (fun t ht hW => ⟨⟨_, (), rfl, rfl, trivial⟩, hS.F ht⟩) hS.2.2 dX9_joined_38
      · replace hf := x_ip c_11 hf
        refine lv_iload_n hx hb dX9_joined_21 rfl (lv_at hl 1 rfl) ?_
        obtain rfl := Option.some.inj hf
        exact W.iret hx hb hr (fun t ht hW => ⟨⟨_, (), rfl, rfl, trivial⟩, hS.F ht⟩) hS.2.2 dX9_joined_22
  · replace hf := x_ip c_1 hf
    refine lv_iload_n hx hb dX9_joined_5 rfl (lv_at hl 1 rfl) ?_
    obtain rfl := Option.some.inj hf
    exact W.iret hx hb hr (fun t ht hW => ⟨⟨_, (), rfl, rfl, trivial⟩, hS.F ht⟩) hS.2.2 dX9_joined_6

def f_X9_waits (v9_54 : Int32) (v9_55 : Int32) (g9_47 : Nat → Int32) (g9_53 : Nat → Int32) (p1 : Int32) : Option (Int32 × (Nat → Int32) × (Nat → Int32)) := if x_gd p1 20010 = true then if (g9_47 (Int32.toNatClampNeg p1)) = (0 : Int32) then if x_gd p1 20010 = true then if x_gd ((v9_54 + v9_55) - (v9_54 + v9_55) / (20010 : Int32) * (20010 : Int32)) 20010 = true then some (v9_55 + (1 : Int32), upd g9_47 (Int32.toNatClampNeg p1) (vp_nar .boolean 1), upd g9_53 (Int32.toNatClampNeg ((v9_54 + v9_55) - (v9_54 + v9_55) / (20010 : Int32) * (20010 : Int32))) p1) else none else none else some (v9_55, g9_47, g9_53) else none
theorem i_X9_waits_X9 : ∀ w ∈ wsX90, w ∈ wsX9_waits := fun _ h => List.mem_cons_of_mem _ (List.mem_append_right _ h)
set_option maxHeartbeats 4000000 in
set_option maxRecDepth 100000 in
theorem c_X9_waits (l : Launch) (dC : Nat → ClassId) (dI : Nat → Nat → Nat) (cyI cyZ cyJ : ClassId) (sz : Nat) (o9 : Nat) (v9_0 : Int32) (v9_1 : Int32) (v9_2 : Int32) (v9_3 : Int32) (a9_4 : Nat) (a9_5 : Nat) (a9_6 : Nat) (a9_7 : Nat) (a9_8 : Nat) (a9_9 : Nat) (a9_10 : Nat) (a9_11 : Nat) (a9_12 : Nat) (v9_13 : Int32) (v9_14 : Int32) (v9_15 : Int32) (v9_16 : Int32) (v9_17 : Int32) (v9_18 : Int32) (a9_19 : Nat) (v9_20 : Int32) (v9_21 : Int32) (v9_22 : Int32) (a9_23 : Nat) (a9_24 : Nat) (a9_25 : Nat) (a9_26 : Nat) (a9_27 : Nat) (a9_28 : Nat) (a9_29 : Nat) (a9_30 : Nat) (a9_31 : Nat) (a9_32 : Nat) (a9_33 : Nat) (a9_34 : Nat) (v9_35 : Int32) (v9_36 : Int32) (a9_37 : Nat) (a9_38 : Nat) (a9_39 : Nat) (a9_40 : Nat) (a9_41 : Nat) (v9_42 : Int32) (a9_43 : Nat) (a9_44 : Nat) (a9_45 : Nat) (a9_46 : Nat) (a9_47 : Nat) (v9_48 : Int32) (v9_49 : Int32) (v9_50 : Int32) (v9_51 : Int32) (a9_52 : Nat) (a9_53 : Nat) (v9_54 : Int32) (v9_55 : Int32) (a9_56 : Nat) (a9_57 : Nat) (v9_58 : Int32) (a9_59 : Nat) (a9_60 : Nat) (a9_61 : Nat) (g9_47 : Nat → Int32) (g9_53 : Nat → Int32) (p1 : Int32) (R : Int32 × (Nat → Int32) × (Nat → Int32)) (hf : f_X9_waits v9_54 v9_55 g9_47 g9_53 p1 = some R) : Met l yX9_waits wsX9_waits ({ frames := 0, cells := 0, slots := 0, locals := 0 }) (va_Pc [.ref o9, .int p1] (x_PreD (dC, dI) (x_T cyI cyZ cyJ) [(o9, .inr (9, x_O9 v9_0 v9_1 v9_2 v9_3 a9_4 a9_5 a9_6 a9_7 a9_8 a9_9 a9_10 a9_11 a9_12 v9_13 v9_14 v9_15 v9_16 v9_17 v9_18 a9_19 v9_20 v9_21 v9_22 a9_23 a9_24 a9_25 a9_26 a9_27 a9_28 a9_29 a9_30 a9_31 a9_32 a9_33 a9_34 v9_35 v9_36 a9_37 a9_38 a9_39 a9_40 a9_41 v9_42 a9_43 a9_44 a9_45 a9_46 a9_47 v9_48 v9_49 v9_50 v9_51 a9_52 a9_53 v9_54 v9_55 a9_56 a9_57 v9_58 a9_59 a9_60 a9_61)), (a9_47, .inl (cyZ, 20010, .inl g9_47)), (a9_53, .inl (cyI, 20010, .inl g9_53))] sz)) (va_Qv (fun _ : Unit => True) (fun (_ : Unit) (t : State) => va_P (dC, dI) vwCl [(o9, .inr (9, x_O9 v9_0 v9_1 v9_2 v9_3 a9_4 a9_5 a9_6 a9_7 a9_8 a9_9 a9_10 a9_11 a9_12 v9_13 v9_14 v9_15 v9_16 v9_17 v9_18 a9_19 v9_20 v9_21 v9_22 a9_23 a9_24 a9_25 a9_26 a9_27 a9_28 a9_29 a9_30 a9_31 a9_32 a9_33 a9_34 v9_35 v9_36 a9_37 a9_38 a9_39 a9_40 a9_41 v9_42 a9_43 a9_44 a9_45 a9_46 a9_47 v9_48 v9_49 v9_50 v9_51 a9_52 a9_53 v9_54 (R.1) a9_56 a9_57 v9_58 a9_59 a9_60 a9_61)), (a9_47, .inl (cyZ, 20010, .inl R.2.1)), (a9_53, .inl (cyI, 20010, .inl R.2.2))] t.heap ∧ va_K (dC, dI) vwCl (x_T cyI cyZ cyJ) t ∧ va_D (va_A [(o9, .inr (9, x_O9 v9_0 v9_1 v9_2 v9_3 a9_4 a9_5 a9_6 a9_7 a9_8 a9_9 a9_10 a9_11 a9_12 v9_13 v9_14 v9_15 v9_16 v9_17 v9_18 a9_19 v9_20 v9_21 v9_22 a9_23 a9_24 a9_25 a9_26 a9_27 a9_28 a9_29 a9_30 a9_31 a9_32 a9_33 a9_34 v9_35 v9_36 a9_37 a9_38 a9_39 a9_40 a9_41 v9_42 a9_43 a9_44 a9_45 a9_46 a9_47 v9_48 v9_49 v9_50 v9_51 a9_52 a9_53 v9_54 v9_55 a9_56 a9_57 v9_58 a9_59 a9_60 a9_61)), (a9_47, .inl (cyZ, 20010, .inl g9_47)), (a9_53, .inl (cyI, 20010, .inl g9_53))] sz) [(o9, .inr (9, x_O9 v9_0 v9_1 v9_2 v9_3 a9_4 a9_5 a9_6 a9_7 a9_8 a9_9 a9_10 a9_11 a9_12 v9_13 v9_14 v9_15 v9_16 v9_17 v9_18 a9_19 v9_20 v9_21 v9_22 a9_23 a9_24 a9_25 a9_26 a9_27 a9_28 a9_29 a9_30 a9_31 a9_32 a9_33 a9_34 v9_35 v9_36 a9_37 a9_38 a9_39 a9_40 a9_41 v9_42 a9_43 a9_44 a9_45 a9_46 a9_47 v9_48 v9_49 v9_50 v9_51 a9_52 a9_53 v9_54 (R.1) a9_56 a9_57 v9_58 a9_59 a9_60 a9_61)), (a9_47, .inl (cyZ, 20010, .inl R.2.1)), (a9_53, .inl (cyI, 20010, .inl R.2.2))]) (va_A [(o9, .inr (9, x_O9 v9_0 v9_1 v9_2 v9_3 a9_4 a9_5 a9_6 a9_7 a9_8 a9_9 a9_10 a9_11 a9_12 v9_13 v9_14 v9_15 v9_16 v9_17 v9_18 a9_19 v9_20 v9_21 v9_22 a9_23 a9_24 a9_25 a9_26 a9_27 a9_28 a9_29 a9_30 a9_31 a9_32 a9_33 a9_34 v9_35 v9_36 a9_37 a9_38 a9_39 a9_40 a9_41 v9_42 a9_43 a9_44 a9_45 a9_46 a9_47 v9_48 v9_49 v9_50 v9_51 a9_52 a9_53 v9_54 v9_55 a9_56 a9_57 v9_58 a9_59 a9_60 a9_61)), (a9_47, .inl (cyZ, 20010, .inl g9_47)), (a9_53, .inl (cyI, 20010, .inl g9_53))] sz)) 0 0 (va_A [(o9, .inr (9, x_O9 v9_0 v9_1 v9_2 v9_3 a9_4 a9_5 a9_6 a9_7 a9_8 a9_9 a9_10 a9_11 a9_12 v9_13 v9_14 v9_15 v9_16 v9_17 v9_18 a9_19 v9_20 v9_21 v9_22 a9_23 a9_24 a9_25 a9_26 a9_27 a9_28 a9_29 a9_30 a9_31 a9_32 a9_33 a9_34 v9_35 v9_36 a9_37 a9_38 a9_39 a9_40 a9_41 v9_42 a9_43 a9_44 a9_45 a9_46 a9_47 v9_48 v9_49 v9_50 v9_51 a9_52 a9_53 v9_54 v9_55 a9_56 a9_57 v9_58 a9_59 a9_60 a9_61)), (a9_47, .inl (cyZ, 20010, .inl g9_47)), (a9_53, .inl (cyI, 20010, .inl g9_53))] sz) := by
  refine Met.ofW (cc := cX9_waits) (maxL := 2) (ret := none) (by decide) rfl ?_
  intro p e s m args below meth c s₁ B hml hv
  obtain ⟨rfl, ⟨hsz, hP, hK, hN⟩, hD0⟩ := hv
  have hx := B.exec
  have hb := B.bytes
  have hr := B.returns
  have hts := atoms_spec (ws := wsX9_waits) B.pre
  have hown : s.vm.findClass RX9 = some m.cls := findClass_of_methodNamed B.named
  have k_1 := hts (.fieldLink RX9 115 "FlowJudgeModel" "sWaits" "[Z") (by decide +kernel)
  have k_2 := hts (.fieldLink RX9 121 "FlowJudgeModel" "queue" "[I") (by decide +kernel)
  have k_3 := hts (.fieldLink RX9 254 "FlowJudgeModel" "first" "I") (by decide +kernel)
  have k_4 := hts (.fieldLink RX9 257 "FlowJudgeModel" "waiting" "I") (by decide +kernel)
  subst hsz
  have hD := hD0.self (sz := s.heap.size)
  generalize hAe : va_A [(o9, .inr (9, x_O9 v9_0 v9_1 v9_2 v9_3 a9_4 a9_5 a9_6 a9_7 a9_8 a9_9 a9_10 a9_11 a9_12 v9_13 v9_14 v9_15 v9_16 v9_17 v9_18 a9_19 v9_20 v9_21 v9_22 a9_23 a9_24 a9_25 a9_26 a9_27 a9_28 a9_29 a9_30 a9_31 a9_32 a9_33 a9_34 v9_35 v9_36 a9_37 a9_38 a9_39 a9_40 a9_41 v9_42 a9_43 a9_44 a9_45 a9_46 a9_47 v9_48 v9_49 v9_50 v9_51 a9_52 a9_53 v9_54 v9_55 a9_56 a9_57 v9_58 a9_59 a9_60 a9_61)), (a9_47, .inl (cyZ, 20010, .inl g9_47)), (a9_53, .inl (cyI, 20010, .inl g9_53))] s.heap.size = A at hD ⊢
  have hA : ∀ q : Nat, s.heap.size ≤ q → A q := fun q h => by rw [← hAe]; exact Or.inr h
  have hP : va_P (dC, dI) vwCl [(o9, .inr (9, x_O9 v9_0 v9_1 v9_2 v9_3 a9_4 a9_5 a9_6 a9_7 a9_8 a9_9 a9_10 a9_11 a9_12 v9_13 v9_14 v9_15 v9_16 v9_17 v9_18 a9_19 v9_20 v9_21 v9_22 a9_23 a9_24 a9_25 a9_26 a9_27 a9_28 a9_29 a9_30 a9_31 a9_32 a9_33 a9_34 v9_35 v9_36 a9_37 a9_38 a9_39 a9_40 a9_41 v9_42 a9_43 a9_44 a9_45 a9_46 a9_47 v9_48 v9_49 v9_50 v9_51 a9_52 a9_53 v9_54 v9_55 a9_56 a9_57 v9_58 a9_59 a9_60 a9_61)), (a9_47, .inl (cyZ, 20010, .inl g9_47)), (a9_53, .inl (cyI, 20010, .inl g9_53))] s.heap := hP
  have hl := lv_entry ([.ref o9, .int p1]) (n := 2) (Nat.le_of_ble_eq_true rfl)
  rw [lg_entry_eq]
  generalize (lg_sl ([.ref o9, .int p1]) ++ List.replicate (2 - (lg_sl ([.ref o9, .int p1])).length) Slot.unset).toArray = ls at hl ⊢
  have hl : lv_has ls 2 [(0, .ref o9), (1, .int p1)] := hl
  obtain ⟨H, hH⟩ : ∃ z, z = s.heap := ⟨_, rfl⟩
  refine x_here hH ?_
  have hP : va_P (dC, dI) vwCl [(o9, .inr (9, x_O9 v9_0 v9_1 v9_2 v9_3 a9_4 a9_5 a9_6 a9_7 a9_8 a9_9 a9_10 a9_11 a9_12 v9_13 v9_14 v9_15 v9_16 v9_17 v9_18 a9_19 v9_20 v9_21 v9_22 a9_23 a9_24 a9_25 a9_26 a9_27 a9_28 a9_29 a9_30 a9_31 a9_32 a9_33 a9_34 v9_35 v9_36 a9_37 a9_38 a9_39 a9_40 a9_41 v9_42 a9_43 a9_44 a9_45 a9_46 a9_47 v9_48 v9_49 v9_50 v9_51 a9_52 a9_53 v9_54 v9_55 a9_56 a9_57 v9_58 a9_59 a9_60 a9_61)), (a9_47, .inl (cyZ, 20010, .inl g9_47)), (a9_53, .inl (cyI, 20010, .inl g9_53))] H := by rw [hH]; exact hP
  have hS : va_S A s.heap H [] := by rw [hH]; exact va_S.rf
  clear hH
  obtain ⟨locs, hlo⟩ : ∃ z : List Loc, z = [] := ⟨_, rfl⟩
  refine x_herl hlo ?_
  have hS : va_S A s.heap H locs := by rw [hlo]; exact hS
  clear hlo
  unfold f_X9_waits at hf
  refine lv_aload_n hx hb dX9_waits_0 rfl (lv_at hl 0 rfl) ?_
  refine va_get (D := (dC, dI)) (ci := 9) (v := .ref a9_47) (C := RX9) (T := TX9) (N := 62) hx hb hts i_X9_waits_X9 hown hK hP 0 rfl rfl 47 (by decide) k_1 (fun _ h9 => h9) rfl dX9_waits_1 ?_
  refine lv_iload_n hx hb dX9_waits_4 rfl (lv_at hl 1 rfl) ?_
  obtain ⟨g_1, hf⟩ := x_gu hf
  refine va_zald hx hb hK hP 1 1 rfl rfl (x_gdin g_1) dX9_waits_5 ?_
  refine lv_if_eq (tgt := 10) hx hb dX9_waits_6 (by decide) (fun c_2 => ?_) (fun c_2 => ?_)
  · replace hf := x_ip c_2 hf
    refine lv_aload_n hx hb dX9_waits_10 rfl (lv_at hl 0 rfl) ?_
    refine va_get (D := (dC, dI)) (ci := 9) (v := .ref a9_47) (C := RX9) (T := TX9) (N := 62) hx hb hts i_X9_waits_X9 hown hK hP 0 rfl rfl 47 (by decide) k_1 (fun _ h9 => h9) rfl dX9_waits_11 ?_
    refine lv_iload_n hx hb dX9_waits_14 rfl (lv_at hl 1 rfl) ?_
    refine lv_iconst (v := 1) hx hb dX9_waits_15 (by decide) ?_
    obtain ⟨g_3, hf⟩ := x_gu hf
    refine va_zast hx hb hK hP hD hS 1 1 rfl rfl (x_gdin g_3) dX9_waits_16 (fun H locs hP hD hS => ?_)
    have hP : va_P (dC, dI) vwCl [(o9, .inr (9, x_O9 v9_0 v9_1 v9_2 v9_3 a9_4 a9_5 a9_6 a9_7 a9_8 a9_9 a9_10 a9_11 a9_12 v9_13 v9_14 v9_15 v9_16 v9_17 v9_18 a9_19 v9_20 v9_21 v9_22 a9_23 a9_24 a9_25 a9_26 a9_27 a9_28 a9_29 a9_30 a9_31 a9_32 a9_33 a9_34 v9_35 v9_36 a9_37 a9_38 a9_39 a9_40 a9_41 v9_42 a9_43 a9_44 a9_45 a9_46 a9_47 v9_48 v9_49 v9_50 v9_51 a9_52 a9_53 v9_54 v9_55 a9_56 a9_57 v9_58 a9_59 a9_60 a9_61)), (a9_47, .inl (cyZ, 20010, .inl (upd g9_47 (Int32.toNatClampNeg p1) (vp_nar .boolean 1)))), (a9_53, .inl (cyI, 20010, .inl g9_53))] H := hP
    have hD : va_D A [(o9, .inr (9, x_O9 v9_0 v9_1 v9_2 v9_3 a9_4 a9_5 a9_6 a9_7 a9_8 a9_9 a9_10 a9_11 a9_12 v9_13 v9_14 v9_15 v9_16 v9_17 v9_18 a9_19 v9_20 v9_21 v9_22 a9_23 a9_24 a9_25 a9_26 a9_27 a9_28 a9_29 a9_30 a9_31 a9_32 a9_33 a9_34 v9_35 v9_36 a9_37 a9_38 a9_39 a9_40 a9_41 v9_42 a9_43 a9_44 a9_45 a9_46 a9_47 v9_48 v9_49 v9_50 v9_51 a9_52 a9_53 v9_54 v9_55 a9_56 a9_57 v9_58 a9_59 a9_60 a9_61)), (a9_47, .inl (cyZ, 20010, .inl (upd g9_47 (Int32.toNatClampNeg p1) (vp_nar .boolean 1)))), (a9_53, .inl (cyI, 20010, .inl g9_53))] := hD
    refine lv_aload_n hx hb dX9_waits_17 rfl (lv_at hl 0 rfl) ?_
    refine va_get (D := (dC, dI)) (ci := 9) (v := .ref a9_53) (C := RX9) (T := TX9) (N := 62) hx hb hts i_X9_waits_X9 hown hK hP 0 rfl rfl 53 (by decide) k_2 (fun _ h9 => h9) rfl dX9_waits_18 ?_
    refine lv_aload_n hx hb dX9_waits_21 rfl (lv_at hl 0 rfl) ?_
    refine va_get (D := (dC, dI)) (ci := 9) (v := .int v9_54) (C := RX9) (T := TX9) (N := 62) hx hb hts i_X9_waits_X9 hown hK hP 0 rfl rfl 54 (by decide) k_3 (fun _ h9 => h9) rfl dX9_waits_22 ?_
    refine lv_aload_n hx hb dX9_waits_25 rfl (lv_at hl 0 rfl) ?_
    refine va_get (D := (dC, dI)) (ci := 9) (v := .int v9_55) (C := RX9) (T := TX9) (N := 62) hx hb hts i_X9_waits_X9 hown hK hP 0 rfl rfl 55 (by decide) k_4 (fun _ h9 => h9) rfl dX9_waits_26 ?_
    refine lv_iadd hx hb dX9_waits_29 ?_
    refine lv_sipush (v := 20010) hx hb dX9_waits_30 (by decide) ?_
    refine lv_irem hx hb dX9_waits_33 (by decide) ?_
    refine lv_iload_n hx hb dX9_waits_34 rfl (lv_at hl 1 rfl) ?_
    obtain ⟨g_4, hf⟩ := x_gu hf
    refine va_iast hx hb hK hP hD hS 2 0 rfl rfl (x_gdin g_4) dX9_waits_35 (fun H locs hP hD hS => ?_)
    have hP : va_P (dC, dI) vwCl [(o9, .inr (9, x_O9 v9_0 v9_1 v9_2 v9_3 a9_4 a9_5 a9_6 a9_7 a9_8 a9_9 a9_10 a9_11 a9_12 v9_13 v9_14 v9_15 v9_16 v9_17 v9_18 a9_19 v9_20 v9_21 v9_22 a9_23 a9_24 a9_25 a9_26 a9_27 a9_28 a9_29 a9_30 a9_31 a9_32 a9_33 a9_34 v9_35 v9_36 a9_37 a9_38 a9_39 a9_40 a9_41 v9_42 a9_43 a9_44 a9_45 a9_46 a9_47 v9_48 v9_49 v9_50 v9_51 a9_52 a9_53 v9_54 v9_55 a9_56 a9_57 v9_58 a9_59 a9_60 a9_61)), (a9_47, .inl (cyZ, 20010, .inl (upd g9_47 (Int32.toNatClampNeg p1) (vp_nar .boolean 1)))), (a9_53, .inl (cyI, 20010, .inl (upd g9_53 (Int32.toNatClampNeg ((v9_54 + v9_55) - (v9_54 + v9_55) / (20010 : Int32) * (20010 : Int32))) p1)))] H := hP
    have hD : va_D A [(o9, .inr (9, x_O9 v9_0 v9_1 v9_2 v9_3 a9_4 a9_5 a9_6 a9_7 a9_8 a9_9 a9_10 a9_11 a9_12 v9_13 v9_14 v9_15 v9_16 v9_17 v9_18 a9_19 v9_20 v9_21 v9_22 a9_23 a9_24 a9_25 a9_26 a9_27 a9_28 a9_29 a9_30 a9_31 a9_32 a9_33 a9_34 v9_35 v9_36 a9_37 a9_38 a9_39 a9_40 a9_41 v9_42 a9_43 a9_44 a9_45 a9_46 a9_47 v9_48 v9_49 v9_50 v9_51 a9_52 a9_53 v9_54 v9_55 a9_56 a9_57 v9_58 a9_59 a9_60 a9_61)), (a9_47, .inl (cyZ, 20010, .inl (upd g9_47 (Int32.toNatClampNeg p1) (vp_nar .boolean 1)))), (a9_53, .inl (cyI, 20010, .inl (upd g9_53 (Int32.toNatClampNeg ((v9_54 + v9_55) - (v9_54 + v9_55) / (20010 : Int32) * (20010 : Int32))) p1)))] := hD
    refine lv_aload_n hx hb dX9_waits_36 rfl (lv_at hl 0 rfl) ?_
    refine lv_dup hx hb dX9_waits_37 rfl ?_
    refine va_get (D := (dC, dI)) (ci := 9) (v := .int v9_55) (C := RX9) (T := TX9) (N := 62) hx hb hts i_X9_waits_X9 hown hK hP 0 rfl rfl 55 (by decide) k_4 (fun _ h9 => h9) rfl dX9_waits_38 ?_
    refine lv_iconst (v := 1) hx hb dX9_waits_41 (by decide) ?_
    refine lv_iadd hx hb dX9_waits_42 ?_
    refine va_put (D := (dC, dI)) (ci := 9) (v := .int (v9_55 + (1 : Int32))) (ty := .int) (C := RX9) (T := TX9) (N := 62) hx hb hts i_X9_waits_X9 tyX9 tyX9_ok nmX9 hown hK hP hD hS 0 rfl rfl 55 (by decide) k_4 (fun _ h9 => h9) rfl (by decide +kernel) rfl rfl (Nat.le_of_ble_eq_true rfl) dX9_waits_43 (fun H locs hP hD hS => ?_)
    have hP : va_P (dC, dI) vwCl [(o9, .inr (9, x_O9 v9_0 v9_1 v9_2 v9_3 a9_4 a9_5 a9_6 a9_7 a9_8 a9_9 a9_10 a9_11 a9_12 v9_13 v9_14 v9_15 v9_16 v9_17 v9_18 a9_19 v9_20 v9_21 v9_22 a9_23 a9_24 a9_25 a9_26 a9_27 a9_28 a9_29 a9_30 a9_31 a9_32 a9_33 a9_34 v9_35 v9_36 a9_37 a9_38 a9_39 a9_40 a9_41 v9_42 a9_43 a9_44 a9_45 a9_46 a9_47 v9_48 v9_49 v9_50 v9_51 a9_52 a9_53 v9_54 (v9_55 + (1 : Int32)) a9_56 a9_57 v9_58 a9_59 a9_60 a9_61)), (a9_47, .inl (cyZ, 20010, .inl (upd g9_47 (Int32.toNatClampNeg p1) (vp_nar .boolean 1)))), (a9_53, .inl (cyI, 20010, .inl (upd g9_53 (Int32.toNatClampNeg ((v9_54 + v9_55) - (v9_54 + v9_55) / (20010 : Int32) * (20010 : Int32))) p1)))] H := hP
    have hD : va_D A [(o9, .inr (9, x_O9 v9_0 v9_1 v9_2 v9_3 a9_4 a9_5 a9_6 a9_7 a9_8 a9_9 a9_10 a9_11 a9_12 v9_13 v9_14 v9_15 v9_16 v9_17 v9_18 a9_19 v9_20 v9_21 v9_22 a9_23 a9_24 a9_25 a9_26 a9_27 a9_28 a9_29 a9_30 a9_31 a9_32 a9_33 a9_34 v9_35 v9_36 a9_37 a9_38 a9_39 a9_40 a9_41 v9_42 a9_43 a9_44 a9_45 a9_46 a9_47 v9_48 v9_49 v9_50 v9_51 a9_52 a9_53 v9_54 (v9_55 + (1 : Int32)) a9_56 a9_57 v9_58 a9_59 a9_60 a9_61)), (a9_47, .inl (cyZ, 20010, .inl (upd g9_47 (Int32.toNatClampNeg p1) (vp_nar .boolean 1)))), (a9_53, .inl (cyI, 20010, .inl (upd g9_53 (Int32.toNatClampNeg ((v9_54 + v9_55) - (v9_54 + v9_55) / (20010 : Int32) * (20010 : Int32))) p1)))] := hD
    obtain rfl := Option.some.inj hf
    have hP9 := hP.sub (ws' := [(o9, .inr (9, x_O9 v9_0 v9_1 v9_2 v9_3 a9_4 a9_5 a9_6 a9_7 a9_8 a9_9 a9_10 a9_11 a9_12 v9_13 v9_14 v9_15 v9_16 v9_17 v9_18 a9_19 v9_20 v9_21 v9_22 a9_23 a9_24 a9_25 a9_26 a9_27 a9_28 a9_29 a9_30 a9_31 a9_32 a9_33 a9_34 v9_35 v9_36 a9_37 a9_38 a9_39 a9_40 a9_41 v9_42 a9_43 a9_44 a9_45 a9_46 a9_47 v9_48 v9_49 v9_50 v9_51 a9_52 a9_53 v9_54 (v9_55 + (1 : Int32)) a9_56 a9_57 v9_58 a9_59 a9_60 a9_61)), (a9_47, .inl (cyZ, 20010, .inl (upd g9_47 (Int32.toNatClampNeg p1) (vp_nar .boolean 1)))), (a9_53, .inl (cyI, 20010, .inl (upd g9_53 (Int32.toNatClampNeg ((v9_54 + v9_55) - (v9_54 + v9_55) / (20010 : Int32) * (20010 : Int32))) p1)))]) [0, 1, 2] rfl
    have hD9 := hD.sub (ws' := [(o9, .inr (9, x_O9 v9_0 v9_1 v9_2 v9_3 a9_4 a9_5 a9_6 a9_7 a9_8 a9_9 a9_10 a9_11 a9_12 v9_13 v9_14 v9_15 v9_16 v9_17 v9_18 a9_19 v9_20 v9_21 v9_22 a9_23 a9_24 a9_25 a9_26 a9_27 a9_28 a9_29 a9_30 a9_31 a9_32 a9_33 a9_34 v9_35 v9_36 a9_37 a9_38 a9_39 a9_40 a9_41 v9_42 a9_43 a9_44 a9_45 a9_46 a9_47 v9_48 v9_49 v9_50 v9_51 a9_52 a9_53 v9_54 (v9_55 + (1 : Int32)) a9_56 a9_57 v9_58 a9_59 a9_60 a9_61)), (a9_47, .inl (cyZ, 20010, .inl (upd g9_47 (Int32.toNatClampNeg p1) (vp_nar .boolean 1)))), (a9_53, .inl (cyI, 20010, .inl (upd g9_53 (Int32.toNatClampNeg ((v9_54 + v9_55) - (v9_54 + v9_55) / (20010 : Int32) * (20010 : Int32))) p1)))]) [0, 1, 2] (by decide) rfl
    exact W.vret hx hb hr (fun t ht hW => ⟨⟨(), rfl, trivial, by rw [ht]; exact hP9, va_K.moved hW.alike hK, hD9⟩, hS.F ht⟩) hS.2.2 dX9_waits_46
  · replace hf := x_in c_2 hf
    obtain rfl := Option.some.inj hf
    have hP9 := hP.sub (ws' := [(o9, .inr (9, x_O9 v9_0 v9_1 v9_2 v9_3 a9_4 a9_5 a9_6 a9_7 a9_8 a9_9 a9_10 a9_11 a9_12 v9_13 v9_14 v9_15 v9_16 v9_17 v9_18 a9_19 v9_20 v9_21 v9_22 a9_23 a9_24 a9_25 a9_26 a9_27 a9_28 a9_29 a9_30 a9_31 a9_32 a9_33 a9_34 v9_35 v9_36 a9_37 a9_38 a9_39 a9_40 a9_41 v9_42 a9_43 a9_44 a9_45 a9_46 a9_47 v9_48 v9_49 v9_50 v9_51 a9_52 a9_53 v9_54 v9_55 a9_56 a9_57 v9_58 a9_59 a9_60 a9_61)), (a9_47, .inl (cyZ, 20010, .inl g9_47)), (a9_53, .inl (cyI, 20010, .inl g9_53))]) [0, 1, 2] rfl
    have hD9 := hD.sub (ws' := [(o9, .inr (9, x_O9 v9_0 v9_1 v9_2 v9_3 a9_4 a9_5 a9_6 a9_7 a9_8 a9_9 a9_10 a9_11 a9_12 v9_13 v9_14 v9_15 v9_16 v9_17 v9_18 a9_19 v9_20 v9_21 v9_22 a9_23 a9_24 a9_25 a9_26 a9_27 a9_28 a9_29 a9_30 a9_31 a9_32 a9_33 a9_34 v9_35 v9_36 a9_37 a9_38 a9_39 a9_40 a9_41 v9_42 a9_43 a9_44 a9_45 a9_46 a9_47 v9_48 v9_49 v9_50 v9_51 a9_52 a9_53 v9_54 v9_55 a9_56 a9_57 v9_58 a9_59 a9_60 a9_61)), (a9_47, .inl (cyZ, 20010, .inl g9_47)), (a9_53, .inl (cyI, 20010, .inl g9_53))]) [0, 1, 2] (by decide) rfl
    exact W.vret hx hb hr (fun t ht hW => ⟨⟨(), rfl, trivial, by rw [ht]; exact hP9, va_K.moved hW.alike hK, hD9⟩, hS.F ht⟩) hS.2.2 dX9_waits_9

