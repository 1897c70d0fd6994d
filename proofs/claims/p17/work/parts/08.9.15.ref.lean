def f_X9_context_L (v9_49 : Int32) (g9_37 : Nat → Int32) (g9_38 : Nat → Int32) (g9_39 : Nat → Int32) (g9_44 : Nat → Int32) (g9_52 : Nat → Int32) (l2 : Int32) (v9_0 : Int32) (z : Nat × Int32) : Option (Int32 × Int32) := match z with
  | (q, l3) => if q = 0 then if x_gd l3 20010 = true then if (g9_39 (Int32.toNatClampNeg l3)) ≤ (l2 + (1 : Int32)) then if x_gd l3 20010 = true then some (g9_37 (Int32.toNatClampNeg l3), v9_0) else none else if x_gd l3 20010 = true then (f_X9_context_L v9_49 g9_37 g9_38 g9_39 g9_44 g9_52 l2 v9_0 (0, g9_38 (Int32.toNatClampNeg l3))) else none else none else none
partial_fixpoint
def f_X9_context (v9_0 : Int32) (v9_49 : Int32) (g9_37 : Nat → Int32) (g9_38 : Nat → Int32) (g9_39 : Nat → Int32) (g9_44 : Nat → Int32) (g9_52 : Nat → Int32) (p1 : Int32) (p2 : Int32) : Option (Int32 × Int32) := if p1 < (0 : Int32) then some (-1, 0) else if v9_49 ≤ p1 then some (-1, 0) else if (0 : Int32) ≤ p2 then if x_gd p1 20010 = true then if x_gd (g9_52 (Int32.toNatClampNeg p1)) 20010 = true then if x_gd (g9_44 (Int32.toNatClampNeg (g9_52 (Int32.toNatClampNeg p1)))) 20010 = true then if p2 < (g9_39 (Int32.toNatClampNeg (g9_44 (Int32.toNatClampNeg (g9_52 (Int32.toNatClampNeg p1)))))) then (f_X9_context_L v9_49 g9_37 g9_38 g9_39 g9_44 g9_52 p2 0 (0, g9_44 (Int32.toNatClampNeg (g9_52 (Int32.toNatClampNeg p1))))) else some (-1, 0) else none else none else none else some (-1, 0)
theorem i_X9_context_X9 : ∀ w ∈ wsX90, w ∈ wsX9_context := fun _ h => List.mem_cons_of_mem _ (List.mem_append_right _ h)
set_option maxHeartbeats 4000000 in
set_option maxRecDepth 100000 in
theorem c_X9_context (l : Launch) (dC : Nat → ClassId) (dI : Nat → Nat → Nat) (cyI cyZ cyJ : ClassId) (sz : Nat) (o9 : Nat) (v9_0 : Int32) (v9_1 : Int32) (v9_2 : Int32) (v9_3 : Int32) (a9_4 : Nat) (a9_5 : Nat) (a9_6 : Nat) (a9_7 : Nat) (a9_8 : Nat) (a9_9 : Nat) (a9_10 : Nat) (a9_11 : Nat) (a9_12 : Nat) (v9_13 : Int32) (v9_14 : Int32) (v9_15 : Int32) (v9_16 : Int32) (v9_17 : Int32) (v9_18 : Int32) (a9_19 : Nat) (v9_20 : Int32) (v9_21 : Int32) (v9_22 : Int32) (a9_23 : Nat) (a9_24 : Nat) (a9_25 : Nat) (a9_26 : Nat) (a9_27 : Nat) (a9_28 : Nat) (a9_29 : Nat) (a9_30 : Nat) (a9_31 : Nat) (a9_32 : Nat) (a9_33 : Nat) (a9_34 : Nat) (v9_35 : Int32) (v9_36 : Int32) (a9_37 : Nat) (a9_38 : Nat) (a9_39 : Nat) (a9_40 : Nat) (a9_41 : Nat) (v9_42 : Int32) (a9_43 : Nat) (a9_44 : Nat) (a9_45 : Nat) (a9_46 : Nat) (a9_47 : Nat) (v9_48 : Int32) (v9_49 : Int32) (v9_50 : Int32) (v9_51 : Int32) (a9_52 : Nat) (a9_53 : Nat) (v9_54 : Int32) (v9_55 : Int32) (a9_56 : Nat) (a9_57 : Nat) (v9_58 : Int32) (a9_59 : Nat) (a9_60 : Nat) (a9_61 : Nat) (g9_37 : Nat → Int32) (g9_38 : Nat → Int32) (g9_39 : Nat → Int32) (g9_44 : Nat → Int32) (g9_52 : Nat → Int32) (p1 : Int32) (p2 : Int32) (R : Int32 × Int32) (hf : f_X9_context v9_0 v9_49 g9_37 g9_38 g9_39 g9_44 g9_52 p1 p2 = some R) : Met l yX9_context wsX9_context ({ frames := 0, cells := 0, slots := 0, locals := 0 }) (va_Pc [.ref o9, .int p1, .int p2] (x_PreD (dC, dI) (x_T cyI cyZ cyJ) [(o9, .inr (9, x_O9 v9_0 v9_1 v9_2 v9_3 a9_4 a9_5 a9_6 a9_7 a9_8 a9_9 a9_10 a9_11 a9_12 v9_13 v9_14 v9_15 v9_16 v9_17 v9_18 a9_19 v9_20 v9_21 v9_22 a9_23 a9_24 a9_25 a9_26 a9_27 a9_28 a9_29 a9_30 a9_31 a9_32 a9_33 a9_34 v9_35 v9_36 a9_37 a9_38 a9_39 a9_40 a9_41 v9_42 a9_43 a9_44 a9_45 a9_46 a9_47 v9_48 v9_49 v9_50 v9_51 a9_52 a9_53 v9_54 v9_55 a9_56 a9_57 v9_58 a9_59 a9_60 a9_61)), (a9_37, .inl (cyI, 20010, .inl g9_37)), (a9_38, .inl (cyI, 20010, .inl g9_38)), (a9_39, .inl (cyI, 20010, .inl g9_39)), (a9_44, .inl (cyI, 20010, .inl g9_44)), (a9_52, .inl (cyI, 20010, .inl g9_52))] sz)) (va_Qi (fun (r : Int32) (_ : Unit) => r = R.1) (fun (_ : Unit) (t : State) => va_P (dC, dI) vwCl [(o9, .inr (9, x_O9 (R.2) v9_1 v9_2 v9_3 a9_4 a9_5 a9_6 a9_7 a9_8 a9_9 a9_10 a9_11 a9_12 v9_13 v9_14 v9_15 v9_16 v9_17 v9_18 a9_19 v9_20 v9_21 v9_22 a9_23 a9_24 a9_25 a9_26 a9_27 a9_28 a9_29 a9_30 a9_31 a9_32 a9_33 a9_34 v9_35 v9_36 a9_37 a9_38 a9_39 a9_40 a9_41 v9_42 a9_43 a9_44 a9_45 a9_46 a9_47 v9_48 v9_49 v9_50 v9_51 a9_52 a9_53 v9_54 v9_55 a9_56 a9_57 v9_58 a9_59 a9_60 a9_61)), (a9_37, .inl (cyI, 20010, .inl g9_37)), (a9_38, .inl (cyI, 20010, .inl g9_38)), (a9_39, .inl (cyI, 20010, .inl g9_39)), (a9_44, .inl (cyI, 20010, .inl g9_44)), (a9_52, .inl (cyI, 20010, .inl g9_52))] t.heap ∧ va_K (dC, dI) vwCl (x_T cyI cyZ cyJ) t ∧ va_D (va_A [(o9, .inr (9, x_O9 v9_0 v9_1 v9_2 v9_3 a9_4 a9_5 a9_6 a9_7 a9_8 a9_9 a9_10 a9_11 a9_12 v9_13 v9_14 v9_15 v9_16 v9_17 v9_18 a9_19 v9_20 v9_21 v9_22 a9_23 a9_24 a9_25 a9_26 a9_27 a9_28 a9_29 a9_30 a9_31 a9_32 a9_33 a9_34 v9_35 v9_36 a9_37 a9_38 a9_39 a9_40 a9_41 v9_42 a9_43 a9_44 a9_45 a9_46 a9_47 v9_48 v9_49 v9_50 v9_51 a9_52 a9_53 v9_54 v9_55 a9_56 a9_57 v9_58 a9_59 a9_60 a9_61)), (a9_37, .inl (cyI, 20010, .inl g9_37)), (a9_38, .inl (cyI, 20010, .inl g9_38)), (a9_39, .inl (cyI, 20010, .inl g9_39)), (a9_44, .inl (cyI, 20010, .inl g9_44)), (a9_52, .inl (cyI, 20010, .inl g9_52))] sz) [(o9, .inr (9, x_O9 (R.2) v9_1 v9_2 v9_3 a9_4 a9_5 a9_6 a9_7 a9_8 a9_9 a9_10 a9_11 a9_12 v9_13 v9_14 v9_15 v9_16 v9_17 v9_18 a9_19 v9_20 v9_21 v9_22 a9_23 a9_24 a9_25 a9_26 a9_27 a9_28 a9_29 a9_30 a9_31 a9_32 a9_33 a9_34 v9_35 v9_36 a9_37 a9_38 a9_39 a9_40 a9_41 v9_42 a9_43 a9_44 a9_45 a9_46 a9_47 v9_48 v9_49 v9_50 v9_51 a9_52 a9_53 v9_54 v9_55 a9_56 a9_57 v9_58 a9_59 a9_60 a9_61)), (a9_37, .inl (cyI, 20010, .inl g9_37)), (a9_38, .inl (cyI, 20010, .inl g9_38)), (a9_39, .inl (cyI, 20010, .inl g9_39)), (a9_44, .inl (cyI, 20010, .inl g9_44)), (a9_52, .inl (cyI, 20010, .inl g9_52))]) (va_A [(o9, .inr (9, x_O9 v9_0 v9_1 v9_2 v9_3 a9_4 a9_5 a9_6 a9_7 a9_8 a9_9 a9_10 a9_11 a9_12 v9_13 v9_14 v9_15 v9_16 v9_17 v9_18 a9_19 v9_20 v9_21 v9_22 a9_23 a9_24 a9_25 a9_26 a9_27 a9_28 a9_29 a9_30 a9_31 a9_32 a9_33 a9_34 v9_35 v9_36 a9_37 a9_38 a9_39 a9_40 a9_41 v9_42 a9_43 a9_44 a9_45 a9_46 a9_47 v9_48 v9_49 v9_50 v9_51 a9_52 a9_53 v9_54 v9_55 a9_56 a9_57 v9_58 a9_59 a9_60 a9_61)), (a9_37, .inl (cyI, 20010, .inl g9_37)), (a9_38, .inl (cyI, 20010, .inl g9_38)), (a9_39, .inl (cyI, 20010, .inl g9_39)), (a9_44, .inl (cyI, 20010, .inl g9_44)), (a9_52, .inl (cyI, 20010, .inl g9_52))] sz)) 0 0 (va_A [(o9, .inr (9, x_O9 v9_0 v9_1 v9_2 v9_3 a9_4 a9_5 a9_6 a9_7 a9_8 a9_9 a9_10 a9_11 a9_12 v9_13 v9_14 v9_15 v9_16 v9_17 v9_18 a9_19 v9_20 v9_21 v9_22 a9_23 a9_24 a9_25 a9_26 a9_27 a9_28 a9_29 a9_30 a9_31 a9_32 a9_33 a9_34 v9_35 v9_36 a9_37 a9_38 a9_39 a9_40 a9_41 v9_42 a9_43 a9_44 a9_45 a9_46 a9_47 v9_48 v9_49 v9_50 v9_51 a9_52 a9_53 v9_54 v9_55 a9_56 a9_57 v9_58 a9_59 a9_60 a9_61)), (a9_37, .inl (cyI, 20010, .inl g9_37)), (a9_38, .inl (cyI, 20010, .inl g9_38)), (a9_39, .inl (cyI, 20010, .inl g9_39)), (a9_44, .inl (cyI, 20010, .inl g9_44)), (a9_52, .inl (cyI, 20010, .inl g9_52))] sz) := by
  refine Met.ofW (cc := cX9_context) (maxL := 4) (ret := (some .int)) (by decide) rfl ?_
  intro p e s m args below meth c s₁ B hml hv
  obtain ⟨rfl, ⟨hsz, hP, hK, hN⟩, hD0⟩ := hv
  have hx := B.exec
  have hb := B.bytes
  have hr := B.returns
  have hts := atoms_spec (ws := wsX9_context) B.pre
  have hown : s.vm.findClass RX9 = some m.cls := findClass_of_methodNamed B.named
  have k_1 := hts (.fieldLink RX9 94 "FlowJudgeModel" "xDeep" "[I") (by decide +kernel)
  have k_2 := hts (.fieldLink RX9 88 "FlowJudgeModel" "xAddr" "[I") (by decide +kernel)
  have k_3 := hts (.fieldLink RX9 91 "FlowJudgeModel" "xBefore" "[I") (by decide +kernel)
  have k_4 := hts (.fieldLink RX9 1 "FlowJudgeModel" "thrown" "I") (by decide +kernel)
  have k_5 := hts (.fieldLink RX9 260 "FlowJudgeModel" "told" "I") (by decide +kernel)
  have k_6 := hts (.fieldLink RX9 106 "FlowJudgeModel" "sContext" "[I") (by decide +kernel)
  have k_7 := hts (.fieldLink RX9 118 "FlowJudgeModel" "order" "[I") (by decide +kernel)
  subst hsz
  have hD := hD0.self (sz := s.heap.size)
  generalize hAe : va_A [(o9, .inr (9, x_O9 v9_0 v9_1 v9_2 v9_3 a9_4 a9_5 a9_6 a9_7 a9_8 a9_9 a9_10 a9_11 a9_12 v9_13 v9_14 v9_15 v9_16 v9_17 v9_18 a9_19 v9_20 v9_21 v9_22 a9_23 a9_24 a9_25 a9_26 a9_27 a9_28 a9_29 a9_30 a9_31 a9_32 a9_33 a9_34 v9_35 v9_36 a9_37 a9_38 a9_39 a9_40 a9_41 v9_42 a9_43 a9_44 a9_45 a9_46 a9_47 v9_48 v9_49 v9_50 v9_51 a9_52 a9_53 v9_54 v9_55 a9_56 a9_57 v9_58 a9_59 a9_60 a9_61)), (a9_37, .inl (cyI, 20010, .inl g9_37)), (a9_38, .inl (cyI, 20010, .inl g9_38)), (a9_39, .inl (cyI, 20010, .inl g9_39)), (a9_44, .inl (cyI, 20010, .inl g9_44)), (a9_52, .inl (cyI, 20010, .inl g9_52))] s.heap.size = A at hD ⊢
  have hA : ∀ q : Nat, s.heap.size ≤ q → A q := fun q h => by rw [← hAe]; exact Or.inr h
  have hP : va_P (dC, dI) vwCl [(o9, .inr (9, x_O9 v9_0 v9_1 v9_2 v9_3 a9_4 a9_5 a9_6 a9_7 a9_8 a9_9 a9_10 a9_11 a9_12 v9_13 v9_14 v9_15 v9_16 v9_17 v9_18 a9_19 v9_20 v9_21 v9_22 a9_23 a9_24 a9_25 a9_26 a9_27 a9_28 a9_29 a9_30 a9_31 a9_32 a9_33 a9_34 v9_35 v9_36 a9_37 a9_38 a9_39 a9_40 a9_41 v9_42 a9_43 a9_44 a9_45 a9_46 a9_47 v9_48 v9_49 v9_50 v9_51 a9_52 a9_53 v9_54 v9_55 a9_56 a9_57 v9_58 a9_59 a9_60 a9_61)), (a9_37, .inl (cyI, 20010, .inl g9_37)), (a9_38, .inl (cyI, 20010, .inl g9_38)), (a9_39, .inl (cyI, 20010, .inl g9_39)), (a9_44, .inl (cyI, 20010, .inl g9_44)), (a9_52, .inl (cyI, 20010, .inl g9_52))] s.heap := hP
  have hl := lv_entry ([.ref o9, .int p1, .int p2]) (n := 4) (Nat.le_of_ble_eq_true rfl)
  rw [lg_entry_eq]
  generalize (lg_sl ([.ref o9, .int p1, .int p2]) ++ List.replicate (4 - (lg_sl ([.ref o9, .int p1, .int p2])).length) Slot.unset).toArray = ls at hl ⊢
  have hl : lv_has ls 4 [(0, .ref o9), (1, .int p1), (2, .int p2)] := hl
  obtain ⟨H, hH⟩ : ∃ z, z = s.heap := ⟨_, rfl⟩
  refine x_here hH ?_
  have hP : va_P (dC, dI) vwCl [(o9, .inr (9, x_O9 v9_0 v9_1 v9_2 v9_3 a9_4 a9_5 a9_6 a9_7 a9_8 a9_9 a9_10 a9_11 a9_12 v9_13 v9_14 v9_15 v9_16 v9_17 v9_18 a9_19 v9_20 v9_21 v9_22 a9_23 a9_24 a9_25 a9_26 a9_27 a9_28 a9_29 a9_30 a9_31 a9_32 a9_33 a9_34 v9_35 v9_36 a9_37 a9_38 a9_39 a9_40 a9_41 v9_42 a9_43 a9_44 a9_45 a9_46 a9_47 v9_48 v9_49 v9_50 v9_51 a9_52 a9_53 v9_54 v9_55 a9_56 a9_57 v9_58 a9_59 a9_60 a9_61)), (a9_37, .inl (cyI, 20010, .inl g9_37)), (a9_38, .inl (cyI, 20010, .inl g9_38)), (a9_39, .inl (cyI, 20010, .inl g9_39)), (a9_44, .inl (cyI, 20010, .inl g9_44)), (a9_52, .inl (cyI, 20010, .inl g9_52))] H := by rw [hH]; exact hP
  have hS : va_S A s.heap H [] := by rw [hH]; exact va_S.rf
  clear hH
  obtain ⟨locs, hlo⟩ : ∃ z : List Loc, z = [] := ⟨_, rfl⟩
  refine x_herl hlo ?_
  have hS : va_S A s.heap H locs := by rw [hlo]; exact hS
  clear hlo
  unfold f_X9_context at hf
  refine x_wn (fun WW hWW => ?_)
  have J := fun (l2 : Int32) (v9_0 : Int32) => f_X9_context_L.partial_correctness v9_49 g9_37 g9_38 g9_39 g9_44 g9_52 l2 v9_0 (fun (z : Nat × Int32) (r : Int32 × Int32) => r = R → ∀ (q : Nat) (l3 : Int32), z = (q, l3) → ((q = 0 → ∀ (H : Heap) (locs : List Loc) (ls : Array Slot), va_P (dC, dI) vwCl [(o9, .inr (9, x_O9 v9_0 v9_1 v9_2 v9_3 a9_4 a9_5 a9_6 a9_7 a9_8 a9_9 a9_10 a9_11 a9_12 v9_13 v9_14 v9_15 v9_16 v9_17 v9_18 a9_19 v9_20 v9_21 v9_22 a9_23 a9_24 a9_25 a9_26 a9_27 a9_28 a9_29 a9_30 a9_31 a9_32 a9_33 a9_34 v9_35 v9_36 a9_37 a9_38 a9_39 a9_40 a9_41 v9_42 a9_43 a9_44 a9_45 a9_46 a9_47 v9_48 v9_49 v9_50 v9_51 a9_52 a9_53 v9_54 v9_55 a9_56 a9_57 v9_58 a9_59 a9_60 a9_61)), (a9_37, .inl (cyI, 20010, .inl g9_37)), (a9_38, .inl (cyI, 20010, .inl g9_38)), (a9_39, .inl (cyI, 20010, .inl g9_39)), (a9_44, .inl (cyI, 20010, .inl g9_44)), (a9_52, .inl (cyI, 20010, .inl g9_52))] H → va_D A [(o9, .inr (9, x_O9 v9_0 v9_1 v9_2 v9_3 a9_4 a9_5 a9_6 a9_7 a9_8 a9_9 a9_10 a9_11 a9_12 v9_13 v9_14 v9_15 v9_16 v9_17 v9_18 a9_19 v9_20 v9_21 v9_22 a9_23 a9_24 a9_25 a9_26 a9_27 a9_28 a9_29 a9_30 a9_31 a9_32 a9_33 a9_34 v9_35 v9_36 a9_37 a9_38 a9_39 a9_40 a9_41 v9_42 a9_43 a9_44 a9_45 a9_46 a9_47 v9_48 v9_49 v9_50 v9_51 a9_52 a9_53 v9_54 v9_55 a9_56 a9_57 v9_58 a9_59 a9_60 a9_61)), (a9_37, .inl (cyI, 20010, .inl g9_37)), (a9_38, .inl (cyI, 20010, .inl g9_38)), (a9_39, .inl (cyI, 20010, .inl g9_39)), (a9_44, .inl (cyI, 20010, .inl g9_44)), (a9_52, .inl (cyI, 20010, .inl g9_52))] → va_S A s.heap H locs → lv_has ls 4 [(0, .ref o9), (2, .int l2), (3, .int l3)] → WW H locs 0 0 (F0 m 47 ls [])))) (by
    intro F ih z r hf hr q l3 hz
    subst hz
    obtain rfl := hr
    · intro hq H locs ls hP hD hS hl
      subst hq
      refine (hWW _ _ _ _ _).mp ?_
      replace hf := x_ip rfl hf
      refine lv_aload_n hx hb dX9_context_47 rfl (lv_at hl 0 rfl) ?_
      refine va_get (D := (dC, dI)) (ci := 9) (v := .ref a9_39) (C := RX9) (T := TX9) (N := 62) hx hb hts i_X9_context_X9 hown hK hP 0 rfl rfl 39 (by decide) k_1 (fun _ h9 => h9) rfl dX9_context_48 ?_
      refine lv_iload_n hx hb dX9_context_51 rfl (lv_at hl 2 rfl) ?_
      obtain ⟨g_1, hf⟩ := x_gu hf
      refine va_iald hx hb hK hP 3 0 rfl rfl (x_gdin g_1) dX9_context_52 ?_
      refine lv_iload_n hx hb dX9_context_53 rfl (lv_at hl 1 rfl) ?_
      refine lv_iconst (v := 1) hx hb dX9_context_54 (by decide) ?_
      refine lv_iadd hx hb dX9_context_55 ?_
      refine lv_icmp_le (tgt := 69) hx hb dX9_context_56 (by decide) (fun c_2 => ?_) (fun c_2 => ?_)
      · replace hf := x_ip c_2 hf
        refine lv_aload_n hx hb dX9_context_69 rfl (lv_at hl 0 rfl) ?_
        refine va_get (D := (dC, dI)) (ci := 9) (v := .ref a9_37) (C := RX9) (T := TX9) (N := 62) hx hb hts i_X9_context_X9 hown hK hP 0 rfl rfl 37 (by decide) k_2 (fun _ h9 => h9) rfl dX9_context_70 ?_
        refine lv_iload_n hx hb dX9_context_73 rfl (lv_at hl 2 rfl) ?_
        obtain ⟨g_3, hf⟩ := x_gu hf
        refine va_iald hx hb hK hP 1 0 rfl rfl (x_gdin g_3) dX9_context_74 ?_
        obtain rfl := Option.some.inj hf
        have hP9 := hP.sub (ws' := [(o9, .inr (9, x_O9 v9_0 v9_1 v9_2 v9_3 a9_4 a9_5 a9_6 a9_7 a9_8 a9_9 a9_10 a9_11 a9_12 v9_13 v9_14 v9_15 v9_16 v9_17 v9_18 a9_19 v9_20 v9_21 v9_22 a9_23 a9_24 a9_25 a9_26 a9_27 a9_28 a9_29 a9_30 a9_31 a9_32 a9_33 a9_34 v9_35 v9_36 a9_37 a9_38 a9_39 a9_40 a9_41 v9_42 a9_43 a9_44 a9_45 a9_46 a9_47 v9_48 v9_49 v9_50 v9_51 a9_52 a9_53 v9_54 v9_55 a9_56 a9_57 v9_58 a9_59 a9_60 a9_61)), (a9_37, .inl (cyI, 20010, .inl g9_37)), (a9_38, .inl (cyI, 20010, .inl g9_38)), (a9_39, .inl (cyI, 20010, .inl g9_39)), (a9_44, .inl (cyI, 20010, .inl g9_44)), (a9_52, .inl (cyI, 20010, .inl g9_52))]) [0, 1, 2, 3, 4, 5] rfl
        have hD9 := hD.sub (ws' := [(o9, .inr (9, x_O9 v9_0 v9_1 v9_2 v9_3 a9_4 a9_5 a9_6 a9_7 a9_8 a9_9 a9_10 a9_11 a9_12 v9_13 v9_14 v9_15 v9_16 v9_17 v9_18 a9_19 v9_20 v9_21 v9_22 a9_23 a9_24 a9_25 a9_26 a9_27 a9_28 a9_29 a9_30 a9_31 a9_32 a9_33 a9_34 v9_35 v9_36 a9_37 a9_38 a9_39 a9_40 a9_41 v9_42 a9_43 a9_44 a9_45 a9_46 a9_47 v9_48 v9_49 v9_50 v9_51 a9_52 a9_53 v9_54 v9_55 a9_56 a9_57 v9_58 a9_59 a9_60 a9_61)), (a9_37, .inl (cyI, 20010, .inl g9_37)), (a9_38, .inl (cyI, 20010, .inl g9_38)), (a9_39, .inl (cyI, 20010, .inl g9_39)), (a9_44, .inl (cyI, 20010, .inl g9_44)), (a9_52, .inl (cyI, 20010, .inl g9_52))]) [0, 1, 2, 3, 4, 5] (by decide) rfl
        exact W.iret hx hb hr (fun t ht hW => ⟨⟨_, (), rfl, rfl, by rw [ht]; exact hP9, va_K.moved hW.alike hK, hD9⟩, hS.F ht⟩) hS.2.2 dX9_context_75
      · replace hf := x_in c_2 hf
        refine lv_aload_n hx hb dX9_context_59 rfl (lv_at hl 0 rfl) ?_
        refine va_get (D := (dC, dI)) (ci := 9) (v := .ref a9_38) (C := RX9) (T := TX9) (N := 62) hx hb hts i_X9_context_X9 hown hK hP 0 rfl rfl 38 (by decide) k_3 (fun _ h9 => h9) rfl dX9_context_60 ?_
        refine lv_iload_n hx hb dX9_context_63 rfl (lv_at hl 2 rfl) ?_
        obtain ⟨g_4, hf⟩ := x_gu hf
        refine va_iald hx hb hK hP 2 0 rfl rfl (x_gdin g_4) dX9_context_64 ?_
        refine lv_istore_n (lv' := [(3, .int (g9_38 (Int32.toNatClampNeg l3))), (0, .ref o9), (2, .int l2)]) hx hb dX9_context_65 rfl hl (by decide) rfl (fun ls hl => ?_)
        refine lv_goto (tgt := 47) hx hb dX9_context_66 (by decide) ?_
        exact (hWW _ _ _ _ _).mpr ((ih (0, g9_38 (Int32.toNatClampNeg l3)) _ hf rfl _ _ rfl) rfl H locs ls hP hD hS (lv_sub hl [1, 2, 0] rfl)))
  refine lv_aload_n hx hb dX9_context_0 rfl (lv_at hl 0 rfl) ?_
  refine lv_iconst (v := 0) hx hb dX9_context_1 (by decide) ?_
  refine va_put (D := (dC, dI)) (ci := 9) (v := .int 0) (ty := .int) (C := RX9) (T := TX9) (N := 62) hx hb hts i_X9_context_X9 tyX9 tyX9_ok nmX9 hown hK hP hD hS 0 rfl rfl 0 (by decide) k_4 (fun _ h9 => h9) rfl (by decide +kernel) rfl rfl (Nat.le_of_ble_eq_true rfl) dX9_context_2 (fun H locs hP hD hS => ?_)
  have hP : va_P (dC, dI) vwCl [(o9, .inr (9, x_O9 0 v9_1 v9_2 v9_3 a9_4 a9_5 a9_6 a9_7 a9_8 a9_9 a9_10 a9_11 a9_12 v9_13 v9_14 v9_15 v9_16 v9_17 v9_18 a9_19 v9_20 v9_21 v9_22 a9_23 a9_24 a9_25 a9_26 a9_27 a9_28 a9_29 a9_30 a9_31 a9_32 a9_33 a9_34 v9_35 v9_36 a9_37 a9_38 a9_39 a9_40 a9_41 v9_42 a9_43 a9_44 a9_45 a9_46 a9_47 v9_48 v9_49 v9_50 v9_51 a9_52 a9_53 v9_54 v9_55 a9_56 a9_57 v9_58 a9_59 a9_60 a9_61)), (a9_37, .inl (cyI, 20010, .inl g9_37)), (a9_38, .inl (cyI, 20010, .inl g9_38)), (a9_39, .inl (cyI, 20010, .inl g9_39)), (a9_44, .inl (cyI, 20010, .inl g9_44)), (a9_52, .inl (cyI, 20010, .inl g9_52))] H := hP
  have hD : va_D A [(o9, .inr (9, x_O9 0 v9_1 v9_2 v9_3 a9_4 a9_5 a9_6 a9_7 a9_8 a9_9 a9_10 a9_11 a9_12 v9_13 v9_14 v9_15 v9_16 v9_17 v9_18 a9_19 v9_20 v9_21 v9_22 a9_23 a9_24 a9_25 a9_26 a9_27 a9_28 a9_29 a9_30 a9_31 a9_32 a9_33 a9_34 v9_35 v9_36 a9_37 a9_38 a9_39 a9_40 a9_41 v9_42 a9_43 a9_44 a9_45 a9_46 a9_47 v9_48 v9_49 v9_50 v9_51 a9_52 a9_53 v9_54 v9_55 a9_56 a9_57 v9_58 a9_59 a9_60 a9_61)), (a9_37, .inl (cyI, 20010, .inl g9_37)), (a9_38, .inl (cyI, 20010, .inl g9_38)), (a9_39, .inl (cyI, 20010, .inl g9_39)), (a9_44, .inl (cyI, 20010, .inl g9_44)), (a9_52, .inl (cyI, 20010, .inl g9_52))] := hD
  refine lv_iload_n hx hb dX9_context_5 rfl (lv_at hl 1 rfl) ?_
  refine lv_if_lt (tgt := 21) hx hb dX9_context_6 (by decide) (fun c_5 => ?_) (fun c_5 => ?_)
  · replace hf := x_ip c_5 hf
    refine lv_iconst (v := (-1)) hx hb dX9_context_21 (by decide) ?_
    obtain rfl := Option.some.inj hf
    have hP9 := hP.sub (ws' := [(o9, .inr (9, x_O9 0 v9_1 v9_2 v9_3 a9_4 a9_5 a9_6 a9_7 a9_8 a9_9 a9_10 a9_11 a9_12 v9_13 v9_14 v9_15 v9_16 v9_17 v9_18 a9_19 v9_20 v9_21 v9_22 a9_23 a9_24 a9_25 a9_26 a9_27 a9_28 a9_29 a9_30 a9_31 a9_32 a9_33 a9_34 v9_35 v9_36 a9_37 a9_38 a9_39 a9_40 a9_41 v9_42 a9_43 a9_44 a9_45 a9_46 a9_47 v9_48 v9_49 v9_50 v9_51 a9_52 a9_53 v9_54 v9_55 a9_56 a9_57 v9_58 a9_59 a9_60 a9_61)), (a9_37, .inl (cyI, 20010, .inl g9_37)), (a9_38, .inl (cyI, 20010, .inl g9_38)), (a9_39, .inl (cyI, 20010, .inl g9_39)), (a9_44, .inl (cyI, 20010, .inl g9_44)), (a9_52, .inl (cyI, 20010, .inl g9_52))]) [0, 1, 2, 3, 4, 5] rfl
    have hD9 := hD.sub (ws' := [(o9, .inr (9, x_O9 0 v9_1 v9_2 v9_3 a9_4 a9_5 a9_6 a9_7 a9_8 a9_9 a9_10 a9_11 a9_12 v9_13 v9_14 v9_15 v9_16 v9_17 v9_18 a9_19 v9_20 v9_21 v9_22 a9_23 a9_24 a9_25 a9_26 a9_27 a9_28 a9_29 a9_30 a9_31 a9_32 a9_33 a9_34 v9_35 v9_36 a9_37 a9_38 a9_39 a9_40 a9_41 v9_42 a9_43 a9_44 a9_45 a9_46 a9_47 v9_48 v9_49 v9_50 v9_51 a9_52 a9_53 v9_54 v9_55 a9_56 a9_57 v9_58 a9_59 a9_60 a9_61)), (a9_37, .inl (cyI, 20010, .inl g9_37)), (a9_38, .inl (cyI, 20010, .inl g9_38)), (a9_39, .inl (cyI, 20010, .inl g9_39)), (a9_44, .inl (cyI, 20010, .inl g9_44)), (a9_52, .inl (cyI, 20010, .inl g9_52))]) [0, 1, 2, 3, 4, 5] (by decide) rfl
    exact W.iret hx hb hr (fun t ht hW => ⟨⟨_, (), rfl, rfl, by rw [ht]; exact hP9, va_K.moved hW.alike hK, hD9⟩, hS.F ht⟩) hS.2.2 dX9_context_22
  · replace hf := x_in c_5 hf
    refine lv_iload_n hx hb dX9_context_9 rfl (lv_at hl 1 rfl) ?_
    refine lv_aload_n hx hb dX9_context_10 rfl (lv_at hl 0 rfl) ?_
    refine va_get (D := (dC, dI)) (ci := 9) (v := .int v9_49) (C := RX9) (T := TX9) (N := 62) hx hb hts i_X9_context_X9 hown hK hP 0 rfl rfl 49 (by decide) k_5 (fun _ h9 => h9) rfl dX9_context_11 ?_
    refine lv_icmp_ge (tgt := 21) hx hb dX9_context_14 (by decide) (fun c_6 => ?_) (fun c_6 => ?_)
    · replace hf := x_ip c_6 hf
      refine lv_iconst (v := (-1)) hx hb dX9_context_21 (by decide) ?_
      obtain rfl := Option.some.inj hf
      have hP9 := hP.sub (ws' := [(o9, .inr (9, x_O9 0 v9_1 v9_2 v9_3 a9_4 a9_5 a9_6 a9_7 a9_8 a9_9 a9_10 a9_11 a9_12 v9_13 v9_14 v9_15 v9_16 v9_17 v9_18 a9_19 v9_20 v9_21 v9_22 a9_23 a9_24 a9_25 a9_26 a9_27 a9_28 a9_29 a9_30 a9_31 a9_32 a9_33 a9_34 v9_35 v9_36 a9_37 a9_38 a9_39 a9_40 a9_41 v9_42 a9_43 a9_44 a9_45 a9_46 a9_47 v9_48 v9_49 v9_50 v9_51 a9_52 a9_53 v9_54 v9_55 a9_56 a9_57 v9_58 a9_59 a9_60 a9_61)), (a9_37, .inl (cyI, 20010, .inl g9_37)), (a9_38, .inl (cyI, 20010, .inl g9_38)), (a9_39, .inl (cyI, 20010, .inl g9_39)), (a9_44, .inl (cyI, 20010, .inl g9_44)), (a9_52, .inl (cyI, 20010, .inl g9_52))]) [0, 1, 2, 3, 4, 5] rfl
      have hD9 := hD.sub (ws' := [(o9, .inr (9, x_O9 0 v9_1 v9_2 v9_3 a9_4 a9_5 a9_6 a9_7 a9_8 a9_9 a9_10 a9_11 a9_12 v9_13 v9_14 v9_15 v9_16 v9_17 v9_18 a9_19 v9_20 v9_21 v9_22 a9_23 a9_24 a9_25 a9_26 a9_27 a9_28 a9_29 a9_30 a9_31 a9_32 a9_33 a9_34 v9_35 v9_36 a9_37 a9_38 a9_39 a9_40 a9_41 v9_42 a9_43 a9_44 a9_45 a9_46 a9_47 v9_48 v9_49 v9_50 v9_51 a9_52 a9_53 v9_54 v9_55 a9_56 a9_57 v9_58 a9_59 a9_60 a9_61)), (a9_37, .inl (cyI, 20010, .inl g9_37)), (a9_38, .inl (cyI, 20010, .inl g9_38)), (a9_39, .inl (cyI, 20010, .inl g9_39)), (a9_44, .inl (cyI, 20010, .inl g9_44)), (a9_52, .inl (cyI, 20010, .inl g9_52))]) [0, 1, 2, 3, 4, 5] (by decide) rfl
      exact W.iret hx hb hr (fun t ht hW => ⟨⟨_, (), rfl, rfl, by rw [ht]; exact hP9, va_K.moved hW.alike hK, hD9⟩, hS.F ht⟩) hS.2.2 dX9_context_22
    · replace hf := x_in c_6 hf
      refine lv_iload_n hx hb dX9_context_17 rfl (lv_at hl 2 rfl) ?_
      refine lv_if_ge (tgt := 23) hx hb dX9_context_18 (by decide) (fun c_7 => ?_) (fun c_7 => ?_)
      · replace hf := x_ip c_7 hf
        refine lv_aload_n hx hb dX9_context_23 rfl (lv_at hl 0 rfl) ?_
        refine va_get (D := (dC, dI)) (ci := 9) (v := .ref a9_44) (C := RX9) (T := TX9) (N := 62) hx hb hts i_X9_context_X9 hown hK hP 0 rfl rfl 44 (by decide) k_6 (fun _ h9 => h9) rfl dX9_context_24 ?_
        refine lv_aload_n hx hb dX9_context_27 rfl (lv_at hl 0 rfl) ?_
        refine va_get (D := (dC, dI)) (ci := 9) (v := .ref a9_52) (C := RX9) (T := TX9) (N := 62) hx hb hts i_X9_context_X9 hown hK hP 0 rfl rfl 52 (by decide) k_7 (fun _ h9 => h9) rfl dX9_context_28 ?_
        refine lv_iload_n hx hb dX9_context_31 rfl (lv_at hl 1 rfl) ?_
        obtain ⟨g_8, hf⟩ := x_gu hf
        refine va_iald hx hb hK hP 5 0 rfl rfl (x_gdin g_8) dX9_context_32 ?_
        obtain ⟨g_9, hf⟩ := x_gu hf
        refine va_iald hx hb hK hP 4 0 rfl rfl (x_gdin g_9) dX9_context_33 ?_
        refine lv_istore_n (lv' := [(3, .int (g9_44 (Int32.toNatClampNeg (g9_52 (Int32.toNatClampNeg p1))))), (0, .ref o9), (1, .int p1), (2, .int p2)]) hx hb dX9_context_34 rfl hl (by decide) rfl (fun ls hl => ?_)
        refine lv_iload_n hx hb dX9_context_35 rfl (lv_at hl 3 rfl) ?_
        refine lv_aload_n hx hb dX9_context_36 rfl (lv_at hl 1 rfl) ?_
        refine va_get (D := (dC, dI)) (ci := 9) (v := .ref a9_39) (C := RX9) (T := TX9) (N := 62) hx hb hts i_X9_context_X9 hown hK hP 0 rfl rfl 39 (by decide) k_1 (fun _ h9 => h9) rfl dX9_context_37 ?_
        refine lv_iload_n hx hb dX9_context_40 rfl (lv_at hl 0 rfl) ?_
        obtain ⟨g_10, hf⟩ := x_gu hf
        refine va_iald hx hb hK hP 3 0 rfl rfl (x_gdin g_10) dX9_context_41 ?_
        refine lv_icmp_lt (tgt := 47) hx hb dX9_context_42 (by decide) (fun c_11 => ?_) (fun c_11 => ?_)
        · replace hf := x_ip c_11 hf
          exact (hWW _ _ _ _ _).mpr ((J p2 0 (0, g9_44 (Int32.toNatClampNeg (g9_52 (Int32.toNatClampNeg p1)))) _ hf rfl _ _ rfl) rfl H locs ls hP hD hS (lv_sub hl [1, 3, 0] rfl))
        · replace hf := x_in c_11 hf
          refine lv_iconst (v := (-1)) hx hb dX9_context_45 (by decide) ?_
          obtain rfl := Option.some.inj hf
          have hP9 := hP.sub (ws' := [(o9, .inr (9, x_O9 0 v9_1 v9_2 v9_3 a9_4 a9_5 a9_6 a9_7 a9_8 a9_9 a9_10 a9_11 a9_12 v9_13 v9_14 v9_15 v9_16 v9_17 v9_18 a9_19 v9_20 v9_21 v9_22 a9_23 a9_24 a9_25 a9_26 a9_27 a9_28 a9_29 a9_30 a9_31 a9_32 a9_33 a9_34 v9_35 v9_36 a9_37 a9_38 a9_39 a9_40 a9_41 v9_42 a9_43 a9_44 a9_45 a9_46 a9_47 v9_48 v9_49 v9_50 v9_51 a9_52 a9_53 v9_54 v9_55 a9_56 a9_57 v9_58 a9_59 a9_60 a9_61)), (a9_37, .inl (cyI, 20010, .inl g9_37)), (a9_38, .inl (cyI, 20010, .inl g9_38)), (a9_39, .inl (cyI, 20010, .inl g9_39)), (a9_44, .inl (cyI, 20010, .inl g9_44)), (a9_52, .inl (cyI, 20010, .inl g9_52))]) [0, 1, 2, 3, 4, 5] rfl
          have hD9 := hD.sub (ws' := [(o9, .inr (9, x_O9 0 v9_1 v9_2 v9_3 a9_4 a9_5 a9_6 a9_7 a9_8 a9_9 a9_10 a9_11 a9_12 v9_13 v9_14 v9_15 v9_16 v9_17 v9_18 a9_19 v9_20 v9_21 v9_22 a9_23 a9_24 a9_25 a9_26 a9_27 a9_28 a9_29 a9_30 a9_31 a9_32 a9_33 a9_34 v9_35 v9_36 a9_37 a9_38 a9_39 a9_40 a9_41 v9_42 a9_43 a9_44 a9_45 a9_46 a9_47 v9_48 v9_49 v9_50 v9_51 a9_52 a9_53 v9_54 v9_55 a9_56 a9_57 v9_58 a9_59 a9_60 a9_61)), (a9_37, .inl (cyI, 20010, .inl g9_37)), (a9_38, .inl (cyI, 20010, .inl g9_38)), (a9_39, .inl (cyI, 20010, .inl g9_39)), (a9_44, .inl (cyI, 20010, .inl g9_44)), (a9_52, .inl (cyI, 20010, .inl g9_52))]) [0, 1, 2, 3, 4, 5] (by decide) rfl
          exact W.iret hx hb hr (fun t ht hW => ⟨⟨_, (), rfl, rfl, by rw [ht]; exact hP9, va_K.moved hW.alike hK, hD9⟩, hS.F ht⟩) hS.2.2 dX9_context_46
      · replace hf := x_in c_7 hf
        refine lv_iconst (v := (-1)) hx hb dX9_context_21 (by decide) ?_
        obtain rfl := Option.some.inj hf
        have hP9 := hP.sub (ws' := [(o9, .inr (9, x_O9 0 v9_1 v9_2 v9_3 a9_4 a9_5 a9_6 a9_7 a9_8 a9_9 a9_10 a9_11 a9_12 v9_13 v9_14 v9_15 v9_16 v9_17 v9_18 a9_19 v9_20 v9_21 v9_22 a9_23 a9_24 a9_25 a9_26 a9_27 a9_28 a9_29 a9_30 a9_31 a9_32 a9_33 a9_34 v9_35 v9_36 a9_37 a9_38 a9_39 a9_40 a9_41 v9_42 a9_43 a9_44 a9_45 a9_46 a9_47 v9_48 v9_49 v9_50 v9_51 a9_52 a9_53 v9_54 v9_55 a9_56 a9_57 v9_58 a9_59 a9_60 a9_61)), (a9_37, .inl (cyI, 20010, .inl g9_37)), (a9_38, .inl (cyI, 20010, .inl g9_38)), (a9_39, .inl (cyI, 20010, .inl g9_39)), (a9_44, .inl (cyI, 20010, .inl g9_44)), (a9_52, .inl (cyI, 20010, .inl g9_52))]) [0, 1, 2, 3, 4, 5] rfl
        have hD9 := hD.sub (ws' := [(o9, .inr (9, x_O9 0 v9_1 v9_2 v9_3 a9_4 a9_5 a9_6 a9_7 a9_8 a9_9 a9_10 a9_11 a9_12 v9_13 v9_14 v9_15 v9_16 v9_17 v9_18 a9_19 v9_20 v9_21 v9_22 a9_23 a9_24 a9_25 a9_26 a9_27 a9_28 a9_29 a9_30 a9_31 a9_32 a9_33 a9_34 v9_35 v9_36 a9_37 a9_38 a9_39 a9_40 a9_41 v9_42 a9_43 a9_44 a9_45 a9_46 a9_47 v9_48 v9_49 v9_50 v9_51 a9_52 a9_53 v9_54 v9_55 a9_56 a9_57 v9_58 a9_59 a9_60 a9_61)), (a9_37, .inl (cyI, 20010, .inl g9_37)), (a9_38, .inl (cyI, 20010, .inl g9_38)), (a9_39, .inl (cyI, 20010, .inl g9_39)), (a9_44, .inl (cyI, 20010, .inl g9_44)), (a9_52, .inl (cyI, 20010, .inl g9_52))]) [0, 1, 2, 3, 4, 5] (by decide) rfl
        exact W.iret hx hb hr (fun t ht hW => ⟨⟨_, (), rfl, rfl, by rw [ht]; exact hP9, va_K.moved hW.alike hK, hD9⟩, hS.F ht⟩) hS.2.2 dX9_context_22

def f_X9_told (v9_0 : Int32) (v9_49 : Int32) (v9_50 : Int32) (v9_51 : Int32) (v9_58 : Int32) (g9_39 : Nat → Int32) (g9_43 : Nat → Int32) (g9_44 : Nat → Int32) (g9_52 : Nat → Int32) (g9_57 : Nat → Int32) (p1 : Int32) (p2 : Int32) : Option (Int32 × Int32) := if p1 < (0 : Int32) then some (-1, 0) else if v9_49 ≤ p1 then some (-1, 0) else if p2 < (0 : Int32) then some (-1, 0) else if x_gd p1 20010 = true then (f_X9_part v9_50 v9_51 v9_58 g9_39 g9_43 g9_44 g9_57 (g9_52 (Int32.toNatClampNeg p1)) 2) >>= (fun r_5 => if p2 < (v9_50 + r_5) then if x_gd p1 20010 = true then if x_gd (((g9_52 (Int32.toNatClampNeg p1)) * ((v9_50 + v9_51) + (2 : Int32))) + p2) 60600 = true then some (g9_57 (Int32.toNatClampNeg (((g9_52 (Int32.toNatClampNeg p1)) * ((v9_50 + v9_51) + (2 : Int32))) + p2)), 0) else none else none else some (-1, 0)) else none
theorem i_X9_told_X9 : ∀ w ∈ wsX90, w ∈ wsX9_told := fun _ h => List.mem_cons_of_mem _ (List.mem_append_right _ h)
set_option maxHeartbeats 4000000 in
set_option maxRecDepth 100000 in
theorem c_X9_told (l : Launch) (dC : Nat → ClassId) (dI : Nat → Nat → Nat) (cyI cyZ cyJ : ClassId) (sz : Nat) (o9 : Nat) (v9_0 : Int32) (v9_1 : Int32) (v9_2 : Int32) (v9_3 : Int32) (a9_4 : Nat) (a9_5 : Nat) (a9_6 : Nat) (a9_7 : Nat) (a9_8 : Nat) (a9_9 : Nat) (a9_10 : Nat) (a9_11 : Nat) (a9_12 : Nat) (v9_13 : Int32) (v9_14 : Int32) (v9_15 : Int32) (v9_16 : Int32) (v9_17 : Int32) (v9_18 : Int32) (a9_19 : Nat) (v9_20 : Int32) (v9_21 : Int32) (v9_22 : Int32) (a9_23 : Nat) (a9_24 : Nat) (a9_25 : Nat) (a9_26 : Nat) (a9_27 : Nat) (a9_28 : Nat) (a9_29 : Nat) (a9_30 : Nat) (a9_31 : Nat) (a9_32 : Nat) (a9_33 : Nat) (a9_34 : Nat) (v9_35 : Int32) (v9_36 : Int32) (a9_37 : Nat) (a9_38 : Nat) (a9_39 : Nat) (a9_40 : Nat) (a9_41 : Nat) (v9_42 : Int32) (a9_43 : Nat) (a9_44 : Nat) (a9_45 : Nat) (a9_46 : Nat) (a9_47 : Nat) (v9_48 : Int32) (v9_49 : Int32) (v9_50 : Int32) (v9_51 : Int32) (a9_52 : Nat) (a9_53 : Nat) (v9_54 : Int32) (v9_55 : Int32) (a9_56 : Nat) (a9_57 : Nat) (v9_58 : Int32) (a9_59 : Nat) (a9_60 : Nat) (a9_61 : Nat) (g9_39 : Nat → Int32) (g9_43 : Nat → Int32) (g9_44 : Nat → Int32) (g9_52 : Nat → Int32) (g9_57 : Nat → Int32) (p1 : Int32) (p2 : Int32) (R : Int32 × Int32) (hf : f_X9_told v9_0 v9_49 v9_50 v9_51 v9_58 g9_39 g9_43 g9_44 g9_52 g9_57 p1 p2 = some R) : Met l yX9_told wsX9_told ({ frames := 1, cells := 0, slots := 0, locals := 23 }) (va_Pc [.ref o9, .int p1, .int p2] (x_PreD (dC, dI) (x_T cyI cyZ cyJ) [(o9, .inr (9, x_O9 v9_0 v9_1 v9_2 v9_3 a9_4 a9_5 a9_6 a9_7 a9_8 a9_9 a9_10 a9_11 a9_12 v9_13 v9_14 v9_15 v9_16 v9_17 v9_18 a9_19 v9_20 v9_21 v9_22 a9_23 a9_24 a9_25 a9_26 a9_27 a9_28 a9_29 a9_30 a9_31 a9_32 a9_33 a9_34 v9_35 v9_36 a9_37 a9_38 a9_39 a9_40 a9_41 v9_42 a9_43 a9_44 a9_45 a9_46 a9_47 v9_48 v9_49 v9_50 v9_51 a9_52 a9_53 v9_54 v9_55 a9_56 a9_57 v9_58 a9_59 a9_60 a9_61)), (a9_39, .inl (cyI, 20010, .inl g9_39)), (a9_43, .inl (cyI, 20010, .inl g9_43)), (a9_44, .inl (cyI, 20010, .inl g9_44)), (a9_52, .inl (cyI, 20010, .inl g9_52)), (a9_57, .inl (cyI, 60600, .inl g9_57))] sz)) (va_Qi (fun (r : Int32) (_ : Unit) => r = R.1) (fun (_ : Unit) (t : State) => va_P (dC, dI) vwCl [(o9, .inr (9, x_O9 (R.2) v9_1 v9_2 v9_3 a9_4 a9_5 a9_6 a9_7 a9_8 a9_9 a9_10 a9_11 a9_12 v9_13 v9_14 v9_15 v9_16 v9_17 v9_18 a9_19 v9_20 v9_21 v9_22 a9_23 a9_24 a9_25 a9_26 a9_27 a9_28 a9_29 a9_30 a9_31 a9_32 a9_33 a9_34 v9_35 v9_36 a9_37 a9_38 a9_39 a9_40 a9_41 v9_42 a9_43 a9_44 a9_45 a9_46 a9_47 v9_48 v9_49 v9_50 v9_51 a9_52 a9_53 v9_54 v9_55 a9_56 a9_57 v9_58 a9_59 a9_60 a9_61)), (a9_39, .inl (cyI, 20010, .inl g9_39)), (a9_43, .inl (cyI, 20010, .inl g9_43)), (a9_44, .inl (cyI, 20010, .inl g9_44)), (a9_52, .inl (cyI, 20010, .inl g9_52)), (a9_57, .inl (cyI, 60600, .inl g9_57))] t.heap ∧ va_K (dC, dI) vwCl (x_T cyI cyZ cyJ) t ∧ va_D (va_A [(o9, .inr (9, x_O9 v9_0 v9_1 v9_2 v9_3 a9_4 a9_5 a9_6 a9_7 a9_8 a9_9 a9_10 a9_11 a9_12 v9_13 v9_14 v9_15 v9_16 v9_17 v9_18 a9_19 v9_20 v9_21 v9_22 a9_23 a9_24 a9_25 a9_26 a9_27 a9_28 a9_29 a9_30 a9_31 a9_32 a9_33 a9_34 v9_35 v9_36 a9_37 a9_38 a9_39 a9_40 a9_41 v9_42 a9_43 a9_44 a9_45 a9_46 a9_47 v9_48 v9_49 v9_50 v9_51 a9_52 a9_53 v9_54 v9_55 a9_56 a9_57 v9_58 a9_59 a9_60 a9_61)), (a9_39, .inl (cyI, 20010, .inl g9_39)), (a9_43, .inl (cyI, 20010, .inl g9_43)), (a9_44, .inl (cyI, 20010, .inl g9_44)), (a9_52, .inl (cyI, 20010, .inl g9_52)), (a9_57, .inl (cyI, 60600, .inl g9_57))] sz) [(o9, .inr (9, x_O9 (R.2) v9_1 v9_2 v9_3 a9_4 a9_5 a9_6 a9_7 a9_8 a9_9 a9_10 a9_11 a9_12 v9_13 v9_14 v9_15 v9_16 v9_17 v9_18 a9_19 v9_20 v9_21 v9_22 a9_23 a9_24 a9_25 a9_26 a9_27 a9_28 a9_29 a9_30 a9_31 a9_32 a9_33 a9_34 v9_35 v9_36 a9_37 a9_38 a9_39 a9_40 a9_41 v9_42 a9_43 a9_44 a9_45 a9_46 a9_47 v9_48 v9_49 v9_50 v9_51 a9_52 a9_53 v9_54 v9_55 a9_56 a9_57 v9_58 a9_59 a9_60 a9_61)), (a9_39, .inl (cyI, 20010, .inl g9_39)), (a9_43, .inl (cyI, 20010, .inl g9_43)), (a9_44, .inl (cyI, 20010, .inl g9_44)), (a9_52, .inl (cyI, 20010, .inl g9_52)), (a9_57, .inl (cyI, 60600, .inl g9_57))]) (va_A [(o9, .inr (9, x_O9 v9_0 v9_1 v9_2 v9_3 a9_4 a9_5 a9_6 a9_7 a9_8 a9_9 a9_10 a9_11 a9_12 v9_13 v9_14 v9_15 v9_16 v9_17 v9_18 a9_19 v9_20 v9_21 v9_22 a9_23 a9_24 a9_25 a9_26 a9_27 a9_28 a9_29 a9_30 a9_31 a9_32 a9_33 a9_34 v9_35 v9_36 a9_37 a9_38 a9_39 a9_40 a9_41 v9_42 a9_43 a9_44 a9_45 a9_46 a9_47 v9_48 v9_49 v9_50 v9_51 a9_52 a9_53 v9_54 v9_55 a9_56 a9_57 v9_58 a9_59 a9_60 a9_61)), (a9_39, .inl (cyI, 20010, .inl g9_39)), (a9_43, .inl (cyI, 20010, .inl g9_43)), (a9_44, .inl (cyI, 20010, .inl g9_44)), (a9_52, .inl (cyI, 20010, .inl g9_52)), (a9_57, .inl (cyI, 60600, .inl g9_57))] sz)) 0 0 (va_A [(o9, .inr (9, x_O9 v9_0 v9_1 v9_2 v9_3 a9_4 a9_5 a9_6 a9_7 a9_8 a9_9 a9_10 a9_11 a9_12 v9_13 v9_14 v9_15 v9_16 v9_17 v9_18 a9_19 v9_20 v9_21 v9_22 a9_23 a9_24 a9_25 a9_26 a9_27 a9_28 a9_29 a9_30 a9_31 a9_32 a9_33 a9_34 v9_35 v9_36 a9_37 a9_38 a9_39 a9_40 a9_41 v9_42 a9_43 a9_44 a9_45 a9_46 a9_47 v9_48 v9_49 v9_50 v9_51 a9_52 a9_53 v9_54 v9_55 a9_56 a9_57 v9_58 a9_59 a9_60 a9_61)), (a9_39, .inl (cyI, 20010, .inl g9_39)), (a9_43, .inl (cyI, 20010, .inl g9_43)), (a9_44, .inl (cyI, 20010, .inl g9_44)), (a9_52, .inl (cyI, 20010, .inl g9_52)), (a9_57, .inl (cyI, 60600, .inl g9_57))] sz) := by
  refine Met.ofW (cc := cX9_told) (maxL := 3) (ret := (some .int)) (by decide) rfl ?_
  intro p e s m args below meth c s₁ B hml hv
  obtain ⟨rfl, ⟨hsz, hP, hK, hN⟩, hD0⟩ := hv
  have hx := B.exec
  have hb := B.bytes
  have hr := B.returns
  have hts := atoms_spec (ws := wsX9_told) B.pre
  have hown : s.vm.findClass RX9 = some m.cls := findClass_of_methodNamed B.named
  have k_1 := hts (.fieldLink RX9 1 "FlowJudgeModel" "thrown" "I") (by decide +kernel)
  have k_2 := hts (.fieldLink RX9 260 "FlowJudgeModel" "told" "I") (by decide +kernel)
  have k_3 := hts (.fieldLink RX9 263 "FlowJudgeModel" "toldL" "I") (by decide +kernel)
  have k_4 := hts (.fieldLink RX9 118 "FlowJudgeModel" "order" "[I") (by decide +kernel)
  have k_5 := hts (.fieldLink RX9 128 "FlowJudgeModel" "frames" "[I") (by decide +kernel)
  have k_6 := hts (.fieldLink RX9 266 "FlowJudgeModel" "toldS" "I") (by decide +kernel)
  subst hsz
  have hD := hD0.self (sz := s.heap.size)
  generalize hAe : va_A [(o9, .inr (9, x_O9 v9_0 v9_1 v9_2 v9_3 a9_4 a9_5 a9_6 a9_7 a9_8 a9_9 a9_10 a9_11 a9_12 v9_13 v9_14 v9_15 v9_16 v9_17 v9_18 a9_19 v9_20 v9_21 v9_22 a9_23 a9_24 a9_25 a9_26 a9_27 a9_28 a9_29 a9_30 a9_31 a9_32 a9_33 a9_34 v9_35 v9_36 a9_37 a9_38 a9_39 a9_40 a9_41 v9_42 a9_43 a9_44 a9_45 a9_46 a9_47 v9_48 v9_49 v9_50 v9_51 a9_52 a9_53 v9_54 v9_55 a9_56 a9_57 v9_58 a9_59 a9_60 a9_61)), (a9_39, .inl (cyI, 20010, .inl g9_39)), (a9_43, .inl (cyI, 20010, .inl g9_43)), (a9_44, .inl (cyI, 20010, .inl g9_44)), (a9_52, .inl (cyI, 20010, .inl g9_52)), (a9_57, .inl (cyI, 60600, .inl g9_57))] s.heap.size = A at hD ⊢
  have hA : ∀ q : Nat, s.heap.size ≤ q → A q := fun q h => by rw [← hAe]; exact Or.inr h
  have hP : va_P (dC, dI) vwCl [(o9, .inr (9, x_O9 v9_0 v9_1 v9_2 v9_3 a9_4 a9_5 a9_6 a9_7 a9_8 a9_9 a9_10 a9_11 a9_12 v9_13 v9_14 v9_15 v9_16 v9_17 v9_18 a9_19 v9_20 v9_21 v9_22 a9_23 a9_24 a9_25 a9_26 a9_27 a9_28 a9_29 a9_30 a9_31 a9_32 a9_33 a9_34 v9_35 v9_36 a9_37 a9_38 a9_39 a9_40 a9_41 v9_42 a9_43 a9_44 a9_45 a9_46 a9_47 v9_48 v9_49 v9_50 v9_51 a9_52 a9_53 v9_54 v9_55 a9_56 a9_57 v9_58 a9_59 a9_60 a9_61)), (a9_39, .inl (cyI, 20010, .inl g9_39)), (a9_43, .inl (cyI, 20010, .inl g9_43)), (a9_44, .inl (cyI, 20010, .inl g9_44)), (a9_52, .inl (cyI, 20010, .inl g9_52)), (a9_57, .inl (cyI, 60600, .inl g9_57))] s.heap := hP
  have hl := lv_entry ([.ref o9, .int p1, .int p2]) (n := 3) (Nat.le_of_ble_eq_true rfl)
  rw [lg_entry_eq]
  generalize (lg_sl ([.ref o9, .int p1, .int p2]) ++ List.replicate (3 - (lg_sl ([.ref o9, .int p1, .int p2])).length) Slot.unset).toArray = ls at hl ⊢
  have hl : lv_has ls 3 [(0, .ref o9), (1, .int p1), (2, .int p2)] := hl
  obtain ⟨H, hH⟩ : ∃ z, z = s.heap := ⟨_, rfl⟩
  refine x_here hH ?_
  have hP : va_P (dC, dI) vwCl [(o9, .inr (9, x_O9 v9_0 v9_1 v9_2 v9_3 a9_4 a9_5 a9_6 a9_7 a9_8 a9_9 a9_10 a9_11 a9_12 v9_13 v9_14 v9_15 v9_16 v9_17 v9_18 a9_19 v9_20 v9_21 v9_22 a9_23 a9_24 a9_25 a9_26 a9_27 a9_28 a9_29 a9_30 a9_31 a9_32 a9_33 a9_34 v9_35 v9_36 a9_37 a9_38 a9_39 a9_40 a9_41 v9_42 a9_43 a9_44 a9_45 a9_46 a9_47 v9_48 v9_49 v9_50 v9_51 a9_52 a9_53 v9_54 v9_55 a9_56 a9_57 v9_58 a9_59 a9_60 a9_61)), (a9_39, .inl (cyI, 20010, .inl g9_39)), (a9_43, .inl (cyI, 20010, .inl g9_43)), (a9_44, .inl (cyI, 20010, .inl g9_44)), (a9_52, .inl (cyI, 20010, .inl g9_52)), (a9_57, .inl (cyI, 60600, .inl g9_57))] H := by rw [hH]; exact hP
  have hS : va_S A s.heap H [] := by rw [hH]; exact va_S.rf
  clear hH
  obtain ⟨locs, hlo⟩ : ∃ z : List Loc, z = [] := ⟨_, rfl⟩
  refine x_herl hlo ?_
  have hS : va_S A s.heap H locs := by rw [hlo]; exact hS
  clear hlo
  unfold f_X9_told at hf
  refine lv_aload_n hx hb dX9_told_0 rfl (lv_at hl 0 rfl) ?_
  refine lv_iconst (v := 0) hx hb dX9_told_1 (by decide) ?_
  refine va_put (D := (dC, dI)) (ci := 9) (v := .int 0) (ty := .int) (C := RX9) (T := TX9) (N := 62) hx hb hts i_X9_told_X9 tyX9 tyX9_ok nmX9 hown hK hP hD hS 0 rfl rfl 0 (by decide) k_1 (fun _ h9 => h9) rfl (by decide +kernel) rfl rfl (Nat.le_of_ble_eq_true rfl) dX9_told_2 (fun H locs hP hD hS => ?_)
  have hP : va_P (dC, dI) vwCl [(o9, .inr (9, x_O9 0 v9_1 v9_2 v9_3 a9_4 a9_5 a9_6 a9_7 a9_8 a9_9 a9_10 a9_11 a9_12 v9_13 v9_14 v9_15 v9_16 v9_17 v9_18 a9_19 v9_20 v9_21 v9_22 a9_23 a9_24 a9_25 a9_26 a9_27 a9_28 a9_29 a9_30 a9_31 a9_32 a9_33 a9_34 v9_35 v9_36 a9_37 a9_38 a9_39 a9_40 a9_41 v9_42 a9_43 a9_44 a9_45 a9_46 a9_47 v9_48 v9_49 v9_50 v9_51 a9_52 a9_53 v9_54 v9_55 a9_56 a9_57 v9_58 a9_59 a9_60 a9_61)), (a9_39, .inl (cyI, 20010, .inl g9_39)), (a9_43, .inl (cyI, 20010, .inl g9_43)), (a9_44, .inl (cyI, 20010, .inl g9_44)), (a9_52, .inl (cyI, 20010, .inl g9_52)), (a9_57, .inl (cyI, 60600, .inl g9_57))] H := hP
  have hD : va_D A [(o9, .inr (9, x_O9 0 v9_1 v9_2 v9_3 a9_4 a9_5 a9_6 a9_7 a9_8 a9_9 a9_10 a9_11 a9_12 v9_13 v9_14 v9_15 v9_16 v9_17 v9_18 a9_19 v9_20 v9_21 v9_22 a9_23 a9_24 a9_25 a9_26 a9_27 a9_28 a9_29 a9_30 a9_31 a9_32 a9_33 a9_34 v9_35 v9_36 a9_37 a9_38 a9_39 a9_40 a9_41 v9_42 a9_43 a9_44 a9_45 a9_46 a9_47 v9_48 v9_49 v9_50 v9_51 a9_52 a9_53 v9_54 v9_55 a9_56 a9_57 v9_58 a9_59 a9_60 a9_61)), (a9_39, .inl (cyI, 20010, .inl g9_39)), (a9_43, .inl (cyI, 20010, .inl g9_43)), (a9_44, .inl (cyI, 20010, .inl g9_44)), (a9_52, .inl (cyI, 20010, .inl g9_52)), (a9_57, .inl (cyI, 60600, .inl g9_57))] := hD
  refine lv_iload_n hx hb dX9_told_5 rfl (lv_at hl 1 rfl) ?_
  refine lv_if_lt (tgt := 41) hx hb dX9_told_6 (by decide) (fun c_1 => ?_) (fun c_1 => ?_)
  · replace hf := x_ip c_1 hf
    refine lv_iconst (v := (-1)) hx hb dX9_told_41 (by decide) ?_
    obtain rfl := Option.some.inj hf
    have hP9 := hP.sub (ws' := [(o9, .inr (9, x_O9 0 v9_1 v9_2 v9_3 a9_4 a9_5 a9_6 a9_7 a9_8 a9_9 a9_10 a9_11 a9_12 v9_13 v9_14 v9_15 v9_16 v9_17 v9_18 a9_19 v9_20 v9_21 v9_22 a9_23 a9_24 a9_25 a9_26 a9_27 a9_28 a9_29 a9_30 a9_31 a9_32 a9_33 a9_34 v9_35 v9_36 a9_37 a9_38 a9_39 a9_40 a9_41 v9_42 a9_43 a9_44 a9_45 a9_46 a9_47 v9_48 v9_49 v9_50 v9_51 a9_52 a9_53 v9_54 v9_55 a9_56 a9_57 v9_58 a9_59 a9_60 a9_61)), (a9_39, .inl (cyI, 20010, .inl g9_39)), (a9_43, .inl (cyI, 20010, .inl g9_43)), (a9_44, .inl (cyI, 20010, .inl g9_44)), (a9_52, .inl (cyI, 20010, .inl g9_52)), (a9_57, .inl (cyI, 60600, .inl g9_57))]) [0, 1, 2, 3, 4, 5] rfl
    have hD9 := hD.sub (ws' := [(o9, .inr (9, x_O9 0 v9_1 v9_2 v9_3 a9_4 a9_5 a9_6 a9_7 a9_8 a9_9 a9_10 a9_11 a9_12 v9_13 v9_14 v9_15 v9_16 v9_17 v9_18 a9_19 v9_20 v9_21 v9_22 a9_23 a9_24 a9_25 a9_26 a9_27 a9_28 a9_29 a9_30 a9_31 a9_32 a9_33 a9_34 v9_35 v9_36 a9_37 a9_38 a9_39 a9_40 a9_41 v9_42 a9_43 a9_44 a9_45 a9_46 a9_47 v9_48 v9_49 v9_50 v9_51 a9_52 a9_53 v9_54 v9_55 a9_56 a9_57 v9_58 a9_59 a9_60 a9_61)), (a9_39, .inl (cyI, 20010, .inl g9_39)), (a9_43, .inl (cyI, 20010, .inl g9_43)), (a9_44, .inl (cyI, 20010, .inl g9_44)), (a9_52, .inl (cyI, 20010, .inl g9_52)), (a9_57, .inl (cyI, 60600, .inl g9_57))]) [0, 1, 2, 3, 4, 5] (by decide) rfl
    exact W.iret hx hb hr (fun t ht hW => ⟨⟨_, (), rfl, rfl, by rw [ht]; exact hP9, va_K.moved hW.alike hK, hD9⟩, hS.F ht⟩) hS.2.2 dX9_told_42
  · replace hf := x_in c_1 hf
    refine lv_iload_n hx hb dX9_told_9 rfl (lv_at hl 1 rfl) ?_
    refine lv_aload_n hx hb dX9_told_10 rfl (lv_at hl 0 rfl) ?_
    refine va_get (D := (dC, dI)) (ci := 9) (v := .int v9_49) (C := RX9) (T := TX9) (N := 62) hx hb hts i_X9_told_X9 hown hK hP 0 rfl rfl 49 (by decide) k_2 (fun _ h9 => h9) rfl dX9_told_11 ?_
    refine lv_icmp_ge (tgt := 41) hx hb dX9_told_14 (by decide) (fun c_2 => ?_) (fun c_2 => ?_)
    · replace hf := x_ip c_2 hf
      refine lv_iconst (v := (-1)) hx hb dX9_told_41 (by decide) ?_
      obtain rfl := Option.some.inj hf
      have hP9 := hP.sub (ws' := [(o9, .inr (9, x_O9 0 v9_1 v9_2 v9_3 a9_4 a9_5 a9_6 a9_7 a9_8 a9_9 a9_10 a9_11 a9_12 v9_13 v9_14 v9_15 v9_16 v9_17 v9_18 a9_19 v9_20 v9_21 v9_22 a9_23 a9_24 a9_25 a9_26 a9_27 a9_28 a9_29 a9_30 a9_31 a9_32 a9_33 a9_34 v9_35 v9_36 a9_37 a9_38 a9_39 a9_40 a9_41 v9_42 a9_43 a9_44 a9_45 a9_46 a9_47 v9_48 v9_49 v9_50 v9_51 a9_52 a9_53 v9_54 v9_55 a9_56 a9_57 v9_58 a9_59 a9_60 a9_61)), (a9_39, .inl (cyI, 20010, .inl g9_39)), (a9_43, .inl (cyI, 20010, .inl g9_43)), (a9_44, .inl (cyI, 20010, .inl g9_44)), (a9_52, .inl (cyI, 20010, .inl g9_52)), (a9_57, .inl (cyI, 60600, .inl g9_57))]) [0, 1, 2, 3, 4, 5] rfl
      have hD9 := hD.sub (ws' := [(o9, .inr (9, x_O9 0 v9_1 v9_2 v9_3 a9_4 a9_5 a9_6 a9_7 a9_8 a9_9 a9_10 a9_11 a9_12 v9_13 v9_14 v9_15 v9_16 v9_17 v9_18 a9_19 v9_20 v9_21 v9_22 a9_23 a9_24 a9_25 a9_26 a9_27 a9_28 a9_29 a9_30 a9_31 a9_32 a9_33 a9_34 v9_35 v9_36 a9_37 a9_38 a9_39 a9_40 a9_41 v9_42 a9_43 a9_44 a9_45 a9_46 a9_47 v9_48 v9_49 v9_50 v9_51 a9_52 a9_53 v9_54 v9_55 a9_56 a9_57 v9_58 a9_59 a9_60 a9_61)), (a9_39, .inl (cyI, 20010, .inl g9_39)), (a9_43, .inl (cyI, 20010, .inl g9_43)), (a9_44, .inl (cyI, 20010, .inl g9_44)), (a9_52, .inl (cyI, 20010, .inl g9_52)), (a9_57, .inl (cyI, 60600, .inl g9_57))]) [0, 1, 2, 3, 4, 5] (by decide) rfl
      exact W.iret hx hb hr (fun t ht hW => ⟨⟨_, (), rfl, rfl, by rw [ht]; exact hP9, va_K.moved hW.alike hK, hD9⟩, hS.F ht⟩) hS.2.2 dX9_told_42
    · replace hf := x_in c_2 hf
      refine lv_iload_n hx hb dX9_told_17 rfl (lv_at hl 2 rfl) ?_
      refine lv_if_lt (tgt := 41) hx hb dX9_told_18 (by decide) (fun c_3 => ?_) (fun c_3 => ?_)
      · replace hf := x_ip c_3 hf
        refine lv_iconst (v := (-1)) hx hb dX9_told_41 (by decide) ?_
        obtain rfl := Option.some.inj hf
        have hP9 := hP.sub (ws' := [(o9, .inr (9, x_O9 0 v9_1 v9_2 v9_3 a9_4 a9_5 a9_6 a9_7 a9_8 a9_9 a9_10 a9_11 a9_12 v9_13 v9_14 v9_15 v9_16 v9_17 v9_18 a9_19 v9_20 v9_21 v9_22 a9_23 a9_24 a9_25 a9_26 a9_27 a9_28 a9_29 a9_30 a9_31 a9_32 a9_33 a9_34 v9_35 v9_36 a9_37 a9_38 a9_39 a9_40 a9_41 v9_42 a9_43 a9_44 a9_45 a9_46 a9_47 v9_48 v9_49 v9_50 v9_51 a9_52 a9_53 v9_54 v9_55 a9_56 a9_57 v9_58 a9_59 a9_60 a9_61)), (a9_39, .inl (cyI, 20010, .inl g9_39)), (a9_43, .inl (cyI, 20010, .inl g9_43)), (a9_44, .inl (cyI, 20010, .inl g9_44)), (a9_52, .inl (cyI, 20010, .inl g9_52)), (a9_57, .inl (cyI, 60600, .inl g9_57))]) [0, 1, 2, 3, 4, 5] rfl
        have hD9 := hD.sub (ws' := [(o9, .inr (9, x_O9 0 v9_1 v9_2 v9_3 a9_4 a9_5 a9_6 a9_7 a9_8 a9_9 a9_10 a9_11 a9_12 v9_13 v9_14 v9_15 v9_16 v9_17 v9_18 a9_19 v9_20 v9_21 v9_22 a9_23 a9_24 a9_25 a9_26 a9_27 a9_28 a9_29 a9_30 a9_31 a9_32 a9_33 a9_34 v9_35 v9_36 a9_37 a9_38 a9_39 a9_40 a9_41 v9_42 a9_43 a9_44 a9_45 a9_46 a9_47 v9_48 v9_49 v9_50 v9_51 a9_52 a9_53 v9_54 v9_55 a9_56 a9_57 v9_58 a9_59 a9_60 a9_61)), (a9_39, .inl (cyI, 20010, .inl g9_39)), (a9_43, .inl (cyI, 20010, .inl g9_43)), (a9_44, .inl (cyI, 20010, .inl g9_44)), (a9_52, .inl (cyI, 20010, .inl g9_52)), (a9_57, .inl (cyI, 60600, .inl g9_57))]) [0, 1, 2, 3, 4, 5] (by decide) rfl
        exact W.iret hx hb hr (fun t ht hW => ⟨⟨_, (), rfl, rfl, by rw [ht]; exact hP9, va_K.moved hW.alike hK, hD9⟩, hS.F ht⟩) hS.2.2 dX9_told_42
      · replace hf := x_in c_3 hf
        refine lv_iload_n hx hb dX9_told_21 rfl (lv_at hl 2 rfl) ?_
        refine lv_aload_n hx hb dX9_told_22 rfl (lv_at hl 0 rfl) ?_
        refine va_get (D := (dC, dI)) (ci := 9) (v := .int v9_50) (C := RX9) (T := TX9) (N := 62) hx hb hts i_X9_told_X9 hown hK hP 0 rfl rfl 50 (by decide) k_3 (fun _ h9 => h9) rfl dX9_told_23 ?_
        refine lv_aload_n hx hb dX9_told_26 rfl (lv_at hl 0 rfl) ?_
        refine lv_aload_n hx hb dX9_told_27 rfl (lv_at hl 0 rfl) ?_
        refine va_get (D := (dC, dI)) (ci := 9) (v := .ref a9_52) (C := RX9) (T := TX9) (N := 62) hx hb hts i_X9_told_X9 hown hK hP 0 rfl rfl 52 (by decide) k_4 (fun _ h9 => h9) rfl dX9_told_28 ?_
        refine lv_iload_n hx hb dX9_told_31 rfl (lv_at hl 1 rfl) ?_
        obtain ⟨g_4, hf⟩ := x_gu hf
        refine va_iald hx hb hK hP 4 0 rfl rfl (x_gdin g_4) dX9_told_32 ?_
        refine lv_iconst (v := 2) hx hb dX9_told_33 (by decide) ?_
        obtain ⟨r_5, h_5, hf⟩ := x_bi hf
        have hPc := hP.sub (ws' := [(o9, .inr (9, x_O9 0 v9_1 v9_2 v9_3 a9_4 a9_5 a9_6 a9_7 a9_8 a9_9 a9_10 a9_11 a9_12 v9_13 v9_14 v9_15 v9_16 v9_17 v9_18 a9_19 v9_20 v9_21 v9_22 a9_23 a9_24 a9_25 a9_26 a9_27 a9_28 a9_29 a9_30 a9_31 a9_32 a9_33 a9_34 v9_35 v9_36 a9_37 a9_38 a9_39 a9_40 a9_41 v9_42 a9_43 a9_44 a9_45 a9_46 a9_47 v9_48 v9_49 v9_50 v9_51 a9_52 a9_53 v9_54 v9_55 a9_56 a9_57 v9_58 a9_59 a9_60 a9_61)), (a9_39, .inl (cyI, 20010, .inl g9_39)), (a9_43, .inl (cyI, 20010, .inl g9_43)), (a9_44, .inl (cyI, 20010, .inl g9_44)), (a9_57, .inl (cyI, 60600, .inl g9_57))]) [0, 1, 2, 3, 5] rfl
        refine va_calli (va_runV (As := [.int (g9_52 (Int32.toNatClampNeg p1)), .int 2]) (rest := [.int v9_50, .int p2]) ⟨hx, hb, hml, hown, hts⟩ (c_X9_part l dC dI cyI cyZ cyJ H.size o9 0 v9_1 v9_2 v9_3 a9_4 a9_5 a9_6 a9_7 a9_8 a9_9 a9_10 a9_11 a9_12 v9_13 v9_14 v9_15 v9_16 v9_17 v9_18 a9_19 v9_20 v9_21 v9_22 a9_23 a9_24 a9_25 a9_26 a9_27 a9_28 a9_29 a9_30 a9_31 a9_32 a9_33 a9_34 v9_35 v9_36 a9_37 a9_38 a9_39 a9_40 a9_41 v9_42 a9_43 a9_44 a9_45 a9_46 a9_47 v9_48 v9_49 v9_50 v9_51 a9_52 a9_53 v9_54 v9_55 a9_56 a9_57 v9_58 a9_59 a9_60 a9_61 g9_39 g9_43 g9_44 g9_57 (g9_52 (Int32.toNatClampNeg p1)) 2 r_5 h_5) (cwV 2 hts gX9_told_X9_part rfl rfl rfl (by decide +kernel) ⟨Nat.le_of_ble_eq_true rfl, Nat.le_of_ble_eq_true rfl⟩) (x_pV hN hK hPc (ci := 9) (q0 := 0) rfl rfl) rfl rfl hl.1 rfl (lv_room (Nat.le_of_ble_eq_true rfl)) dX9_told_34 ⟨Nat.le_of_ble_eq_true rfl, Nat.le_of_ble_eq_true rfl⟩) hS x_nA (x_nf hA hS) (fun q_5 u t H1 locs ht hvm hw hB hz1 hk1 hS => ?_)
        have hP := x_kp hP hk1
        clear ht hvm hB hz1 hk1 t u hPc
        generalize H1 = H at hP hS ⊢
        obtain rfl := hw.symm
        refine lv_iadd hx hb dX9_told_37 ?_
        refine lv_icmp_lt (tgt := 43) hx hb dX9_told_38 (by decide) (fun c_6 => ?_) (fun c_6 => ?_)
        · replace hf := x_ip c_6 hf
          refine lv_aload_n hx hb dX9_told_43 rfl (lv_at hl 0 rfl) ?_
          refine va_get (D := (dC, dI)) (ci := 9) (v := .ref a9_57) (C := RX9) (T := TX9) (N := 62) hx hb hts i_X9_told_X9 hown hK hP 0 rfl rfl 57 (by decide) k_5 (fun _ h9 => h9) rfl dX9_told_44 ?_
          refine lv_aload_n hx hb dX9_told_47 rfl (lv_at hl 0 rfl) ?_
          refine va_get (D := (dC, dI)) (ci := 9) (v := .ref a9_52) (C := RX9) (T := TX9) (N := 62) hx hb hts i_X9_told_X9 hown hK hP 0 rfl rfl 52 (by decide) k_4 (fun _ h9 => h9) rfl dX9_told_48 ?_
          refine lv_iload_n hx hb dX9_told_51 rfl (lv_at hl 1 rfl) ?_
          obtain ⟨g_7, hf⟩ := x_gu hf
          refine va_iald hx hb hK hP 4 0 rfl rfl (x_gdin g_7) dX9_told_52 ?_
          refine lv_aload_n hx hb dX9_told_53 rfl (lv_at hl 0 rfl) ?_
          refine va_get (D := (dC, dI)) (ci := 9) (v := .int v9_50) (C := RX9) (T := TX9) (N := 62) hx hb hts i_X9_told_X9 hown hK hP 0 rfl rfl 50 (by decide) k_3 (fun _ h9 => h9) rfl dX9_told_54 ?_
          refine lv_aload_n hx hb dX9_told_57 rfl (lv_at hl 0 rfl) ?_
          refine va_get (D := (dC, dI)) (ci := 9) (v := .int v9_51) (C := RX9) (T := TX9) (N := 62) hx hb hts i_X9_told_X9 hown hK hP 0 rfl rfl 51 (by decide) k_6 (fun _ h9 => h9) rfl dX9_told_58 ?_
          refine lv_iadd hx hb dX9_told_61 ?_
          refine lv_iconst (v := 2) hx hb dX9_told_62 (by decide) ?_
          refine lv_iadd hx hb dX9_told_63 ?_
          refine lv_imul hx hb dX9_told_64 ?_
          refine lv_iload_n hx hb dX9_told_65 rfl (lv_at hl 2 rfl) ?_
          refine lv_iadd hx hb dX9_told_66 ?_
          obtain ⟨g_8, hf⟩ := x_gu hf
          refine va_iald hx hb hK hP 5 0 rfl rfl (x_gdin g_8) dX9_told_67 ?_
          obtain rfl := Option.some.inj hf
          have hP9 := hP.sub (ws' := [(o9, .inr (9, x_O9 0 v9_1 v9_2 v9_3 a9_4 a9_5 a9_6 a9_7 a9_8 a9_9 a9_10 a9_11 a9_12 v9_13 v9_14 v9_15 v9_16 v9_17 v9_18 a9_19 v9_20 v9_21 v9_22 a9_23 a9_24 a9_25 a9_26 a9_27 a9_28 a9_29 a9_30 a9_31 a9_32 a9_33 a9_34 v9_35 v9_36 a9_37 a9_38 a9_39 a9_40 a9_41 v9_42 a9_43 a9_44 a9_45 a9_46 a9_47 v9_48 v9_49 v9_50 v9_51 a9_52 a9_53 v9_54 v9_55 a9_56 a9_57 v9_58 a9_59 a9_60 a9_61)), (a9_39, .inl (cyI, 20010, .inl g9_39)), (a9_43, .inl (cyI, 20010, .inl g9_43)), (a9_44, .inl (cyI, 20010, .inl g9_44)), (a9_52, .inl (cyI, 20010, .inl g9_52)), (a9_57, .inl (cyI, 60600, .inl g9_57))]) [0, 1, 2, 3, 4, 5] rfl
          have hD9 := hD.sub (ws' := [(o9, .inr (9, x_O9 0 v9_1 v9_2 v9_3 a9_4 a9_5 a9_6 a9_7 a9_8 a9_9 a9_10 a9_11 a9_12 v9_13 v9_14 v9_15 v9_16 v9_17 v9_18 a9_19 v9_20 v9_21 v9_22 a9_23 a9_24 a9_25 a9_26 a9_27 a9_28 a9_29 a9_30 a9_31 a9_32 a9_33 a9_34 v9_35 v9_36 a9_37 a9_38 a9_39 a9_40 a9_41 v9_42 a9_43 a9_44 a9_45 a9_46 a9_47 v9_48 v9_49 v9_50 v9_51 a9_52 a9_53 v9_54 v9_55 a9_56 a9_57 v9_58 a9_59 a9_60 a9_61)), (a9_39, .inl (cyI, 20010, .inl g9_39)), (a9_43, .inl (cyI, 20010, .inl g9_43)), (a9_44, .inl (cyI, 20010, .inl g9_44)), (a9_52, .inl (cyI, 20010, .inl g9_52)), (a9_57, .inl (cyI, 60600, .inl g9_57))]) [0, 1, 2, 3, 4, 5] (by decide) rfl
          exact W.iret hx hb hr (fun t ht hW => ⟨⟨_, (), rfl, rfl, by rw [ht]; exact hP9, va_K.moved hW.alike hK, hD9⟩, hS.F ht⟩) hS.2.2 dX9_told_68
        · replace hf := x_in c_6 hf
          refine lv_iconst (v := (-1)) hx hb dX9_told_41 (by decide) ?_
          obtain rfl := Option.some.inj hf
          have hP9 := hP.sub (ws' := [(o9, .inr (9, x_O9 0 v9_1 v9_2 v9_3 a9_4 a9_5 a9_6 a9_7 a9_8 a9_9 a9_10 a9_11 a9_12 v9_13 v9_14 v9_15 v9_16 v9_17 v9_18 a9_19 v9_20 v9_21 v9_22 a9_23 a9_24 a9_25 a9_26 a9_27 a9_28 a9_29 a9_30 a9_31 a9_32 a9_33 a9_34 v9_35 v9_36 a9_37 a9_38 a9_39 a9_40 a9_41 v9_42 a9_43 a9_44 a9_45 a9_46 a9_47 v9_48 v9_49 v9_50 v9_51 a9_52 a9_53 v9_54 v9_55 a9_56 a9_57 v9_58 a9_59 a9_60 a9_61)), (a9_39, .inl (cyI, 20010, .inl g9_39)), (a9_43, .inl (cyI, 20010, .inl g9_43)), (a9_44, .inl (cyI, 20010, .inl g9_44)), (a9_52, .inl (cyI, 20010, .inl g9_52)), (a9_57, .inl (cyI, 60600, .inl g9_57))]) [0, 1, 2, 3, 4, 5] rfl
          have hD9 := hD.sub (ws' := [(o9, .inr (9, x_O9 0 v9_1 v9_2 v9_3 a9_4 a9_5 a9_6 a9_7 a9_8 a9_9 a9_10 a9_11 a9_12 v9_13 v9_14 v9_15 v9_16 v9_17 v9_18 a9_19 v9_20 v9_21 v9_22 a9_23 a9_24 a9_25 a9_26 a9_27 a9_28 a9_29 a9_30 a9_31 a9_32 a9_33 a9_34 v9_35 v9_36 a9_37 a9_38 a9_39 a9_40 a9_41 v9_42 a9_43 a9_44 a9_45 a9_46 a9_47 v9_48 v9_49 v9_50 v9_51 a9_52 a9_53 v9_54 v9_55 a9_56 a9_57 v9_58 a9_59 a9_60 a9_61)), (a9_39, .inl (cyI, 20010, .inl g9_39)), (a9_43, .inl (cyI, 20010, .inl g9_43)), (a9_44, .inl (cyI, 20010, .inl g9_44)), (a9_52, .inl (cyI, 20010, .inl g9_52)), (a9_57, .inl (cyI, 60600, .inl g9_57))]) [0, 1, 2, 3, 4, 5] (by decide) rfl
          exact W.iret hx hb hr (fun t ht hW => ⟨⟨_, (), rfl, rfl, by rw [ht]; exact hP9, va_K.moved hW.alike hK, hD9⟩, hS.F ht⟩) hS.2.2 dX9_told_42

def f_X9_digest_L (v9_49 : Int32) (v9_50 : Int32) (v9_51 : Int32) (v9_58 : Int32) (g9_39 : Nat → Int32) (g9_43 : Nat → Int32) (g9_44 : Nat → Int32) (g9_52 : Nat → Int32) (g9_57 : Nat → Int32) (v9_0 : Int32) (z : Nat × Int64 × Int32 × Int32 × Int32 × Int32) : Option (Int64 × Int32) := match z with
  | (q, l1, l3, l4, l5, l6) => if q = 0 then if v9_49 ≤ l3 then some (l1, v9_0) else if x_gd l3 20010 = true then (f_X9_digest_L v9_49 v9_50 v9_51 v9_58 g9_39 g9_43 g9_44 g9_52 g9_57 v9_0 (1, l1, l3, g9_52 (Int32.toNatClampNeg l3), 0, 0)) else none else if q = 1 then if (4 : Int32) ≤ l5 then (f_X9_part v9_50 v9_51 v9_58 g9_39 g9_43 g9_44 g9_57 l4 2) >>= (fun r_4 => (f_X9_digest_L v9_49 v9_50 v9_51 v9_58 g9_39 g9_43 g9_44 g9_52 g9_57 v9_0 (2, l1, l3, l4, v9_50 + r_4, 0))) else (f_X9_part v9_50 v9_51 v9_58 g9_39 g9_43 g9_44 g9_57 l4 l5) >>= (fun r_5 => (f_X9_digest_L v9_49 v9_50 v9_51 v9_58 g9_39 g9_43 g9_44 g9_52 g9_57 v9_0 (1, ((31 : Int64) * l1) + (Int32.toInt64 r_5), l3, l4, l5 + 1, 0))) else if q = 2 then if l5 ≤ l6 then (f_X9_digest_L v9_49 v9_50 v9_51 v9_58 g9_39 g9_43 g9_44 g9_52 g9_57 v9_0 (0, l1, l3 + 1, 0, 0, 0)) else if x_gd ((l4 * ((v9_50 + v9_51) + (2 : Int32))) + l6) 60600 = true then (f_X9_digest_L v9_49 v9_50 v9_51 v9_58 g9_39 g9_43 g9_44 g9_52 g9_57 v9_0 (2, ((31 : Int64) * l1) + (Int32.toInt64 (g9_57 (Int32.toNatClampNeg ((l4 * ((v9_50 + v9_51) + (2 : Int32))) + l6)))), l3, l4, l5, l6 + 1)) else none else none
partial_fixpoint
def f_X9_digest (v9_0 : Int32) (v9_49 : Int32) (v9_50 : Int32) (v9_51 : Int32) (v9_58 : Int32) (g9_39 : Nat → Int32) (g9_43 : Nat → Int32) (g9_44 : Nat → Int32) (g9_52 : Nat → Int32) (g9_57 : Nat → Int32) : Option (Int64 × Int32) := (f_X9_digest_L v9_49 v9_50 v9_51 v9_58 g9_39 g9_43 g9_44 g9_52 g9_57 0 (0, 7, 0, 0, 0, 0))
theorem i_X9_digest_X9 : ∀ w ∈ wsX90, w ∈ wsX9_digest := fun _ h => List.mem_cons_of_mem _ (List.mem_append_right _ h)
set_option maxHeartbeats 4000000 in
set_option maxRecDepth 100000 in
theorem c_X9_digest (l : Launch) (dC : Nat → ClassId) (dI : Nat → Nat → Nat) (cyI cyZ cyJ : ClassId) (sz : Nat) (o9 : Nat) (v9_0 : Int32) (v9_1 : Int32) (v9_2 : Int32) (v9_3 : Int32) (a9_4 : Nat) (a9_5 : Nat) (a9_6 : Nat) (a9_7 : Nat) (a9_8 : Nat) (a9_9 : Nat) (a9_10 : Nat) (a9_11 : Nat) (a9_12 : Nat) (v9_13 : Int32) (v9_14 : Int32) (v9_15 : Int32) (v9_16 : Int32) (v9_17 : Int32) (v9_18 : Int32) (a9_19 : Nat) (v9_20 : Int32) (v9_21 : Int32) (v9_22 : Int32) (a9_23 : Nat) (a9_24 : Nat) (a9_25 : Nat) (a9_26 : Nat) (a9_27 : Nat) (a9_28 : Nat) (a9_29 : Nat) (a9_30 : Nat) (a9_31 : Nat) (a9_32 : Nat) (a9_33 : Nat) (a9_34 : Nat) (v9_35 : Int32) (v9_36 : Int32) (a9_37 : Nat) (a9_38 : Nat) (a9_39 : Nat) (a9_40 : Nat) (a9_41 : Nat) (v9_42 : Int32) (a9_43 : Nat) (a9_44 : Nat) (a9_45 : Nat) (a9_46 : Nat) (a9_47 : Nat) (v9_48 : Int32) (v9_49 : Int32) (v9_50 : Int32) (v9_51 : Int32) (a9_52 : Nat) (a9_53 : Nat) (v9_54 : Int32) (v9_55 : Int32) (a9_56 : Nat) (a9_57 : Nat) (v9_58 : Int32) (a9_59 : Nat) (a9_60 : Nat) (a9_61 : Nat) (g9_39 : Nat → Int32) (g9_43 : Nat → Int32) (g9_44 : Nat → Int32) (g9_52 : Nat → Int32) (g9_57 : Nat → Int32) (R : Int64 × Int32) (hf : f_X9_digest v9_0 v9_49 v9_50 v9_51 v9_58 g9_39 g9_43 g9_44 g9_52 g9_57 = some R) : Met l yX9_digest wsX9_digest ({ frames := 1, cells := 0, slots := 0, locals := 23 }) (va_Pc [.ref o9] (x_PreD (dC, dI) (x_T cyI cyZ cyJ) [(o9, .inr (9, x_O9 v9_0 v9_1 v9_2 v9_3 a9_4 a9_5 a9_6 a9_7 a9_8 a9_9 a9_10 a9_11 a9_12 v9_13 v9_14 v9_15 v9_16 v9_17 v9_18 a9_19 v9_20 v9_21 v9_22 a9_23 a9_24 a9_25 a9_26 a9_27 a9_28 a9_29 a9_30 a9_31 a9_32 a9_33 a9_34 v9_35 v9_36 a9_37 a9_38 a9_39 a9_40 a9_41 v9_42 a9_43 a9_44 a9_45 a9_46 a9_47 v9_48 v9_49 v9_50 v9_51 a9_52 a9_53 v9_54 v9_55 a9_56 a9_57 v9_58 a9_59 a9_60 a9_61)), (a9_39, .inl (cyI, 20010, .inl g9_39)), (a9_43, .inl (cyI, 20010, .inl g9_43)), (a9_44, .inl (cyI, 20010, .inl g9_44)), (a9_52, .inl (cyI, 20010, .inl g9_52)), (a9_57, .inl (cyI, 60600, .inl g9_57))] sz)) (va_Ql (fun (r : Int64) (_ : Unit) => r = R.1) (fun (_ : Unit) (t : State) => va_P (dC, dI) vwCl [(o9, .inr (9, x_O9 (R.2) v9_1 v9_2 v9_3 a9_4 a9_5 a9_6 a9_7 a9_8 a9_9 a9_10 a9_11 a9_12 v9_13 v9_14 v9_15 v9_16 v9_17 v9_18 a9_19 v9_20 v9_21 v9_22 a9_23 a9_24 a9_25 a9_26 a9_27 a9_28 a9_29 a9_30 a9_31 a9_32 a9_33 a9_34 v9_35 v9_36 a9_37 a9_38 a9_39 a9_40 a9_41 v9_42 a9_43 a9_44 a9_45 a9_46 a9_47 v9_48 v9_49 v9_50 v9_51 a9_52 a9_53 v9_54 v9_55 a9_56 a9_57 v9_58 a9_59 a9_60 a9_61)), (a9_39, .inl (cyI, 20010, .inl g9_39)), (a9_43, .inl (cyI, 20010, .inl g9_43)), (a9_44, .inl (cyI, 20010, .inl g9_44)), (a9_52, .inl (cyI, 20010, .inl g9_52)), (a9_57, .inl (cyI, 60600, .inl g9_57))] t.heap ∧ va_K (dC, dI) vwCl (x_T cyI cyZ cyJ) t ∧ va_D (va_A [(o9, .inr (9, x_O9 v9_0 v9_1 v9_2 v9_3 a9_4 a9_5 a9_6 a9_7 a9_8 a9_9 a9_10 a9_11 a9_12 v9_13 v9_14 v9_15 v9_16 v9_17 v9_18 a9_19 v9_20 v9_21 v9_22 a9_23 a9_24 a9_25 a9_26 a9_27 a9_28 a9_29 a9_30 a9_31 a9_32 a9_33 a9_34 v9_35 v9_36 a9_37 a9_38 a9_39 a9_40 a9_41 v9_42 a9_43 a9_44 a9_45 a9_46 a9_47 v9_48 v9_49 v9_50 v9_51 a9_52 a9_53 v9_54 v9_55 a9_56 a9_57 v9_58 a9_59 a9_60 a9_61)), (a9_39, .inl (cyI, 20010, .inl g9_39)), (a9_43, .inl (cyI, 20010, .inl g9_43)), (a9_44, .inl (cyI, 20010, .inl g9_44)), (a9_52, .inl (cyI, 20010, .inl g9_52)), (a9_57, .inl (cyI, 60600, .inl g9_57))] sz) [(o9, .inr (9, x_O9 (R.2) v9_1 v9_2 v9_3 a9_4 a9_5 a9_6 a9_7 a9_8 a9_9 a9_10 a9_11 a9_12 v9_13 v9_14 v9_15 v9_16 v9_17 v9_18 a9_19 v9_20 v9_21 v9_22 a9_23 a9_24 a9_25 a9_26 a9_27 a9_28 a9_29 a9_30 a9_31 a9_32 a9_33 a9_34 v9_35 v9_36 a9_37 a9_38 a9_39 a9_40 a9_41 v9_42 a9_43 a9_44 a9_45 a9_46 a9_47 v9_48 v9_49 v9_50 v9_51 a9_52 a9_53 v9_54 v9_55 a9_56 a9_57 v9_58 a9_59 a9_60 a9_61)), (a9_39, .inl (cyI, 20010, .inl g9_39)), (a9_43, .inl (cyI, 20010, .inl g9_43)), (a9_44, .inl (cyI, 20010, .inl g9_44)), (a9_52, .inl (cyI, 20010, .inl g9_52)), (a9_57, .inl (cyI, 60600, .inl g9_57))]) (va_A [(o9, .inr (9, x_O9 v9_0 v9_1 v9_2 v9_3 a9_4 a9_5 a9_6 a9_7 a9_8 a9_9 a9_10 a9_11 a9_12 v9_13 v9_14 v9_15 v9_16 v9_17 v9_18 a9_19 v9_20 v9_21 v9_22 a9_23 a9_24 a9_25 a9_26 a9_27 a9_28 a9_29 a9_30 a9_31 a9_32 a9_33 a9_34 v9_35 v9_36 a9_37 a9_38 a9_39 a9_40 a9_41 v9_42 a9_43 a9_44 a9_45 a9_46 a9_47 v9_48 v9_49 v9_50 v9_51 a9_52 a9_53 v9_54 v9_55 a9_56 a9_57 v9_58 a9_59 a9_60 a9_61)), (a9_39, .inl (cyI, 20010, .inl g9_39)), (a9_43, .inl (cyI, 20010, .inl g9_43)), (a9_44, .inl (cyI, 20010, .inl g9_44)), (a9_52, .inl (cyI, 20010, .inl g9_52)), (a9_57, .inl (cyI, 60600, .inl g9_57))] sz)) 0 0 (va_A [(o9, .inr (9, x_O9 v9_0 v9_1 v9_2 v9_3 a9_4 a9_5 a9_6 a9_7 a9_8 a9_9 a9_10 a9_11 a9_12 v9_13 v9_14 v9_15 v9_16 v9_17 v9_18 a9_19 v9_20 v9_21 v9_22 a9_23 a9_24 a9_25 a9_26 a9_27 a9_28 a9_29 a9_30 a9_31 a9_32 a9_33 a9_34 v9_35 v9_36 a9_37 a9_38 a9_39 a9_40 a9_41 v9_42 a9_43 a9_44 a9_45 a9_46 a9_47 v9_48 v9_49 v9_50 v9_51 a9_52 a9_53 v9_54 v9_55 a9_56 a9_57 v9_58 a9_59 a9_60 a9_61)), (a9_39, .inl (cyI, 20010, .inl g9_39)), (a9_43, .inl (cyI, 20010, .inl g9_43)), (a9_44, .inl (cyI, 20010, .inl g9_44)), (a9_52, .inl (cyI, 20010, .inl g9_52)), (a9_57, .inl (cyI, 60600, .inl g9_57))] sz) := by
  refine Met.ofW (cc := cX9_digest) (maxL := 7) (ret := (some .long)) (by decide) rfl ?_
  intro p e s m args below meth c s₁ B hml hv
  obtain ⟨rfl, ⟨hsz, hP, hK, hN⟩, hD0⟩ := hv
  have hx := B.exec
  have hb := B.bytes
  have hr := B.returns
  have hts := atoms_spec (ws := wsX9_digest) B.pre
  have hown : s.vm.findClass RX9 = some m.cls := findClass_of_methodNamed B.named
  have k_1 := hts (.fieldLink RX9 260 "FlowJudgeModel" "told" "I") (by decide +kernel)
  have k_2 := hts (.fieldLink RX9 118 "FlowJudgeModel" "order" "[I") (by decide +kernel)
  have k_3 := hts (.fieldLink RX9 263 "FlowJudgeModel" "toldL" "I") (by decide +kernel)
  have k_4 := hts (.constantLong RX9 366 (31)) (by decide +kernel)
  have k_5 := hts (.fieldLink RX9 128 "FlowJudgeModel" "frames" "[I") (by decide +kernel)
  have k_6 := hts (.fieldLink RX9 266 "FlowJudgeModel" "toldS" "I") (by decide +kernel)
  have k_7 := hts (.fieldLink RX9 1 "FlowJudgeModel" "thrown" "I") (by decide +kernel)
  have k_8 := hts (.constantLong RX9 364 (7)) (by decide +kernel)
  subst hsz
  have hD := hD0.self (sz := s.heap.size)
  generalize hAe : va_A [(o9, .inr (9, x_O9 v9_0 v9_1 v9_2 v9_3 a9_4 a9_5 a9_6 a9_7 a9_8 a9_9 a9_10 a9_11 a9_12 v9_13 v9_14 v9_15 v9_16 v9_17 v9_18 a9_19 v9_20 v9_21 v9_22 a9_23 a9_24 a9_25 a9_26 a9_27 a9_28 a9_29 a9_30 a9_31 a9_32 a9_33 a9_34 v9_35 v9_36 a9_37 a9_38 a9_39 a9_40 a9_41 v9_42 a9_43 a9_44 a9_45 a9_46 a9_47 v9_48 v9_49 v9_50 v9_51 a9_52 a9_53 v9_54 v9_55 a9_56 a9_57 v9_58 a9_59 a9_60 a9_61)), (a9_39, .inl (cyI, 20010, .inl g9_39)), (a9_43, .inl (cyI, 20010, .inl g9_43)), (a9_44, .inl (cyI, 20010, .inl g9_44)), (a9_52, .inl (cyI, 20010, .inl g9_52)), (a9_57, .inl (cyI, 60600, .inl g9_57))] s.heap.size = A at hD ⊢
  have hA : ∀ q : Nat, s.heap.size ≤ q → A q := fun q h => by rw [← hAe]; exact Or.inr h
  have hP : va_P (dC, dI) vwCl [(o9, .inr (9, x_O9 v9_0 v9_1 v9_2 v9_3 a9_4 a9_5 a9_6 a9_7 a9_8 a9_9 a9_10 a9_11 a9_12 v9_13 v9_14 v9_15 v9_16 v9_17 v9_18 a9_19 v9_20 v9_21 v9_22 a9_23 a9_24 a9_25 a9_26 a9_27 a9_28 a9_29 a9_30 a9_31 a9_32 a9_33 a9_34 v9_35 v9_36 a9_37 a9_38 a9_39 a9_40 a9_41 v9_42 a9_43 a9_44 a9_45 a9_46 a9_47 v9_48 v9_49 v9_50 v9_51 a9_52 a9_53 v9_54 v9_55 a9_56 a9_57 v9_58 a9_59 a9_60 a9_61)), (a9_39, .inl (cyI, 20010, .inl g9_39)), (a9_43, .inl (cyI, 20010, .inl g9_43)), (a9_44, .inl (cyI, 20010, .inl g9_44)), (a9_52, .inl (cyI, 20010, .inl g9_52)), (a9_57, .inl (cyI, 60600, .inl g9_57))] s.heap := hP
  have hl := lv_entry ([.ref o9]) (n := 7) (Nat.le_of_ble_eq_true rfl)
  rw [lg_entry_eq]
  generalize (lg_sl ([.ref o9]) ++ List.replicate (7 - (lg_sl ([.ref o9])).length) Slot.unset).toArray = ls at hl ⊢
  have hl : lv_has ls 7 [(0, .ref o9)] := hl
  obtain ⟨H, hH⟩ : ∃ z, z = s.heap := ⟨_, rfl⟩
  refine x_here hH ?_
  have hP : va_P (dC, dI) vwCl [(o9, .inr (9, x_O9 v9_0 v9_1 v9_2 v9_3 a9_4 a9_5 a9_6 a9_7 a9_8 a9_9 a9_10 a9_11 a9_12 v9_13 v9_14 v9_15 v9_16 v9_17 v9_18 a9_19 v9_20 v9_21 v9_22 a9_23 a9_24 a9_25 a9_26 a9_27 a9_28 a9_29 a9_30 a9_31 a9_32 a9_33 a9_34 v9_35 v9_36 a9_37 a9_38 a9_39 a9_40 a9_41 v9_42 a9_43 a9_44 a9_45 a9_46 a9_47 v9_48 v9_49 v9_50 v9_51 a9_52 a9_53 v9_54 v9_55 a9_56 a9_57 v9_58 a9_59 a9_60 a9_61)), (a9_39, .inl (cyI, 20010, .inl g9_39)), (a9_43, .inl (cyI, 20010, .inl g9_43)), (a9_44, .inl (cyI, 20010, .inl g9_44)), (a9_52, .inl (cyI, 20010, .inl g9_52)), (a9_57, .inl (cyI, 60600, .inl g9_57))] H := by rw [hH]; exact hP
  have hS : va_S A s.heap H [] := by rw [hH]; exact va_S.rf
  clear hH
  obtain ⟨locs, hlo⟩ : ∃ z : List Loc, z = [] := ⟨_, rfl⟩
  refine x_herl hlo ?_
  have hS : va_S A s.heap H locs := by rw [hlo]; exact hS
  clear hlo
  unfold f_X9_digest at hf
  refine x_wn (fun WW hWW => ?_)
  have J := fun (v9_0 : Int32) => f_X9_digest_L.partial_correctness v9_49 v9_50 v9_51 v9_58 g9_39 g9_43 g9_44 g9_52 g9_57 v9_0 (fun (z : Nat × Int64 × Int32 × Int32 × Int32 × Int32) (r : Int64 × Int32) => r = R → ∀ (q : Nat) (l1 : Int64) (l3 : Int32) (l4 : Int32) (l5 : Int32) (l6 : Int32), z = (q, l1, l3, l4, l5, l6) → ((q = 0 → ∀ (H : Heap) (locs : List Loc) (ls : Array Slot), va_P (dC, dI) vwCl [(o9, .inr (9, x_O9 v9_0 v9_1 v9_2 v9_3 a9_4 a9_5 a9_6 a9_7 a9_8 a9_9 a9_10 a9_11 a9_12 v9_13 v9_14 v9_15 v9_16 v9_17 v9_18 a9_19 v9_20 v9_21 v9_22 a9_23 a9_24 a9_25 a9_26 a9_27 a9_28 a9_29 a9_30 a9_31 a9_32 a9_33 a9_34 v9_35 v9_36 a9_37 a9_38 a9_39 a9_40 a9_41 v9_42 a9_43 a9_44 a9_45 a9_46 a9_47 v9_48 v9_49 v9_50 v9_51 a9_52 a9_53 v9_54 v9_55 a9_56 a9_57 v9_58 a9_59 a9_60 a9_61)), (a9_39, .inl (cyI, 20010, .inl g9_39)), (a9_43, .inl (cyI, 20010, .inl g9_43)), (a9_44, .inl (cyI, 20010, .inl g9_44)), (a9_52, .inl (cyI, 20010, .inl g9_52)), (a9_57, .inl (cyI, 60600, .inl g9_57))] H → va_D A [(o9, .inr (9, x_O9 v9_0 v9_1 v9_2 v9_3 a9_4 a9_5 a9_6 a9_7 a9_8 a9_9 a9_10 a9_11 a9_12 v9_13 v9_14 v9_15 v9_16 v9_17 v9_18 a9_19 v9_20 v9_21 v9_22 a9_23 a9_24 a9_25 a9_26 a9_27 a9_28 a9_29 a9_30 a9_31 a9_32 a9_33 a9_34 v9_35 v9_36 a9_37 a9_38 a9_39 a9_40 a9_41 v9_42 a9_43 a9_44 a9_45 a9_46 a9_47 v9_48 v9_49 v9_50 v9_51 a9_52 a9_53 v9_54 v9_55 a9_56 a9_57 v9_58 a9_59 a9_60 a9_61)), (a9_39, .inl (cyI, 20010, .inl g9_39)), (a9_43, .inl (cyI, 20010, .inl g9_43)), (a9_44, .inl (cyI, 20010, .inl g9_44)), (a9_52, .inl (cyI, 20010, .inl g9_52)), (a9_57, .inl (cyI, 60600, .inl g9_57))] → va_S A s.heap H locs → lv_has ls 7 [(0, .ref o9), (1, .long l1), (3, .int l3)] → WW H locs 0 0 (F0 m 11 ls [])) ∧ (q = 1 → ∀ (H : Heap) (locs : List Loc) (ls : Array Slot), va_P (dC, dI) vwCl [(o9, .inr (9, x_O9 v9_0 v9_1 v9_2 v9_3 a9_4 a9_5 a9_6 a9_7 a9_8 a9_9 a9_10 a9_11 a9_12 v9_13 v9_14 v9_15 v9_16 v9_17 v9_18 a9_19 v9_20 v9_21 v9_22 a9_23 a9_24 a9_25 a9_26 a9_27 a9_28 a9_29 a9_30 a9_31 a9_32 a9_33 a9_34 v9_35 v9_36 a9_37 a9_38 a9_39 a9_40 a9_41 v9_42 a9_43 a9_44 a9_45 a9_46 a9_47 v9_48 v9_49 v9_50 v9_51 a9_52 a9_53 v9_54 v9_55 a9_56 a9_57 v9_58 a9_59 a9_60 a9_61)), (a9_39, .inl (cyI, 20010, .inl g9_39)), (a9_43, .inl (cyI, 20010, .inl g9_43)), (a9_44, .inl (cyI, 20010, .inl g9_44)), (a9_52, .inl (cyI, 20010, .inl g9_52)), (a9_57, .inl (cyI, 60600, .inl g9_57))] H → va_D A [(o9, .inr (9, x_O9 v9_0 v9_1 v9_2 v9_3 a9_4 a9_5 a9_6 a9_7 a9_8 a9_9 a9_10 a9_11 a9_12 v9_13 v9_14 v9_15 v9_16 v9_17 v9_18 a9_19 v9_20 v9_21 v9_22 a9_23 a9_24 a9_25 a9_26 a9_27 a9_28 a9_29 a9_30 a9_31 a9_32 a9_33 a9_34 v9_35 v9_36 a9_37 a9_38 a9_39 a9_40 a9_41 v9_42 a9_43 a9_44 a9_45 a9_46 a9_47 v9_48 v9_49 v9_50 v9_51 a9_52 a9_53 v9_54 v9_55 a9_56 a9_57 v9_58 a9_59 a9_60 a9_61)), (a9_39, .inl (cyI, 20010, .inl g9_39)), (a9_43, .inl (cyI, 20010, .inl g9_43)), (a9_44, .inl (cyI, 20010, .inl g9_44)), (a9_52, .inl (cyI, 20010, .inl g9_52)), (a9_57, .inl (cyI, 60600, .inl g9_57))] → va_S A s.heap H locs → lv_has ls 7 [(0, .ref o9), (1, .long l1), (3, .int l3), (4, .int l4), (5, .int l5)] → WW H locs 0 0 (F0 m 30 ls [])) ∧ (q = 2 → ∀ (H : Heap) (locs : List Loc) (ls : Array Slot), va_P (dC, dI) vwCl [(o9, .inr (9, x_O9 v9_0 v9_1 v9_2 v9_3 a9_4 a9_5 a9_6 a9_7 a9_8 a9_9 a9_10 a9_11 a9_12 v9_13 v9_14 v9_15 v9_16 v9_17 v9_18 a9_19 v9_20 v9_21 v9_22 a9_23 a9_24 a9_25 a9_26 a9_27 a9_28 a9_29 a9_30 a9_31 a9_32 a9_33 a9_34 v9_35 v9_36 a9_37 a9_38 a9_39 a9_40 a9_41 v9_42 a9_43 a9_44 a9_45 a9_46 a9_47 v9_48 v9_49 v9_50 v9_51 a9_52 a9_53 v9_54 v9_55 a9_56 a9_57 v9_58 a9_59 a9_60 a9_61)), (a9_39, .inl (cyI, 20010, .inl g9_39)), (a9_43, .inl (cyI, 20010, .inl g9_43)), (a9_44, .inl (cyI, 20010, .inl g9_44)), (a9_52, .inl (cyI, 20010, .inl g9_52)), (a9_57, .inl (cyI, 60600, .inl g9_57))] H → va_D A [(o9, .inr (9, x_O9 v9_0 v9_1 v9_2 v9_3 a9_4 a9_5 a9_6 a9_7 a9_8 a9_9 a9_10 a9_11 a9_12 v9_13 v9_14 v9_15 v9_16 v9_17 v9_18 a9_19 v9_20 v9_21 v9_22 a9_23 a9_24 a9_25 a9_26 a9_27 a9_28 a9_29 a9_30 a9_31 a9_32 a9_33 a9_34 v9_35 v9_36 a9_37 a9_38 a9_39 a9_40 a9_41 v9_42 a9_43 a9_44 a9_45 a9_46 a9_47 v9_48 v9_49 v9_50 v9_51 a9_52 a9_53 v9_54 v9_55 a9_56 a9_57 v9_58 a9_59 a9_60 a9_61)), (a9_39, .inl (cyI, 20010, .inl g9_39)), (a9_43, .inl (cyI, 20010, .inl g9_43)), (a9_44, .inl (cyI, 20010, .inl g9_44)), (a9_52, .inl (cyI, 20010, .inl g9_52)), (a9_57, .inl (cyI, 60600, .inl g9_57))] → va_S A s.heap H locs → lv_has ls 7 [(0, .ref o9), (1, .long l1), (3, .int l3), (4, .int l4), (5, .int l5), (6, .int l6)] → WW H locs 0 0 (F0 m 75 ls [])))) (by
    intro F ih z r hf hr q l1 l3 l4 l5 l6 hz
    subst hz
    obtain rfl := hr
    refine ⟨?_, ?_, ?_⟩
    · intro hq H locs ls hP hD hS hl
      subst hq
      refine (hWW _ _ _ _ _).mp ?_
      replace hf := x_ip rfl hf
      refine lv_iload_n hx hb dX9_digest_11 rfl (lv_at hl 2 rfl) ?_
      refine lv_aload_n hx hb dX9_digest_12 rfl (lv_at hl 0 rfl) ?_
      refine va_get (D := (dC, dI)) (ci := 9) (v := .int v9_49) (C := RX9) (T := TX9) (N := 62) hx hb hts i_X9_digest_X9 hown hK hP 0 rfl rfl 49 (by decide) k_1 (fun _ h9 => h9) rfl dX9_digest_13 ?_
      refine lv_icmp_ge (tgt := 124) hx hb dX9_digest_16 (by decide) (fun c_1 => ?_) (fun c_1 => ?_)
      · replace hf := x_ip c_1 hf
        refine lv_lload_n hx hb dX9_digest_124 rfl (lv_at hl 1 rfl) ?_
        obtain rfl := Option.some.inj hf
        have hP9 := hP.sub (ws' := [(o9, .inr (9, x_O9 v9_0 v9_1 v9_2 v9_3 a9_4 a9_5 a9_6 a9_7 a9_8 a9_9 a9_10 a9_11 a9_12 v9_13 v9_14 v9_15 v9_16 v9_17 v9_18 a9_19 v9_20 v9_21 v9_22 a9_23 a9_24 a9_25 a9_26 a9_27 a9_28 a9_29 a9_30 a9_31 a9_32 a9_33 a9_34 v9_35 v9_36 a9_37 a9_38 a9_39 a9_40 a9_41 v9_42 a9_43 a9_44 a9_45 a9_46 a9_47 v9_48 v9_49 v9_50 v9_51 a9_52 a9_53 v9_54 v9_55 a9_56 a9_57 v9_58 a9_59 a9_60 a9_61)), (a9_39, .inl (cyI, 20010, .inl g9_39)), (a9_43, .inl (cyI, 20010, .inl g9_43)), (a9_44, .inl (cyI, 20010, .inl g9_44)), (a9_52, .inl (cyI, 20010, .inl g9_52)), (a9_57, .inl (cyI, 60600, .inl g9_57))]) [0, 1, 2, 3, 4, 5] rfl
        have hD9 := hD.sub (ws' := [(o9, .inr (9, x_O9 v9_0 v9_1 v9_2 v9_3 a9_4 a9_5 a9_6 a9_7 a9_8 a9_9 a9_10 a9_11 a9_12 v9_13 v9_14 v9_15 v9_16 v9_17 v9_18 a9_19 v9_20 v9_21 v9_22 a9_23 a9_24 a9_25 a9_26 a9_27 a9_28 a9_29 a9_30 a9_31 a9_32 a9_33 a9_34 v9_35 v9_36 a9_37 a9_38 a9_39 a9_40 a9_41 v9_42 a9_43 a9_44 a9_45 a9_46 a9_47 v9_48 v9_49 v9_50 v9_51 a9_52 a9_53 v9_54 v9_55 a9_56 a9_57 v9_58 a9_59 a9_60 a9_61)), (a9_39, .inl (cyI, 20010, .inl g9_39)), (a9_43, .inl (cyI, 20010, .inl g9_43)), (a9_44, .inl (cyI, 20010, .inl g9_44)), (a9_52, .inl (cyI, 20010, .inl g9_52)), (a9_57, .inl (cyI, 60600, .inl g9_57))]) [0, 1, 2, 3, 4, 5] (by decide) rfl
        exact W.lret hx hb hr (fun t ht hW => ⟨⟨_, (), rfl, rfl, by rw [ht]; exact hP9, va_K.moved hW.alike hK, hD9⟩, hS.F ht⟩) hS.2.2 dX9_digest_125
      · replace hf := x_in c_1 hf
        refine lv_aload_n hx hb dX9_digest_19 rfl (lv_at hl 0 rfl) ?_
        refine va_get (D := (dC, dI)) (ci := 9) (v := .ref a9_52) (C := RX9) (T := TX9) (N := 62) hx hb hts i_X9_digest_X9 hown hK hP 0 rfl rfl 52 (by decide) k_2 (fun _ h9 => h9) rfl dX9_digest_20 ?_
        refine lv_iload_n hx hb dX9_digest_23 rfl (lv_at hl 2 rfl) ?_
        obtain ⟨g_2, hf⟩ := x_gu hf
        refine va_iald hx hb hK hP 4 0 rfl rfl (x_gdin g_2) dX9_digest_24 ?_
        refine lv_istore (lv' := [(4, .int (g9_52 (Int32.toNatClampNeg l3))), (0, .ref o9), (1, .long l1), (3, .int l3)]) hx hb dX9_digest_25 hl (by decide) rfl (fun ls hl => ?_)
        refine lv_iconst (v := 0) hx hb dX9_digest_27 (by decide) ?_
        refine lv_istore (lv' := [(5, .int 0), (4, .int (g9_52 (Int32.toNatClampNeg l3))), (0, .ref o9), (1, .long l1), (3, .int l3)]) hx hb dX9_digest_28 hl (by decide) rfl (fun ls hl => ?_)
        exact (hWW _ _ _ _ _).mpr ((ih (1, l1, l3, g9_52 (Int32.toNatClampNeg l3), 0, 0) _ hf rfl _ _ _ _ _ _ rfl).2.1 rfl H locs ls hP hD hS (lv_sub hl [2, 3, 4, 1, 0] rfl))
    · intro hq H locs ls hP hD hS hl
      subst hq
      refine (hWW _ _ _ _ _).mp ?_
      replace hf := x_ip rfl (x_in (by decide) hf)
      refine lv_iload hx hb dX9_digest_30 (lv_at hl 4 rfl) ?_
      refine lv_iconst (v := 4) hx hb dX9_digest_32 (by decide) ?_
      refine lv_icmp_ge (tgt := 58) hx hb dX9_digest_33 (by decide) (fun c_3 => ?_) (fun c_3 => ?_)
      · replace hf := x_ip c_3 hf
        refine lv_aload_n hx hb dX9_digest_58 rfl (lv_at hl 0 rfl) ?_
        refine va_get (D := (dC, dI)) (ci := 9) (v := .int v9_50) (C := RX9) (T := TX9) (N := 62) hx hb hts i_X9_digest_X9 hown hK hP 0 rfl rfl 50 (by decide) k_3 (fun _ h9 => h9) rfl dX9_digest_59 ?_
        refine lv_aload_n hx hb dX9_digest_62 rfl (lv_at hl 0 rfl) ?_
        refine lv_iload hx hb dX9_digest_63 (lv_at hl 3 rfl) ?_
        refine lv_iconst (v := 2) hx hb dX9_digest_65 (by decide) ?_
        obtain ⟨r_4, h_4, hf⟩ := x_bi hf
        have hPc := hP.sub (ws' := [(o9, .inr (9, x_O9 v9_0 v9_1 v9_2 v9_3 a9_4 a9_5 a9_6 a9_7 a9_8 a9_9 a9_10 a9_11 a9_12 v9_13 v9_14 v9_15 v9_16 v9_17 v9_18 a9_19 v9_20 v9_21 v9_22 a9_23 a9_24 a9_25 a9_26 a9_27 a9_28 a9_29 a9_30 a9_31 a9_32 a9_33 a9_34 v9_35 v9_36 a9_37 a9_38 a9_39 a9_40 a9_41 v9_42 a9_43 a9_44 a9_45 a9_46 a9_47 v9_48 v9_49 v9_50 v9_51 a9_52 a9_53 v9_54 v9_55 a9_56 a9_57 v9_58 a9_59 a9_60 a9_61)), (a9_39, .inl (cyI, 20010, .inl g9_39)), (a9_43, .inl (cyI, 20010, .inl g9_43)), (a9_44, .inl (cyI, 20010, .inl g9_44)), (a9_57, .inl (cyI, 60600, .inl g9_57))]) [0, 1, 2, 3, 5] rfl
        refine va_calli (va_runV (As := [.int l4, .int 2]) (rest := [.int v9_50]) ⟨hx, hb, hml, hown, hts⟩ (c_X9_part l dC dI cyI cyZ cyJ H.size o9 v9_0 v9_1 v9_2 v9_3 a9_4 a9_5 a9_6 a9_7 a9_8 a9_9 a9_10 a9_11 a9_12 v9_13 v9_14 v9_15 v9_16 v9_17 v9_18 a9_19 v9_20 v9_21 v9_22 a9_23 a9_24 a9_25 a9_26 a9_27 a9_28 a9_29 a9_30 a9_31 a9_32 a9_33 a9_34 v9_35 v9_36 a9_37 a9_38 a9_39 a9_40 a9_41 v9_42 a9_43 a9_44 a9_45 a9_46 a9_47 v9_48 v9_49 v9_50 v9_51 a9_52 a9_53 v9_54 v9_55 a9_56 a9_57 v9_58 a9_59 a9_60 a9_61 g9_39 g9_43 g9_44 g9_57 l4 2 r_4 h_4) (cwV 2 hts gX9_digest_X9_part rfl rfl rfl (by decide +kernel) ⟨Nat.le_of_ble_eq_true rfl, Nat.le_of_ble_eq_true rfl⟩) (x_pV hN hK hPc (ci := 9) (q0 := 0) rfl rfl) rfl rfl hl.1 rfl (lv_room (Nat.le_of_ble_eq_true rfl)) dX9_digest_66 ⟨Nat.le_of_ble_eq_true rfl, Nat.le_of_ble_eq_true rfl⟩) hS x_nA (x_nf hA hS) (fun q_4 u t H1 locs ht hvm hw hB hz1 hk1 hS => ?_)
        have hP := x_kp hP hk1
        clear ht hvm hB hz1 hk1 t u hPc
        generalize H1 = H at hP hS ⊢
        obtain rfl := hw.symm
        refine lv_iadd hx hb dX9_digest_69 ?_
        refine lv_istore (lv' := [(5, .int (v9_50 + r_4)), (0, .ref o9), (1, .long l1), (3, .int l3), (4, .int l4)]) hx hb dX9_digest_70 hl (by decide) rfl (fun ls hl => ?_)
        refine lv_iconst (v := 0) hx hb dX9_digest_72 (by decide) ?_
        refine lv_istore (lv' := [(6, .int 0), (5, .int (v9_50 + r_4)), (0, .ref o9), (1, .long l1), (3, .int l3), (4, .int l4)]) hx hb dX9_digest_73 hl (by decide) rfl (fun ls hl => ?_)
        exact (hWW _ _ _ _ _).mpr ((ih (2, l1, l3, l4, v9_50 + r_4, 0) _ hf rfl _ _ _ _ _ _ rfl).2.2 rfl H locs ls hP hD hS (lv_sub hl [2, 3, 4, 5, 1, 0] rfl))
      · replace hf := x_in c_3 hf
        refine lv_ldc2 (v := 31) hx hb hown k_4 dX9_digest_36 ?_
        refine lv_lload_n hx hb dX9_digest_39 rfl (lv_at hl 1 rfl) ?_
        refine lv_lmul hx hb dX9_digest_40 ?_
        refine lv_aload_n hx hb dX9_digest_41 rfl (lv_at hl 0 rfl) ?_
        refine lv_iload hx hb dX9_digest_42 (lv_at hl 3 rfl) ?_
        refine lv_iload hx hb dX9_digest_44 (lv_at hl 4 rfl) ?_
        obtain ⟨r_5, h_5, hf⟩ := x_bi hf
        have hPc := hP.sub (ws' := [(o9, .inr (9, x_O9 v9_0 v9_1 v9_2 v9_3 a9_4 a9_5 a9_6 a9_7 a9_8 a9_9 a9_10 a9_11 a9_12 v9_13 v9_14 v9_15 v9_16 v9_17 v9_18 a9_19 v9_20 v9_21 v9_22 a9_23 a9_24 a9_25 a9_26 a9_27 a9_28 a9_29 a9_30 a9_31 a9_32 a9_33 a9_34 v9_35 v9_36 a9_37 a9_38 a9_39 a9_40 a9_41 v9_42 a9_43 a9_44 a9_45 a9_46 a9_47 v9_48 v9_49 v9_50 v9_51 a9_52 a9_53 v9_54 v9_55 a9_56 a9_57 v9_58 a9_59 a9_60 a9_61)), (a9_39, .inl (cyI, 20010, .inl g9_39)), (a9_43, .inl (cyI, 20010, .inl g9_43)), (a9_44, .inl (cyI, 20010, .inl g9_44)), (a9_57, .inl (cyI, 60600, .inl g9_57))]) [0, 1, 2, 3, 5] rfl
        refine va_calli (va_runV (As := [.int l4, .int l5]) (rest := [.long ((31 : Int64) * l1)]) ⟨hx, hb, hml, hown, hts⟩ (c_X9_part l dC dI cyI cyZ cyJ H.size o9 v9_0 v9_1 v9_2 v9_3 a9_4 a9_5 a9_6 a9_7 a9_8 a9_9 a9_10 a9_11 a9_12 v9_13 v9_14 v9_15 v9_16 v9_17 v9_18 a9_19 v9_20 v9_21 v9_22 a9_23 a9_24 a9_25 a9_26 a9_27 a9_28 a9_29 a9_30 a9_31 a9_32 a9_33 a9_34 v9_35 v9_36 a9_37 a9_38 a9_39 a9_40 a9_41 v9_42 a9_43 a9_44 a9_45 a9_46 a9_47 v9_48 v9_49 v9_50 v9_51 a9_52 a9_53 v9_54 v9_55 a9_56 a9_57 v9_58 a9_59 a9_60 a9_61 g9_39 g9_43 g9_44 g9_57 l4 l5 r_5 h_5) (cwV 2 hts gX9_digest_X9_part rfl rfl rfl (by decide +kernel) ⟨Nat.le_of_ble_eq_true rfl, Nat.le_of_ble_eq_true rfl⟩) (x_pV hN hK hPc (ci := 9) (q0 := 0) rfl rfl) rfl rfl hl.1 rfl (lv_room (Nat.le_of_ble_eq_true rfl)) dX9_digest_46 ⟨Nat.le_of_ble_eq_true rfl, Nat.le_of_ble_eq_true rfl⟩) hS x_nA (x_nf hA hS) (fun q_5 u t H1 locs ht hvm hw hB hz1 hk1 hS => ?_)
        have hP := x_kp hP hk1
        clear ht hvm hB hz1 hk1 t u hPc
        generalize H1 = H at hP hS ⊢
        obtain rfl := hw.symm
        refine lv_i2l (v := (Int32.toInt64 r_5)) hx hb dX9_digest_49 rfl ?_
        refine lv_ladd hx hb dX9_digest_50 ?_
        refine lv_lstore_n (lv' := [(1, .long (((31 : Int64) * l1) + (Int32.toInt64 r_5))), (0, .ref o9), (3, .int l3), (4, .int l4), (5, .int l5)]) hx hb dX9_digest_51 rfl hl (by decide) rfl (fun ls hl => ?_)
        refine lv_iinc (v := (l5 + 1)) (lv' := [(5, .int (l5 + 1)), (1, .long (((31 : Int64) * l1) + (Int32.toInt64 r_5))), (0, .ref o9), (3, .int l3), (4, .int l4)]) hx hb dX9_digest_52 hl (k := 4) rfl rfl (by decide) rfl (fun ls hl => ?_)
        refine lv_goto (tgt := 30) hx hb dX9_digest_55 (by decide) ?_
        exact (hWW _ _ _ _ _).mpr ((ih (1, ((31 : Int64) * l1) + (Int32.toInt64 r_5), l3, l4, l5 + 1, 0) _ hf rfl _ _ _ _ _ _ rfl).2.1 rfl H locs ls hP hD hS (lv_sub hl [2, 1, 3, 4, 0] rfl))
    · intro hq H locs ls hP hD hS hl
      subst hq
      refine (hWW _ _ _ _ _).mp ?_
      replace hf := x_ip rfl (x_in (by decide) (x_in (by decide) hf))
      refine lv_iload hx hb dX9_digest_75 (lv_at hl 5 rfl) ?_
      refine lv_iload hx hb dX9_digest_77 (lv_at hl 4 rfl) ?_
      refine lv_icmp_ge (tgt := 118) hx hb dX9_digest_79 (by decide) (fun c_6 => ?_) (fun c_6 => ?_)
      · replace hf := x_ip c_6 hf
        refine lv_iinc (v := (l3 + 1)) (lv' := [(3, .int (l3 + 1)), (0, .ref o9), (1, .long l1), (4, .int l4), (5, .int l5), (6, .int l6)]) hx hb dX9_digest_118 hl (k := 2) rfl rfl (by decide) rfl (fun ls hl => ?_)
        refine lv_goto (tgt := 11) hx hb dX9_digest_121 (by decide) ?_
        exact (hWW _ _ _ _ _).mpr ((ih (0, l1, l3 + 1, 0, 0, 0) _ hf rfl _ _ _ _ _ _ rfl).1 rfl H locs ls hP hD hS (lv_sub hl [1, 2, 0] rfl))
      · replace hf := x_in c_6 hf
        refine lv_ldc2 (v := 31) hx hb hown k_4 dX9_digest_82 ?_
        refine lv_lload_n hx hb dX9_digest_85 rfl (lv_at hl 1 rfl) ?_
        refine lv_lmul hx hb dX9_digest_86 ?_
        refine lv_aload_n hx hb dX9_digest_87 rfl (lv_at hl 0 rfl) ?_
        refine va_get (D := (dC, dI)) (ci := 9) (v := .ref a9_57) (C := RX9) (T := TX9) (N := 62) hx hb hts i_X9_digest_X9 hown hK hP 0 rfl rfl 57 (by decide) k_5 (fun _ h9 => h9) rfl dX9_digest_88 ?_
        refine lv_iload hx hb dX9_digest_91 (lv_at hl 3 rfl) ?_
        refine lv_aload_n hx hb dX9_digest_93 rfl (lv_at hl 0 rfl) ?_
        refine va_get (D := (dC, dI)) (ci := 9) (v := .int v9_50) (C := RX9) (T := TX9) (N := 62) hx hb hts i_X9_digest_X9 hown hK hP 0 rfl rfl 50 (by decide) k_3 (fun _ h9 => h9) rfl dX9_digest_94 ?_
        refine lv_aload_n hx hb dX9_digest_97 rfl (lv_at hl 0 rfl) ?_
        refine va_get (D := (dC, dI)) (ci := 9) (v := .int v9_51) (C := RX9) (T := TX9) (N := 62) hx hb hts i_X9_digest_X9 hown hK hP 0 rfl rfl 51 (by decide) k_6 (fun _ h9 => h9) rfl dX9_digest_98 ?_
        refine lv_iadd hx hb dX9_digest_101 ?_
        refine lv_iconst (v := 2) hx hb dX9_digest_102 (by decide) ?_
        refine lv_iadd hx hb dX9_digest_103 ?_
        refine lv_imul hx hb dX9_digest_104 ?_
        refine lv_iload hx hb dX9_digest_105 (lv_at hl 5 rfl) ?_
        refine lv_iadd hx hb dX9_digest_107 ?_
        obtain ⟨g_7, hf⟩ := x_gu hf
        refine va_iald hx hb hK hP 5 0 rfl rfl (x_gdin g_7) dX9_digest_108 ?_
        refine lv_i2l (v := (Int32.toInt64 (g9_57 (Int32.toNatClampNeg ((l4 * ((v9_50 + v9_51) + (2 : Int32))) + l6))))) hx hb dX9_digest_109 rfl ?_
        refine lv_ladd hx hb dX9_digest_110 ?_
        refine lv_lstore_n (lv' := [(1, .long (((31 : Int64) * l1) + (Int32.toInt64 (g9_57 (Int32.toNatClampNeg ((l4 * ((v9_50 + v9_51) + (2 : Int32))) + l6)))))), (0, .ref o9), (3, .int l3), (4, .int l4), (5, .int l5), (6, .int l6)]) hx hb dX9_digest_111 rfl hl (by decide) rfl (fun ls hl => ?_)
        refine lv_iinc (v := (l6 + 1)) (lv' := [(6, .int (l6 + 1)), (1, .long (((31 : Int64) * l1) + (Int32.toInt64 (g9_57 (Int32.toNatClampNeg ((l4 * ((v9_50 + v9_51) + (2 : Int32))) + l6)))))), (0, .ref o9), (3, .int l3), (4, .int l4), (5, .int l5)]) hx hb dX9_digest_112 hl (k := 5) rfl rfl (by decide) rfl (fun ls hl => ?_)
        refine lv_goto (tgt := 75) hx hb dX9_digest_115 (by decide) ?_
        exact (hWW _ _ _ _ _).mpr ((ih (2, ((31 : Int64) * l1) + (Int32.toInt64 (g9_57 (Int32.toNatClampNeg ((l4 * ((v9_50 + v9_51) + (2 : Int32))) + l6)))), l3, l4, l5, l6 + 1) _ hf rfl _ _ _ _ _ _ rfl).2.2 rfl H locs ls hP hD hS (lv_sub hl [2, 1, 3, 4, 5, 0] rfl)))
  refine lv_aload_n hx hb dX9_digest_0 rfl (lv_at hl 0 rfl) ?_
  refine lv_iconst (v := 0) hx hb dX9_digest_1 (by decide) ?_
  refine va_put (D := (dC, dI)) (ci := 9) (v := .int 0) (ty := .int) (C := RX9) (T := TX9) (N := 62) hx hb hts i_X9_digest_X9 tyX9 tyX9_ok nmX9 hown hK hP hD hS 0 rfl rfl 0 (by decide) k_7 (fun _ h9 => h9) rfl (by decide +kernel) rfl rfl (Nat.le_of_ble_eq_true rfl) dX9_digest_2 (fun H locs hP hD hS => ?_)
  have hP : va_P (dC, dI) vwCl [(o9, .inr (9, x_O9 0 v9_1 v9_2 v9_3 a9_4 a9_5 a9_6 a9_7 a9_8 a9_9 a9_10 a9_11 a9_12 v9_13 v9_14 v9_15 v9_16 v9_17 v9_18 a9_19 v9_20 v9_21 v9_22 a9_23 a9_24 a9_25 a9_26 a9_27 a9_28 a9_29 a9_30 a9_31 a9_32 a9_33 a9_34 v9_35 v9_36 a9_37 a9_38 a9_39 a9_40 a9_41 v9_42 a9_43 a9_44 a9_45 a9_46 a9_47 v9_48 v9_49 v9_50 v9_51 a9_52 a9_53 v9_54 v9_55 a9_56 a9_57 v9_58 a9_59 a9_60 a9_61)), (a9_39, .inl (cyI, 20010, .inl g9_39)), (a9_43, .inl (cyI, 20010, .inl g9_43)), (a9_44, .inl (cyI, 20010, .inl g9_44)), (a9_52, .inl (cyI, 20010, .inl g9_52)), (a9_57, .inl (cyI, 60600, .inl g9_57))] H := hP
  have hD : va_D A [(o9, .inr (9, x_O9 0 v9_1 v9_2 v9_3 a9_4 a9_5 a9_6 a9_7 a9_8 a9_9 a9_10 a9_11 a9_12 v9_13 v9_14 v9_15 v9_16 v9_17 v9_18 a9_19 v9_20 v9_21 v9_22 a9_23 a9_24 a9_25 a9_26 a9_27 a9_28 a9_29 a9_30 a9_31 a9_32 a9_33 a9_34 v9_35 v9_36 a9_37 a9_38 a9_39 a9_40 a9_41 v9_42 a9_43 a9_44 a9_45 a9_46 a9_47 v9_48 v9_49 v9_50 v9_51 a9_52 a9_53 v9_54 v9_55 a9_56 a9_57 v9_58 a9_59 a9_60 a9_61)), (a9_39, .inl (cyI, 20010, .inl g9_39)), (a9_43, .inl (cyI, 20010, .inl g9_43)), (a9_44, .inl (cyI, 20010, .inl g9_44)), (a9_52, .inl (cyI, 20010, .inl g9_52)), (a9_57, .inl (cyI, 60600, .inl g9_57))] := hD
  refine lv_ldc2 (v := 7) hx hb hown k_8 dX9_digest_5 ?_
  refine lv_lstore_n (lv' := [(1, .long 7), (0, .ref o9)]) hx hb dX9_digest_8 rfl hl (by decide) rfl (fun ls hl => ?_)
  refine lv_iconst (v := 0) hx hb dX9_digest_9 (by decide) ?_
  refine lv_istore_n (lv' := [(3, .int 0), (1, .long 7), (0, .ref o9)]) hx hb dX9_digest_10 rfl hl (by decide) rfl (fun ls hl => ?_)
  exact (hWW _ _ _ _ _).mpr ((J 0 (0, 7, 0, 0, 0, 0) _ hf rfl _ _ _ _ _ _ rfl).1 rfl H locs ls hP hD hS (lv_sub hl [2, 1, 0] rfl))

def f_X9_addresses_a9_59_L (g9_37 : Nat → Int32) (g9_38 : Nat → Int32) (g9_39 : Nat → Int32) (z : Nat × Int32 × (Nat → Int32)) : Option ((Nat → Int32)) := match z with
  | (q, l3, g9_59) => if q = 0 then if l3 ≤ (0 : Int32) then some g9_59 else if x_gd l3 20010 = true then if x_gd l3 20010 = true then if x_gd ((g9_39 (Int32.toNatClampNeg l3)) - (1 : Int32)) 17 = true then if x_gd l3 20010 = true then (f_X9_addresses_a9_59_L g9_37 g9_38 g9_39 (0, g9_38 (Int32.toNatClampNeg l3), upd g9_59 (Int32.toNatClampNeg ((g9_39 (Int32.toNatClampNeg l3)) - (1 : Int32))) (g9_37 (Int32.toNatClampNeg l3)))) else none else none else none else none else none
partial_fixpoint
def f_X9_addresses_a9_59 (g9_37 : Nat → Int32) (g9_38 : Nat → Int32) (g9_39 : Nat → Int32) (g9_59 : Nat → Int32) (p1 : Int32) : Option ((Nat → Int32)) := (f_X9_addresses_a9_59_L g9_37 g9_38 g9_39 (0, p1, g9_59))
theorem i_X9_addresses_a9_59_X9 : ∀ w ∈ wsX90, w ∈ wsX9_addresses := fun _ h => List.mem_cons_of_mem _ (List.mem_append_right _ h)
set_option maxHeartbeats 4000000 in
set_option maxRecDepth 100000 in
theorem c_X9_addresses_a9_59 (l : Launch) (dC : Nat → ClassId) (dI : Nat → Nat → Nat) (cyI cyZ cyJ : ClassId) (sz : Nat) (o9 : Nat) (v9_0 : Int32) (v9_1 : Int32) (v9_2 : Int32) (v9_3 : Int32) (a9_4 : Nat) (a9_5 : Nat) (a9_6 : Nat) (a9_7 : Nat) (a9_8 : Nat) (a9_9 : Nat) (a9_10 : Nat) (a9_11 : Nat) (a9_12 : Nat) (v9_13 : Int32) (v9_14 : Int32) (v9_15 : Int32) (v9_16 : Int32) (v9_17 : Int32) (v9_18 : Int32) (a9_19 : Nat) (v9_20 : Int32) (v9_21 : Int32) (v9_22 : Int32) (a9_23 : Nat) (a9_24 : Nat) (a9_25 : Nat) (a9_26 : Nat) (a9_27 : Nat) (a9_28 : Nat) (a9_29 : Nat) (a9_30 : Nat) (a9_31 : Nat) (a9_32 : Nat) (a9_33 : Nat) (a9_34 : Nat) (v9_35 : Int32) (v9_36 : Int32) (a9_37 : Nat) (a9_38 : Nat) (a9_39 : Nat) (a9_40 : Nat) (a9_41 : Nat) (v9_42 : Int32) (a9_43 : Nat) (a9_44 : Nat) (a9_45 : Nat) (a9_46 : Nat) (a9_47 : Nat) (v9_48 : Int32) (v9_49 : Int32) (v9_50 : Int32) (v9_51 : Int32) (a9_52 : Nat) (a9_53 : Nat) (v9_54 : Int32) (v9_55 : Int32) (a9_56 : Nat) (a9_57 : Nat) (v9_58 : Int32) (a9_59 : Nat) (a9_60 : Nat) (a9_61 : Nat) (g9_37 : Nat → Int32) (g9_38 : Nat → Int32) (g9_39 : Nat → Int32) (g9_59 : Nat → Int32) (p1 : Int32) (R : (Nat → Int32)) (hf : f_X9_addresses_a9_59 g9_37 g9_38 g9_39 g9_59 p1 = some R) : Met l yX9_addresses wsX9_addresses ({ frames := 0, cells := 0, slots := 0, locals := 0 }) (va_Pc [.ref o9, .int p1, .ref a9_59] (x_PreD (dC, dI) (x_T cyI cyZ cyJ) [(o9, .inr (9, x_O9 v9_0 v9_1 v9_2 v9_3 a9_4 a9_5 a9_6 a9_7 a9_8 a9_9 a9_10 a9_11 a9_12 v9_13 v9_14 v9_15 v9_16 v9_17 v9_18 a9_19 v9_20 v9_21 v9_22 a9_23 a9_24 a9_25 a9_26 a9_27 a9_28 a9_29 a9_30 a9_31 a9_32 a9_33 a9_34 v9_35 v9_36 a9_37 a9_38 a9_39 a9_40 a9_41 v9_42 a9_43 a9_44 a9_45 a9_46 a9_47 v9_48 v9_49 v9_50 v9_51 a9_52 a9_53 v9_54 v9_55 a9_56 a9_57 v9_58 a9_59 a9_60 a9_61)), (a9_37, .inl (cyI, 20010, .inl g9_37)), (a9_38, .inl (cyI, 20010, .inl g9_38)), (a9_39, .inl (cyI, 20010, .inl g9_39)), (a9_59, .inl (cyI, 17, .inl g9_59))] sz)) (va_Qv (fun _ : Unit => True) (fun (_ : Unit) (t : State) => va_P (dC, dI) vwCl [(o9, .inr (9, x_O9 v9_0 v9_1 v9_2 v9_3 a9_4 a9_5 a9_6 a9_7 a9_8 a9_9 a9_10 a9_11 a9_12 v9_13 v9_14 v9_15 v9_16 v9_17 v9_18 a9_19 v9_20 v9_21 v9_22 a9_23 a9_24 a9_25 a9_26 a9_27 a9_28 a9_29 a9_30 a9_31 a9_32 a9_33 a9_34 v9_35 v9_36 a9_37 a9_38 a9_39 a9_40 a9_41 v9_42 a9_43 a9_44 a9_45 a9_46 a9_47 v9_48 v9_49 v9_50 v9_51 a9_52 a9_53 v9_54 v9_55 a9_56 a9_57 v9_58 a9_59 a9_60 a9_61)), (a9_37, .inl (cyI, 20010, .inl g9_37)), (a9_38, .inl (cyI, 20010, .inl g9_38)), (a9_39, .inl (cyI, 20010, .inl g9_39)), (a9_59, .inl (cyI, 17, .inl R))] t.heap ∧ va_K (dC, dI) vwCl (x_T cyI cyZ cyJ) t ∧ va_D (va_A [(o9, .inr (9, x_O9 v9_0 v9_1 v9_2 v9_3 a9_4 a9_5 a9_6 a9_7 a9_8 a9_9 a9_10 a9_11 a9_12 v9_13 v9_14 v9_15 v9_16 v9_17 v9_18 a9_19 v9_20 v9_21 v9_22 a9_23 a9_24 a9_25 a9_26 a9_27 a9_28 a9_29 a9_30 a9_31 a9_32 a9_33 a9_34 v9_35 v9_36 a9_37 a9_38 a9_39 a9_40 a9_41 v9_42 a9_43 a9_44 a9_45 a9_46 a9_47 v9_48 v9_49 v9_50 v9_51 a9_52 a9_53 v9_54 v9_55 a9_56 a9_57 v9_58 a9_59 a9_60 a9_61)), (a9_37, .inl (cyI, 20010, .inl g9_37)), (a9_38, .inl (cyI, 20010, .inl g9_38)), (a9_39, .inl (cyI, 20010, .inl g9_39)), (a9_59, .inl (cyI, 17, .inl g9_59))] sz) [(o9, .inr (9, x_O9 v9_0 v9_1 v9_2 v9_3 a9_4 a9_5 a9_6 a9_7 a9_8 a9_9 a9_10 a9_11 a9_12 v9_13 v9_14 v9_15 v9_16 v9_17 v9_18 a9_19 v9_20 v9_21 v9_22 a9_23 a9_24 a9_25 a9_26 a9_27 a9_28 a9_29 a9_30 a9_31 a9_32 a9_33 a9_34 v9_35 v9_36 a9_37 a9_38 a9_39 a9_40 a9_41 v9_42 a9_43 a9_44 a9_45 a9_46 a9_47 v9_48 v9_49 v9_50 v9_51 a9_52 a9_53 v9_54 v9_55 a9_56 a9_57 v9_58 a9_59 a9_60 a9_61)), (a9_37, .inl (cyI, 20010, .inl g9_37)), (a9_38, .inl (cyI, 20010, .inl g9_38)), (a9_39, .inl (cyI, 20010, .inl g9_39)), (a9_59, .inl (cyI, 17, .inl R))]) (va_A [(o9, .inr (9, x_O9 v9_0 v9_1 v9_2 v9_3 a9_4 a9_5 a9_6 a9_7 a9_8 a9_9 a9_10 a9_11 a9_12 v9_13 v9_14 v9_15 v9_16 v9_17 v9_18 a9_19 v9_20 v9_21 v9_22 a9_23 a9_24 a9_25 a9_26 a9_27 a9_28 a9_29 a9_30 a9_31 a9_32 a9_33 a9_34 v9_35 v9_36 a9_37 a9_38 a9_39 a9_40 a9_41 v9_42 a9_43 a9_44 a9_45 a9_46 a9_47 v9_48 v9_49 v9_50 v9_51 a9_52 a9_53 v9_54 v9_55 a9_56 a9_57 v9_58 a9_59 a9_60 a9_61)), (a9_37, .inl (cyI, 20010, .inl g9_37)), (a9_38, .inl (cyI, 20010, .inl g9_38)), (a9_39, .inl (cyI, 20010, .inl g9_39)), (a9_59, .inl (cyI, 17, .inl g9_59))] sz)) 0 0 (va_A [(o9, .inr (9, x_O9 v9_0 v9_1 v9_2 v9_3 a9_4 a9_5 a9_6 a9_7 a9_8 a9_9 a9_10 a9_11 a9_12 v9_13 v9_14 v9_15 v9_16 v9_17 v9_18 a9_19 v9_20 v9_21 v9_22 a9_23 a9_24 a9_25 a9_26 a9_27 a9_28 a9_29 a9_30 a9_31 a9_32 a9_33 a9_34 v9_35 v9_36 a9_37 a9_38 a9_39 a9_40 a9_41 v9_42 a9_43 a9_44 a9_45 a9_46 a9_47 v9_48 v9_49 v9_50 v9_51 a9_52 a9_53 v9_54 v9_55 a9_56 a9_57 v9_58 a9_59 a9_60 a9_61)), (a9_37, .inl (cyI, 20010, .inl g9_37)), (a9_38, .inl (cyI, 20010, .inl g9_38)), (a9_39, .inl (cyI, 20010, .inl g9_39)), (a9_59, .inl (cyI, 17, .inl g9_59))] sz) := by
  refine Met.ofW (cc := cX9_addresses) (maxL := 4) (ret := none) (by decide) rfl ?_
  intro p e s m args below meth c s₁ B hml hv
  obtain ⟨rfl, ⟨hsz, hP, hK, hN⟩, hD0⟩ := hv
  have hx := B.exec
  have hb := B.bytes
  have hr := B.returns
  have hts := atoms_spec (ws := wsX9_addresses) B.pre
  have hown : s.vm.findClass RX9 = some m.cls := findClass_of_methodNamed B.named
  have k_1 := hts (.fieldLink RX9 94 "FlowJudgeModel" "xDeep" "[I") (by decide +kernel)
  have k_2 := hts (.fieldLink RX9 88 "FlowJudgeModel" "xAddr" "[I") (by decide +kernel)
  have k_3 := hts (.fieldLink RX9 91 "FlowJudgeModel" "xBefore" "[I") (by decide +kernel)
  subst hsz
  have hD := hD0.self (sz := s.heap.size)
  generalize hAe : va_A [(o9, .inr (9, x_O9 v9_0 v9_1 v9_2 v9_3 a9_4 a9_5 a9_6 a9_7 a9_8 a9_9 a9_10 a9_11 a9_12 v9_13 v9_14 v9_15 v9_16 v9_17 v9_18 a9_19 v9_20 v9_21 v9_22 a9_23 a9_24 a9_25 a9_26 a9_27 a9_28 a9_29 a9_30 a9_31 a9_32 a9_33 a9_34 v9_35 v9_36 a9_37 a9_38 a9_39 a9_40 a9_41 v9_42 a9_43 a9_44 a9_45 a9_46 a9_47 v9_48 v9_49 v9_50 v9_51 a9_52 a9_53 v9_54 v9_55 a9_56 a9_57 v9_58 a9_59 a9_60 a9_61)), (a9_37, .inl (cyI, 20010, .inl g9_37)), (a9_38, .inl (cyI, 20010, .inl g9_38)), (a9_39, .inl (cyI, 20010, .inl g9_39)), (a9_59, .inl (cyI, 17, .inl g9_59))] s.heap.size = A at hD ⊢
  have hA : ∀ q : Nat, s.heap.size ≤ q → A q := fun q h => by rw [← hAe]; exact Or.inr h
  have hP : va_P (dC, dI) vwCl [(o9, .inr (9, x_O9 v9_0 v9_1 v9_2 v9_3 a9_4 a9_5 a9_6 a9_7 a9_8 a9_9 a9_10 a9_11 a9_12 v9_13 v9_14 v9_15 v9_16 v9_17 v9_18 a9_19 v9_20 v9_21 v9_22 a9_23 a9_24 a9_25 a9_26 a9_27 a9_28 a9_29 a9_30 a9_31 a9_32 a9_33 a9_34 v9_35 v9_36 a9_37 a9_38 a9_39 a9_40 a9_41 v9_42 a9_43 a9_44 a9_45 a9_46 a9_47 v9_48 v9_49 v9_50 v9_51 a9_52 a9_53 v9_54 v9_55 a9_56 a9_57 v9_58 a9_59 a9_60 a9_61)), (a9_37, .inl (cyI, 20010, .inl g9_37)), (a9_38, .inl (cyI, 20010, .inl g9_38)), (a9_39, .inl (cyI, 20010, .inl g9_39)), (a9_59, .inl (cyI, 17, .inl g9_59))] s.heap := hP
  have hl := lv_entry ([.ref o9, .int p1, .ref a9_59]) (n := 4) (Nat.le_of_ble_eq_true rfl)
  rw [lg_entry_eq]
  generalize (lg_sl ([.ref o9, .int p1, .ref a9_59]) ++ List.replicate (4 - (lg_sl ([.ref o9, .int p1, .ref a9_59])).length) Slot.unset).toArray = ls at hl ⊢
  have hl : lv_has ls 4 [(0, .ref o9), (1, .int p1), (2, .ref a9_59)] := hl
  obtain ⟨H, hH⟩ : ∃ z, z = s.heap := ⟨_, rfl⟩
  refine x_here hH ?_
  have hP : va_P (dC, dI) vwCl [(o9, .inr (9, x_O9 v9_0 v9_1 v9_2 v9_3 a9_4 a9_5 a9_6 a9_7 a9_8 a9_9 a9_10 a9_11 a9_12 v9_13 v9_14 v9_15 v9_16 v9_17 v9_18 a9_19 v9_20 v9_21 v9_22 a9_23 a9_24 a9_25 a9_26 a9_27 a9_28 a9_29 a9_30 a9_31 a9_32 a9_33 a9_34 v9_35 v9_36 a9_37 a9_38 a9_39 a9_40 a9_41 v9_42 a9_43 a9_44 a9_45 a9_46 a9_47 v9_48 v9_49 v9_50 v9_51 a9_52 a9_53 v9_54 v9_55 a9_56 a9_57 v9_58 a9_59 a9_60 a9_61)), (a9_37, .inl (cyI, 20010, .inl g9_37)), (a9_38, .inl (cyI, 20010, .inl g9_38)), (a9_39, .inl (cyI, 20010, .inl g9_39)), (a9_59, .inl (cyI, 17, .inl g9_59))] H := by rw [hH]; exact hP
  have hS : va_S A s.heap H [] := by rw [hH]; exact va_S.rf
  clear hH
  obtain ⟨locs, hlo⟩ : ∃ z : List Loc, z = [] := ⟨_, rfl⟩
  refine x_herl hlo ?_
  have hS : va_S A s.heap H locs := by rw [hlo]; exact hS
  clear hlo
  unfold f_X9_addresses_a9_59 at hf
  refine x_wn (fun WW hWW => ?_)
  have J := f_X9_addresses_a9_59_L.partial_correctness g9_37 g9_38 g9_39 (fun (z : Nat × Int32 × (Nat → Int32)) (r : (Nat → Int32)) => r = R → ∀ (q : Nat) (l3 : Int32) (g9_59 : Nat → Int32), z = (q, l3, g9_59) → ((q = 0 → ∀ (H : Heap) (locs : List Loc) (ls : Array Slot), va_P (dC, dI) vwCl [(o9, .inr (9, x_O9 v9_0 v9_1 v9_2 v9_3 a9_4 a9_5 a9_6 a9_7 a9_8 a9_9 a9_10 a9_11 a9_12 v9_13 v9_14 v9_15 v9_16 v9_17 v9_18 a9_19 v9_20 v9_21 v9_22 a9_23 a9_24 a9_25 a9_26 a9_27 a9_28 a9_29 a9_30 a9_31 a9_32 a9_33 a9_34 v9_35 v9_36 a9_37 a9_38 a9_39 a9_40 a9_41 v9_42 a9_43 a9_44 a9_45 a9_46 a9_47 v9_48 v9_49 v9_50 v9_51 a9_52 a9_53 v9_54 v9_55 a9_56 a9_57 v9_58 a9_59 a9_60 a9_61)), (a9_37, .inl (cyI, 20010, .inl g9_37)), (a9_38, .inl (cyI, 20010, .inl g9_38)), (a9_39, .inl (cyI, 20010, .inl g9_39)), (a9_59, .inl (cyI, 17, .inl g9_59))] H → va_D A [(o9, .inr (9, x_O9 v9_0 v9_1 v9_2 v9_3 a9_4 a9_5 a9_6 a9_7 a9_8 a9_9 a9_10 a9_11 a9_12 v9_13 v9_14 v9_15 v9_16 v9_17 v9_18 a9_19 v9_20 v9_21 v9_22 a9_23 a9_24 a9_25 a9_26 a9_27 a9_28 a9_29 a9_30 a9_31 a9_32 a9_33 a9_34 v9_35 v9_36 a9_37 a9_38 a9_39 a9_40 a9_41 v9_42 a9_43 a9_44 a9_45 a9_46 a9_47 v9_48 v9_49 v9_50 v9_51 a9_52 a9_53 v9_54 v9_55 a9_56 a9_57 v9_58 a9_59 a9_60 a9_61)), (a9_37, .inl (cyI, 20010, .inl g9_37)), (a9_38, .inl (cyI, 20010, .inl g9_38)), (a9_39, .inl (cyI, 20010, .inl g9_39)), (a9_59, .inl (cyI, 17, .inl g9_59))] → va_S A s.heap H locs → lv_has ls 4 [(0, .ref o9), (2, .ref a9_59), (3, .int l3)] → WW H locs 0 0 (F0 m 2 ls [])))) (by
    intro F ih z r hf hr q l3 g9_59 hz
    subst hz
    obtain rfl := hr
    · intro hq H locs ls hP hD hS hl
      subst hq
      refine (hWW _ _ _ _ _).mp ?_
      replace hf := x_ip rfl hf
      refine lv_iload_n hx hb dX9_addresses_2 rfl (lv_at hl 2 rfl) ?_
      refine lv_if_le (tgt := 32) hx hb dX9_addresses_3 (by decide) (fun c_1 => ?_) (fun c_1 => ?_)
      · replace hf := x_ip c_1 hf
        obtain rfl := Option.some.inj hf
        have hP9 := hP.sub (ws' := [(o9, .inr (9, x_O9 v9_0 v9_1 v9_2 v9_3 a9_4 a9_5 a9_6 a9_7 a9_8 a9_9 a9_10 a9_11 a9_12 v9_13 v9_14 v9_15 v9_16 v9_17 v9_18 a9_19 v9_20 v9_21 v9_22 a9_23 a9_24 a9_25 a9_26 a9_27 a9_28 a9_29 a9_30 a9_31 a9_32 a9_33 a9_34 v9_35 v9_36 a9_37 a9_38 a9_39 a9_40 a9_41 v9_42 a9_43 a9_44 a9_45 a9_46 a9_47 v9_48 v9_49 v9_50 v9_51 a9_52 a9_53 v9_54 v9_55 a9_56 a9_57 v9_58 a9_59 a9_60 a9_61)), (a9_37, .inl (cyI, 20010, .inl g9_37)), (a9_38, .inl (cyI, 20010, .inl g9_38)), (a9_39, .inl (cyI, 20010, .inl g9_39)), (a9_59, .inl (cyI, 17, .inl g9_59))]) [0, 1, 2, 3, 4] rfl
        have hD9 := hD.sub (ws' := [(o9, .inr (9, x_O9 v9_0 v9_1 v9_2 v9_3 a9_4 a9_5 a9_6 a9_7 a9_8 a9_9 a9_10 a9_11 a9_12 v9_13 v9_14 v9_15 v9_16 v9_17 v9_18 a9_19 v9_20 v9_21 v9_22 a9_23 a9_24 a9_25 a9_26 a9_27 a9_28 a9_29 a9_30 a9_31 a9_32 a9_33 a9_34 v9_35 v9_36 a9_37 a9_38 a9_39 a9_40 a9_41 v9_42 a9_43 a9_44 a9_45 a9_46 a9_47 v9_48 v9_49 v9_50 v9_51 a9_52 a9_53 v9_54 v9_55 a9_56 a9_57 v9_58 a9_59 a9_60 a9_61)), (a9_37, .inl (cyI, 20010, .inl g9_37)), (a9_38, .inl (cyI, 20010, .inl g9_38)), (a9_39, .inl (cyI, 20010, .inl g9_39)), (a9_59, .inl (cyI, 17, .inl g9_59))]) [0, 1, 2, 3, 4] (by decide) rfl
        exact W.vret hx hb hr (fun t ht hW => ⟨⟨(), rfl, trivial, by rw [ht]; exact hP9, va_K.moved hW.alike hK, hD9⟩, hS.F ht⟩) hS.2.2 dX9_addresses_32
      · replace hf := x_in c_1 hf
        refine lv_aload_n hx hb dX9_addresses_6 rfl (lv_at hl 1 rfl) ?_
        refine lv_aload_n hx hb dX9_addresses_7 rfl (lv_at hl 0 rfl) ?_
        refine va_get (D := (dC, dI)) (ci := 9) (v := .ref a9_39) (C := RX9) (T := TX9) (N := 62) hx hb hts i_X9_addresses_a9_59_X9 hown hK hP 0 rfl rfl 39 (by decide) k_1 (fun _ h9 => h9) rfl dX9_addresses_8 ?_
        refine lv_iload_n hx hb dX9_addresses_11 rfl (lv_at hl 2 rfl) ?_
        obtain ⟨g_2, hf⟩ := x_gu hf
        refine va_iald hx hb hK hP 3 0 rfl rfl (x_gdin g_2) dX9_addresses_12 ?_
        refine lv_iconst (v := 1) hx hb dX9_addresses_13 (by decide) ?_
        refine lv_isub hx hb dX9_addresses_14 ?_
        refine lv_aload_n hx hb dX9_addresses_15 rfl (lv_at hl 0 rfl) ?_
        refine va_get (D := (dC, dI)) (ci := 9) (v := .ref a9_37) (C := RX9) (T := TX9) (N := 62) hx hb hts i_X9_addresses_a9_59_X9 hown hK hP 0 rfl rfl 37 (by decide) k_2 (fun _ h9 => h9) rfl dX9_addresses_16 ?_
        refine lv_iload_n hx hb dX9_addresses_19 rfl (lv_at hl 2 rfl) ?_
        obtain ⟨g_3, hf⟩ := x_gu hf
        refine va_iald hx hb hK hP 1 0 rfl rfl (x_gdin g_3) dX9_addresses_20 ?_
        obtain ⟨g_4, hf⟩ := x_gu hf
        refine va_iast hx hb hK hP hD hS 4 0 rfl rfl (x_gdin g_4) dX9_addresses_21 (fun H locs hP hD hS => ?_)
        have hP : va_P (dC, dI) vwCl [(o9, .inr (9, x_O9 v9_0 v9_1 v9_2 v9_3 a9_4 a9_5 a9_6 a9_7 a9_8 a9_9 a9_10 a9_11 a9_12 v9_13 v9_14 v9_15 v9_16 v9_17 v9_18 a9_19 v9_20 v9_21 v9_22 a9_23 a9_24 a9_25 a9_26 a9_27 a9_28 a9_29 a9_30 a9_31 a9_32 a9_33 a9_34 v9_35 v9_36 a9_37 a9_38 a9_39 a9_40 a9_41 v9_42 a9_43 a9_44 a9_45 a9_46 a9_47 v9_48 v9_49 v9_50 v9_51 a9_52 a9_53 v9_54 v9_55 a9_56 a9_57 v9_58 a9_59 a9_60 a9_61)), (a9_37, .inl (cyI, 20010, .inl g9_37)), (a9_38, .inl (cyI, 20010, .inl g9_38)), (a9_39, .inl (cyI, 20010, .inl g9_39)), (a9_59, .inl (cyI, 17, .inl (upd g9_59 (Int32.toNatClampNeg ((g9_39 (Int32.toNatClampNeg l3)) - (1 : Int32))) (g9_37 (Int32.toNatClampNeg l3)))))] H := hP
        have hD : va_D A [(o9, .inr (9, x_O9 v9_0 v9_1 v9_2 v9_3 a9_4 a9_5 a9_6 a9_7 a9_8 a9_9 a9_10 a9_11 a9_12 v9_13 v9_14 v9_15 v9_16 v9_17 v9_18 a9_19 v9_20 v9_21 v9_22 a9_23 a9_24 a9_25 a9_26 a9_27 a9_28 a9_29 a9_30 a9_31 a9_32 a9_33 a9_34 v9_35 v9_36 a9_37 a9_38 a9_39 a9_40 a9_41 v9_42 a9_43 a9_44 a9_45 a9_46 a9_47 v9_48 v9_49 v9_50 v9_51 a9_52 a9_53 v9_54 v9_55 a9_56 a9_57 v9_58 a9_59 a9_60 a9_61)), (a9_37, .inl (cyI, 20010, .inl g9_37)), (a9_38, .inl (cyI, 20010, .inl g9_38)), (a9_39, .inl (cyI, 20010, .inl g9_39)), (a9_59, .inl (cyI, 17, .inl (upd g9_59 (Int32.toNatClampNeg ((g9_39 (Int32.toNatClampNeg l3)) - (1 : Int32))) (g9_37 (Int32.toNatClampNeg l3)))))] := hD
        refine lv_aload_n hx hb dX9_addresses_22 rfl (lv_at hl 0 rfl) ?_
        refine va_get (D := (dC, dI)) (ci := 9) (v := .ref a9_38) (C := RX9) (T := TX9) (N := 62) hx hb hts i_X9_addresses_a9_59_X9 hown hK hP 0 rfl rfl 38 (by decide) k_3 (fun _ h9 => h9) rfl dX9_addresses_23 ?_
        refine lv_iload_n hx hb dX9_addresses_26 rfl (lv_at hl 2 rfl) ?_
        obtain ⟨g_5, hf⟩ := x_gu hf
        refine va_iald hx hb hK hP 2 0 rfl rfl (x_gdin g_5) dX9_addresses_27 ?_
        refine lv_istore_n (lv' := [(3, .int (g9_38 (Int32.toNatClampNeg l3))), (0, .ref o9), (2, .ref a9_59)]) hx hb dX9_addresses_28 rfl hl (by decide) rfl (fun ls hl => ?_)
        refine lv_goto (tgt := 2) hx hb dX9_addresses_29 (by decide) ?_
        exact (hWW _ _ _ _ _).mpr ((ih (0, g9_38 (Int32.toNatClampNeg l3), upd g9_59 (Int32.toNatClampNeg ((g9_39 (Int32.toNatClampNeg l3)) - (1 : Int32))) (g9_37 (Int32.toNatClampNeg l3))) _ hf rfl _ _ _ rfl) rfl H locs ls hP hD hS (lv_sub hl [1, 2, 0] rfl)))
  refine lv_iload_n hx hb dX9_addresses_0 rfl (lv_at hl 1 rfl) ?_
  refine lv_istore_n (lv' := [(3, .int p1), (0, .ref o9), (1, .int p1), (2, .ref a9_59)]) hx hb dX9_addresses_1 rfl hl (by decide) rfl (fun ls hl => ?_)
  exact (hWW _ _ _ _ _).mpr ((J (0, p1, g9_59) _ hf rfl _ _ _ rfl) rfl H locs ls hP hD hS (lv_sub hl [1, 3, 0] rfl))

def f_X9_addresses_a9_60_L (g9_37 : Nat → Int32) (g9_38 : Nat → Int32) (g9_39 : Nat → Int32) (z : Nat × Int32 × (Nat → Int32)) : Option ((Nat → Int32)) := match z with
  | (q, l3, g9_60) => if q = 0 then if l3 ≤ (0 : Int32) then some g9_60 else if x_gd l3 20010 = true then if x_gd l3 20010 = true then if x_gd ((g9_39 (Int32.toNatClampNeg l3)) - (1 : Int32)) 17 = true then if x_gd l3 20010 = true then (f_X9_addresses_a9_60_L g9_37 g9_38 g9_39 (0, g9_38 (Int32.toNatClampNeg l3), upd g9_60 (Int32.toNatClampNeg ((g9_39 (Int32.toNatClampNeg l3)) - (1 : Int32))) (g9_37 (Int32.toNatClampNeg l3)))) else none else none else none else none else none
partial_fixpoint
def f_X9_addresses_a9_60 (g9_37 : Nat → Int32) (g9_38 : Nat → Int32) (g9_39 : Nat → Int32) (g9_60 : Nat → Int32) (p1 : Int32) : Option ((Nat → Int32)) := (f_X9_addresses_a9_60_L g9_37 g9_38 g9_39 (0, p1, g9_60))
theorem i_X9_addresses_a9_60_X9 : ∀ w ∈ wsX90, w ∈ wsX9_addresses := fun _ h => List.mem_cons_of_mem _ (List.mem_append_right _ h)
set_option maxHeartbeats 4000000 in
set_option maxRecDepth 100000 in
theorem c_X9_addresses_a9_60 (l : Launch) (dC : Nat → ClassId) (dI : Nat → Nat → Nat) (cyI cyZ cyJ : ClassId) (sz : Nat) (o9 : Nat) (v9_0 : Int32) (v9_1 : Int32) (v9_2 : Int32) (v9_3 : Int32) (a9_4 : Nat) (a9_5 : Nat) (a9_6 : Nat) (a9_7 : Nat) (a9_8 : Nat) (a9_9 : Nat) (a9_10 : Nat) (a9_11 : Nat) (a9_12 : Nat) (v9_13 : Int32) (v9_14 : Int32) (v9_15 : Int32) (v9_16 : Int32) (v9_17 : Int32) (v9_18 : Int32) (a9_19 : Nat) (v9_20 : Int32) (v9_21 : Int32) (v9_22 : Int32) (a9_23 : Nat) (a9_24 : Nat) (a9_25 : Nat) (a9_26 : Nat) (a9_27 : Nat) (a9_28 : Nat) (a9_29 : Nat) (a9_30 : Nat) (a9_31 : Nat) (a9_32 : Nat) (a9_33 : Nat) (a9_34 : Nat) (v9_35 : Int32) (v9_36 : Int32) (a9_37 : Nat) (a9_38 : Nat) (a9_39 : Nat) (a9_40 : Nat) (a9_41 : Nat) (v9_42 : Int32) (a9_43 : Nat) (a9_44 : Nat) (a9_45 : Nat) (a9_46 : Nat) (a9_47 : Nat) (v9_48 : Int32) (v9_49 : Int32) (v9_50 : Int32) (v9_51 : Int32) (a9_52 : Nat) (a9_53 : Nat) (v9_54 : Int32) (v9_55 : Int32) (a9_56 : Nat) (a9_57 : Nat) (v9_58 : Int32) (a9_59 : Nat) (a9_60 : Nat) (a9_61 : Nat) (g9_37 : Nat → Int32) (g9_38 : Nat → Int32) (g9_39 : Nat → Int32) (g9_60 : Nat → Int32) (p1 : Int32) (R : (Nat → Int32)) (hf : f_X9_addresses_a9_60 g9_37 g9_38 g9_39 g9_60 p1 = some R) : Met l yX9_addresses wsX9_addresses ({ frames := 0, cells := 0, slots := 0, locals := 0 }) (va_Pc [.ref o9, .int p1, .ref a9_60] (x_PreD (dC, dI) (x_T cyI cyZ cyJ) [(o9, .inr (9, x_O9 v9_0 v9_1 v9_2 v9_3 a9_4 a9_5 a9_6 a9_7 a9_8 a9_9 a9_10 a9_11 a9_12 v9_13 v9_14 v9_15 v9_16 v9_17 v9_18 a9_19 v9_20 v9_21 v9_22 a9_23 a9_24 a9_25 a9_26 a9_27 a9_28 a9_29 a9_30 a9_31 a9_32 a9_33 a9_34 v9_35 v9_36 a9_37 a9_38 a9_39 a9_40 a9_41 v9_42 a9_43 a9_44 a9_45 a9_46 a9_47 v9_48 v9_49 v9_50 v9_51 a9_52 a9_53 v9_54 v9_55 a9_56 a9_57 v9_58 a9_59 a9_60 a9_61)), (a9_37, .inl (cyI, 20010, .inl g9_37)), (a9_38, .inl (cyI, 20010, .inl g9_38)), (a9_39, .inl (cyI, 20010, .inl g9_39)), (a9_60, .inl (cyI, 17, .inl g9_60))] sz)) (va_Qv (fun _ : Unit => True) (fun (_ : Unit) (t : State) => va_P (dC, dI) vwCl [(o9, .inr (9, x_O9 v9_0 v9_1 v9_2 v9_3 a9_4 a9_5 a9_6 a9_7 a9_8 a9_9 a9_10 a9_11 a9_12 v9_13 v9_14 v9_15 v9_16 v9_17 v9_18 a9_19 v9_20 v9_21 v9_22 a9_23 a9_24 a9_25 a9_26 a9_27 a9_28 a9_29 a9_30 a9_31 a9_32 a9_33 a9_34 v9_35 v9_36 a9_37 a9_38 a9_39 a9_40 a9_41 v9_42 a9_43 a9_44 a9_45 a9_46 a9_47 v9_48 v9_49 v9_50 v9_51 a9_52 a9_53 v9_54 v9_55 a9_56 a9_57 v9_58 a9_59 a9_60 a9_61)), (a9_37, .inl (cyI, 20010, .inl g9_37)), (a9_38, .inl (cyI, 20010, .inl g9_38)), (a9_39, .inl (cyI, 20010, .inl g9_39)), (a9_60, .inl (cyI, 17, .inl R))] t.heap ∧ va_K (dC, dI) vwCl (x_T cyI cyZ cyJ) t ∧ va_D (va_A [(o9, .inr (9, x_O9 v9_0 v9_1 v9_2 v9_3 a9_4 a9_5 a9_6 a9_7 a9_8 a9_9 a9_10 a9_11 a9_12 v9_13 v9_14 v9_15 v9_16 v9_17 v9_18 a9_19 v9_20 v9_21 v9_22 a9_23 a9_24 a9_25 a9_26 a9_27 a9_28 a9_29 a9_30 a9_31 a9_32 a9_33 a9_34 v9_35 v9_36 a9_37 a9_38 a9_39 a9_40 a9_41 v9_42 a9_43 a9_44 a9_45 a9_46 a9_47 v9_48 v9_49 v9_50 v9_51 a9_52 a9_53 v9_54 v9_55 a9_56 a9_57 v9_58 a9_59 a9_60 a9_61)), (a9_37, .inl (cyI, 20010, .inl g9_37)), (a9_38, .inl (cyI, 20010, .inl g9_38)), (a9_39, .inl (cyI, 20010, .inl g9_39)), (a9_60, .inl (cyI, 17, .inl g9_60))] sz) [(o9, .inr (9, x_O9 v9_0 v9_1 v9_2 v9_3 a9_4 a9_5 a9_6 a9_7 a9_8 a9_9 a9_10 a9_11 a9_12 v9_13 v9_14 v9_15 v9_16 v9_17 v9_18 a9_19 v9_20 v9_21 v9_22 a9_23 a9_24 a9_25 a9_26 a9_27 a9_28 a9_29 a9_30 a9_31 a9_32 a9_33 a9_34 v9_35 v9_36 a9_37 a9_38 a9_39 a9_40 a9_41 v9_42 a9_43 a9_44 a9_45 a9_46 a9_47 v9_48 v9_49 v9_50 v9_51 a9_52 a9_53 v9_54 v9_55 a9_56 a9_57 v9_58 a9_59 a9_60 a9_61)), (a9_37, .inl (cyI, 20010, .inl g9_37)), (a9_38, .inl (cyI, 20010, .inl g9_38)), (a9_39, .inl (cyI, 20010, .inl g9_39)), (a9_60, .inl (cyI, 17, .inl R))]) (va_A [(o9, .inr (9, x_O9 v9_0 v9_1 v9_2 v9_3 a9_4 a9_5 a9_6 a9_7 a9_8 a9_9 a9_10 a9_11 a9_12 v9_13 v9_14 v9_15 v9_16 v9_17 v9_18 a9_19 v9_20 v9_21 v9_22 a9_23 a9_24 a9_25 a9_26 a9_27 a9_28 a9_29 a9_30 a9_31 a9_32 a9_33 a9_34 v9_35 v9_36 a9_37 a9_38 a9_39 a9_40 a9_41 v9_42 a9_43 a9_44 a9_45 a9_46 a9_47 v9_48 v9_49 v9_50 v9_51 a9_52 a9_53 v9_54 v9_55 a9_56 a9_57 v9_58 a9_59 a9_60 a9_61)), (a9_37, .inl (cyI, 20010, .inl g9_37)), (a9_38, .inl (cyI, 20010, .inl g9_38)), (a9_39, .inl (cyI, 20010, .inl g9_39)), (a9_60, .inl (cyI, 17, .inl g9_60))] sz)) 0 0 (va_A [(o9, .inr (9, x_O9 v9_0 v9_1 v9_2 v9_3 a9_4 a9_5 a9_6 a9_7 a9_8 a9_9 a9_10 a9_11 a9_12 v9_13 v9_14 v9_15 v9_16 v9_17 v9_18 a9_19 v9_20 v9_21 v9_22 a9_23 a9_24 a9_25 a9_26 a9_27 a9_28 a9_29 a9_30 a9_31 a9_32 a9_33 a9_34 v9_35 v9_36 a9_37 a9_38 a9_39 a9_40 a9_41 v9_42 a9_43 a9_44 a9_45 a9_46 a9_47 v9_48 v9_49 v9_50 v9_51 a9_52 a9_53 v9_54 v9_55 a9_56 a9_57 v9_58 a9_59 a9_60 a9_61)), (a9_37, .inl (cyI, 20010, .inl g9_37)), (a9_38, .inl (cyI, 20010, .inl g9_38)), (a9_39, .inl (cyI, 20010, .inl g9_39)), (a9_60, .inl (cyI, 17, .inl g9_60))] sz) := by
  refine Met.ofW (cc := cX9_addresses) (maxL := 4) (ret := none) (by decide) rfl ?_
  intro p e s m args below meth c s₁ B hml hv
  obtain ⟨rfl, ⟨hsz, hP, hK, hN⟩, hD0⟩ := hv
  have hx := B.exec
  have hb := B.bytes
  have hr := B.returns
  have hts := atoms_spec (ws := wsX9_addresses) B.pre
  have hown : s.vm.findClass RX9 = some m.cls := findClass_of_methodNamed B.named
  have k_1 := hts (.fieldLink RX9 94 "FlowJudgeModel" "xDeep" "[I") (by decide +kernel)
  have k_2 := hts (.fieldLink RX9 88 "FlowJudgeModel" "xAddr" "[I") (by decide +kernel)
  have k_3 := hts (.fieldLink RX9 91 "FlowJudgeModel" "xBefore" "[I") (by decide +kernel)
  subst hsz
  have hD := hD0.self (sz := s.heap.size)
  generalize hAe : va_A [(o9, .inr (9, x_O9 v9_0 v9_1 v9_2 v9_3 a9_4 a9_5 a9_6 a9_7 a9_8 a9_9 a9_10 a9_11 a9_12 v9_13 v9_14 v9_15 v9_16 v9_17 v9_18 a9_19 v9_20 v9_21 v9_22 a9_23 a9_24 a9_25 a9_26 a9_27 a9_28 a9_29 a9_30 a9_31 a9_32 a9_33 a9_34 v9_35 v9_36 a9_37 a9_38 a9_39 a9_40 a9_41 v9_42 a9_43 a9_44 a9_45 a9_46 a9_47 v9_48 v9_49 v9_50 v9_51 a9_52 a9_53 v9_54 v9_55 a9_56 a9_57 v9_58 a9_59 a9_60 a9_61)), (a9_37, .inl (cyI, 20010, .inl g9_37)), (a9_38, .inl (cyI, 20010, .inl g9_38)), (a9_39, .inl (cyI, 20010, .inl g9_39)), (a9_60, .inl (cyI, 17, .inl g9_60))] s.heap.size = A at hD ⊢
  have hA : ∀ q : Nat, s.heap.size ≤ q → A q := fun q h => by rw [← hAe]; exact Or.inr h
  have hP : va_P (dC, dI) vwCl [(o9, .inr (9, x_O9 v9_0 v9_1 v9_2 v9_3 a9_4 a9_5 a9_6 a9_7 a9_8 a9_9 a9_10 a9_11 a9_12 v9_13 v9_14 v9_15 v9_16 v9_17 v9_18 a9_19 v9_20 v9_21 v9_22 a9_23 a9_24 a9_25 a9_26 a9_27 a9_28 a9_29 a9_30 a9_31 a9_32 a9_33 a9_34 v9_35 v9_36 a9_37 a9_38 a9_39 a9_40 a9_41 v9_42 a9_43 a9_44 a9_45 a9_46 a9_47 v9_48 v9_49 v9_50 v9_51 a9_52 a9_53 v9_54 v9_55 a9_56 a9_57 v9_58 a9_59 a9_60 a9_61)), (a9_37, .inl (cyI, 20010, .inl g9_37)), (a9_38, .inl (cyI, 20010, .inl g9_38)), (a9_39, .inl (cyI, 20010, .inl g9_39)), (a9_60, .inl (cyI, 17, .inl g9_60))] s.heap := hP
  have hl := lv_entry ([.ref o9, .int p1, .ref a9_60]) (n := 4) (Nat.le_of_ble_eq_true rfl)
  rw [lg_entry_eq]
  generalize (lg_sl ([.ref o9, .int p1, .ref a9_60]) ++ List.replicate (4 - (lg_sl ([.ref o9, .int p1, .ref a9_60])).length) Slot.unset).toArray = ls at hl ⊢
  have hl : lv_has ls 4 [(0, .ref o9), (1, .int p1), (2, .ref a9_60)] := hl
  obtain ⟨H, hH⟩ : ∃ z, z = s.heap := ⟨_, rfl⟩
  refine x_here hH ?_
  have hP : va_P (dC, dI) vwCl [(o9, .inr (9, x_O9 v9_0 v9_1 v9_2 v9_3 a9_4 a9_5 a9_6 a9_7 a9_8 a9_9 a9_10 a9_11 a9_12 v9_13 v9_14 v9_15 v9_16 v9_17 v9_18 a9_19 v9_20 v9_21 v9_22 a9_23 a9_24 a9_25 a9_26 a9_27 a9_28 a9_29 a9_30 a9_31 a9_32 a9_33 a9_34 v9_35 v9_36 a9_37 a9_38 a9_39 a9_40 a9_41 v9_42 a9_43 a9_44 a9_45 a9_46 a9_47 v9_48 v9_49 v9_50 v9_51 a9_52 a9_53 v9_54 v9_55 a9_56 a9_57 v9_58 a9_59 a9_60 a9_61)), (a9_37, .inl (cyI, 20010, .inl g9_37)), (a9_38, .inl (cyI, 20010, .inl g9_38)), (a9_39, .inl (cyI, 20010, .inl g9_39)), (a9_60, .inl (cyI, 17, .inl g9_60))] H := by rw [hH]; exact hP
  have hS : va_S A s.heap H [] := by rw [hH]; exact va_S.rf
  clear hH
  obtain ⟨locs, hlo⟩ : ∃ z : List Loc, z = [] := ⟨_, rfl⟩
  refine x_herl hlo ?_
  have hS : va_S A s.heap H locs := by rw [hlo]; exact hS
  clear hlo
  unfold f_X9_addresses_a9_60 at hf
  refine x_wn (fun WW hWW => ?_)
  have J := f_X9_addresses_a9_60_L.partial_correctness g9_37 g9_38 g9_39 (fun (z : Nat × Int32 × (Nat → Int32)) (r : (Nat → Int32)) => r = R → ∀ (q : Nat) (l3 : Int32) (g9_60 : Nat → Int32), z = (q, l3, g9_60) → ((q = 0 → ∀ (H : Heap) (locs : List Loc) (ls : Array Slot), va_P (dC, dI) vwCl [(o9, .inr (9, x_O9 v9_0 v9_1 v9_2 v9_3 a9_4 a9_5 a9_6 a9_7 a9_8 a9_9 a9_10 a9_11 a9_12 v9_13 v9_14 v9_15 v9_16 v9_17 v9_18 a9_19 v9_20 v9_21 v9_22 a9_23 a9_24 a9_25 a9_26 a9_27 a9_28 a9_29 a9_30 a9_31 a9_32 a9_33 a9_34 v9_35 v9_36 a9_37 a9_38 a9_39 a9_40 a9_41 v9_42 a9_43 a9_44 a9_45 a9_46 a9_47 v9_48 v9_49 v9_50 v9_51 a9_52 a9_53 v9_54 v9_55 a9_56 a9_57 v9_58 a9_59 a9_60 a9_61)), (a9_37, .inl (cyI, 20010, .inl g9_37)), (a9_38, .inl (cyI, 20010, .inl g9_38)), (a9_39, .inl (cyI, 20010, .inl g9_39)), (a9_60, .inl (cyI, 17, .inl g9_60))] H → va_D A [(o9, .inr (9, x_O9 v9_0 v9_1 v9_2 v9_3 a9_4 a9_5 a9_6 a9_7 a9_8 a9_9 a9_10 a9_11 a9_12 v9_13 v9_14 v9_15 v9_16 v9_17 v9_18 a9_19 v9_20 v9_21 v9_22 a9_23 a9_24 a9_25 a9_26 a9_27 a9_28 a9_29 a9_30 a9_31 a9_32 a9_33 a9_34 v9_35 v9_36 a9_37 a9_38 a9_39 a9_40 a9_41 v9_42 a9_43 a9_44 a9_45 a9_46 a9_47 v9_48 v9_49 v9_50 v9_51 a9_52 a9_53 v9_54 v9_55 a9_56 a9_57 v9_58 a9_59 a9_60 a9_61)), (a9_37, .inl (cyI, 20010, .inl g9_37)), (a9_38, .inl (cyI, 20010, .inl g9_38)), (a9_39, .inl (cyI, 20010, .inl g9_39)), (a9_60, .inl (cyI, 17, .inl g9_60))] → va_S A s.heap H locs → lv_has ls 4 [(0, .ref o9), (2, .ref a9_60), (3, .int l3)] → WW H locs 0 0 (F0 m 2 ls [])))) (by
    intro F ih z r hf hr q l3 g9_60 hz
    subst hz
    obtain rfl := hr
    · intro hq H locs ls hP hD hS hl
      subst hq
      refine (hWW _ _ _ _ _).mp ?_
      replace hf := x_ip rfl hf
      refine lv_iload_n hx hb dX9_addresses_2 rfl (lv_at hl 2 rfl) ?_
      refine lv_if_le (tgt := 32) hx hb dX9_addresses_3 (by decide) (fun c_1 => ?_) (fun c_1 => ?_)
      · replace hf := x_ip c_1 hf
        obtain rfl := Option.some.inj hf
        have hP9 := hP.sub (ws' := [(o9, .inr (9, x_O9 v9_0 v9_1 v9_2 v9_3 a9_4 a9_5 a9_6 a9_7 a9_8 a9_9 a9_10 a9_11 a9_12 v9_13 v9_14 v9_15 v9_16 v9_17 v9_18 a9_19 v9_20 v9_21 v9_22 a9_23 a9_24 a9_25 a9_26 a9_27 a9_28 a9_29 a9_30 a9_31 a9_32 a9_33 a9_34 v9_35 v9_36 a9_37 a9_38 a9_39 a9_40 a9_41 v9_42 a9_43 a9_44 a9_45 a9_46 a9_47 v9_48 v9_49 v9_50 v9_51 a9_52 a9_53 v9_54 v9_55 a9_56 a9_57 v9_58 a9_59 a9_60 a9_61)), (a9_37, .inl (cyI, 20010, .inl g9_37)), (a9_38, .inl (cyI, 20010, .inl g9_38)), (a9_39, .inl (cyI, 20010, .inl g9_39)), (a9_60, .inl (cyI, 17, .inl g9_60))]) [0, 1, 2, 3, 4] rfl
        have hD9 := hD.sub (ws' := [(o9, .inr (9, x_O9 v9_0 v9_1 v9_2 v9_3 a9_4 a9_5 a9_6 a9_7 a9_8 a9_9 a9_10 a9_11 a9_12 v9_13 v9_14 v9_15 v9_16 v9_17 v9_18 a9_19 v9_20 v9_21 v9_22 a9_23 a9_24 a9_25 a9_26 a9_27 a9_28 a9_29 a9_30 a9_31 a9_32 a9_33 a9_34 v9_35 v9_36 a9_37 a9_38 a9_39 a9_40 a9_41 v9_42 a9_43 a9_44 a9_45 a9_46 a9_47 v9_48 v9_49 v9_50 v9_51 a9_52 a9_53 v9_54 v9_55 a9_56 a9_57 v9_58 a9_59 a9_60 a9_61)), (a9_37, .inl (cyI, 20010, .inl g9_37)), (a9_38, .inl (cyI, 20010, .inl g9_38)), (a9_39, .inl (cyI, 20010, .inl g9_39)), (a9_60, .inl (cyI, 17, .inl g9_60))]) [0, 1, 2, 3, 4] (by decide) rfl
        exact W.vret hx hb hr (fun t ht hW => ⟨⟨(), rfl, trivial, by rw [ht]; exact hP9, va_K.moved hW.alike hK, hD9⟩, hS.F ht⟩) hS.2.2 dX9_addresses_32
      · replace hf := x_in c_1 hf
        refine lv_aload_n hx hb dX9_addresses_6 rfl (lv_at hl 1 rfl) ?_
        refine lv_aload_n hx hb dX9_addresses_7 rfl (lv_at hl 0 rfl) ?_
        refine va_get (D := (dC, dI)) (ci := 9) (v := .ref a9_39) (C := RX9) (T := TX9) (N := 62) hx hb hts i_X9_addresses_a9_60_X9 hown hK hP 0 rfl rfl 39 (by decide) k_1 (fun _ h9 => h9) rfl dX9_addresses_8 ?_
        refine lv_iload_n hx hb dX9_addresses_11 rfl (lv_at hl 2 rfl) ?_
        obtain ⟨g_2, hf⟩ := x_gu hf
        refine va_iald hx hb hK hP 3 0 rfl rfl (x_gdin g_2) dX9_addresses_12 ?_
        refine lv_iconst (v := 1) hx hb dX9_addresses_13 (by decide) ?_
        refine lv_isub hx hb dX9_addresses_14 ?_
        refine lv_aload_n hx hb dX9_addresses_15 rfl (lv_at hl 0 rfl) ?_
        refine va_get (D := (dC, dI)) (ci := 9) (v := .ref a9_37) (C := RX9) (T := TX9) (N := 62) hx hb hts i_X9_addresses_a9_60_X9 hown hK hP 0 rfl rfl 37 (by decide) k_2 (fun _ h9 => h9) rfl dX9_addresses_16 ?_
        refine lv_iload_n hx hb dX9_addresses_19 rfl (lv_at hl 2 rfl) ?_
        obtain ⟨g_3, hf⟩ := x_gu hf
        refine va_iald hx hb hK hP 1 0 rfl rfl (x_gdin g_3) dX9_addresses_20 ?_
        obtain ⟨g_4, hf⟩ := x_gu hf
        refine va_iast hx hb hK hP hD hS 4 0 rfl rfl (x_gdin g_4) dX9_addresses_21 (fun H locs hP hD hS => ?_)
        have hP : va_P (dC, dI) vwCl [(o9, .inr (9, x_O9 v9_0 v9_1 v9_2 v9_3 a9_4 a9_5 a9_6 a9_7 a9_8 a9_9 a9_10 a9_11 a9_12 v9_13 v9_14 v9_15 v9_16 v9_17 v9_18 a9_19 v9_20 v9_21 v9_22 a9_23 a9_24 a9_25 a9_26 a9_27 a9_28 a9_29 a9_30 a9_31 a9_32 a9_33 a9_34 v9_35 v9_36 a9_37 a9_38 a9_39 a9_40 a9_41 v9_42 a9_43 a9_44 a9_45 a9_46 a9_47 v9_48 v9_49 v9_50 v9_51 a9_52 a9_53 v9_54 v9_55 a9_56 a9_57 v9_58 a9_59 a9_60 a9_61)), (a9_37, .inl (cyI, 20010, .inl g9_37)), (a9_38, .inl (cyI, 20010, .inl g9_38)), (a9_39, .inl (cyI, 20010, .inl g9_39)), (a9_60, .inl (cyI, 17, .inl (upd g9_60 (Int32.toNatClampNeg ((g9_39 (Int32.toNatClampNeg l3)) - (1 : Int32))) (g9_37 (Int32.toNatClampNeg l3)))))] H := hP
        have hD : va_D A [(o9, .inr (9, x_O9 v9_0 v9_1 v9_2 v9_3 a9_4 a9_5 a9_6 a9_7 a9_8 a9_9 a9_10 a9_11 a9_12 v9_13 v9_14 v9_15 v9_16 v9_17 v9_18 a9_19 v9_20 v9_21 v9_22 a9_23 a9_24 a9_25 a9_26 a9_27 a9_28 a9_29 a9_30 a9_31 a9_32 a9_33 a9_34 v9_35 v9_36 a9_37 a9_38 a9_39 a9_40 a9_41 v9_42 a9_43 a9_44 a9_45 a9_46 a9_47 v9_48 v9_49 v9_50 v9_51 a9_52 a9_53 v9_54 v9_55 a9_56 a9_57 v9_58 a9_59 a9_60 a9_61)), (a9_37, .inl (cyI, 20010, .inl g9_37)), (a9_38, .inl (cyI, 20010, .inl g9_38)), (a9_39, .inl (cyI, 20010, .inl g9_39)), (a9_60, .inl (cyI, 17, .inl (upd g9_60 (Int32.toNatClampNeg ((g9_39 (Int32.toNatClampNeg l3)) - (1 : Int32))) (g9_37 (Int32.toNatClampNeg l3)))))] := hD
        refine lv_aload_n hx hb dX9_addresses_22 rfl (lv_at hl 0 rfl) ?_
        refine va_get (D := (dC, dI)) (ci := 9) (v := .ref a9_38) (C := RX9) (T := TX9) (N := 62) hx hb hts i_X9_addresses_a9_60_X9 hown hK hP 0 rfl rfl 38 (by decide) k_3 (fun _ h9 => h9) rfl dX9_addresses_23 ?_
        refine lv_iload_n hx hb dX9_addresses_26 rfl (lv_at hl 2 rfl) ?_
        obtain ⟨g_5, hf⟩ := x_gu hf
        refine va_iald hx hb hK hP 2 0 rfl rfl (x_gdin g_5) dX9_addresses_27 ?_
        refine lv_istore_n (lv' := [(3, .int (g9_38 (Int32.toNatClampNeg l3))), (0, .ref o9), (2, .ref a9_60)]) hx hb dX9_addresses_28 rfl hl (by decide) rfl (fun ls hl => ?_)
        refine lv_goto (tgt := 2) hx hb dX9_addresses_29 (by decide) ?_
        exact (hWW _ _ _ _ _).mpr ((ih (0, g9_38 (Int32.toNatClampNeg l3), upd g9_60 (Int32.toNatClampNeg ((g9_39 (Int32.toNatClampNeg l3)) - (1 : Int32))) (g9_37 (Int32.toNatClampNeg l3))) _ hf rfl _ _ _ rfl) rfl H locs ls hP hD hS (lv_sub hl [1, 2, 0] rfl)))
  refine lv_iload_n hx hb dX9_addresses_0 rfl (lv_at hl 1 rfl) ?_
  refine lv_istore_n (lv' := [(3, .int p1), (0, .ref o9), (1, .int p1), (2, .ref a9_60)]) hx hb dX9_addresses_1 rfl hl (by decide) rfl (fun ls hl => ?_)
  exact (hWW _ _ _ _ _).mpr ((J (0, p1, g9_60) _ hf rfl _ _ _ rfl) rfl H locs ls hP hD hS (lv_sub hl [1, 3, 0] rfl))

def f_X9_behind_L (g9_37 : Nat → Int32) (g9_38 : Nat → Int32) (g9_39 : Nat → Int32) (g9_43 : Nat → Int32) (g9_44 : Nat → Int32) (l3 : Int32) (l4 : Int32) (g9_59 : Nat → Int32) (g9_60 : Nat → Int32) (z : Nat × Int32) : Option (Int32 × (Nat → Int32) × (Nat → Int32)) := match z with
  | (q, l5) => if q = 0 then if l3 ≤ l5 then if l3 ≤ l4 then some (0, g9_59, g9_60) else some (1, g9_59, g9_60) else if l4 ≤ l5 then if l3 ≤ l4 then some (0, g9_59, g9_60) else some (1, g9_59, g9_60) else if x_gd l5 17 = true then if x_gd l5 17 = true then if (g9_59 (Int32.toNatClampNeg l5)) = (g9_60 (Int32.toNatClampNeg l5)) then (f_X9_behind_L g9_37 g9_38 g9_39 g9_43 g9_44 l3 l4 g9_59 g9_60 (0, l5 + 1)) else if x_gd l5 17 = true then if x_gd l5 17 = true then if (g9_59 (Int32.toNatClampNeg l5)) ≤ (g9_60 (Int32.toNatClampNeg l5)) then some (0, g9_59, g9_60) else some (1, g9_59, g9_60) else none else none else none else none else none
partial_fixpoint
def f_X9_behind (g9_37 : Nat → Int32) (g9_38 : Nat → Int32) (g9_39 : Nat → Int32) (g9_43 : Nat → Int32) (g9_44 : Nat → Int32) (g9_59 : Nat → Int32) (g9_60 : Nat → Int32) (p1 : Int32) (p2 : Int32) : Option (Int32 × (Nat → Int32) × (Nat → Int32)) := if x_gd p1 20010 = true then if x_gd p2 20010 = true then if (g9_43 (Int32.toNatClampNeg p1)) = (g9_43 (Int32.toNatClampNeg p2)) then if x_gd p1 20010 = true then (f_X9_addresses_a9_59 g9_37 g9_38 g9_39 g9_59 (g9_44 (Int32.toNatClampNeg p1))) >>= (fun r_15 => if x_gd p2 20010 = true then (f_X9_addresses_a9_60 g9_37 g9_38 g9_39 g9_60 (g9_44 (Int32.toNatClampNeg p2))) >>= (fun r_17 => if x_gd p1 20010 = true then if x_gd (g9_44 (Int32.toNatClampNeg p1)) 20010 = true then if x_gd p2 20010 = true then if x_gd (g9_44 (Int32.toNatClampNeg p2)) 20010 = true then (f_X9_behind_L g9_37 g9_38 g9_39 g9_43 g9_44 (g9_39 (Int32.toNatClampNeg (g9_44 (Int32.toNatClampNeg p1)))) (g9_39 (Int32.toNatClampNeg (g9_44 (Int32.toNatClampNeg p2)))) r_15 r_17 (0, 0)) else none else none else none else none) else none) else none else if x_gd p1 20010 = true then if x_gd p2 20010 = true then if (g9_43 (Int32.toNatClampNeg p1)) ≤ (g9_43 (Int32.toNatClampNeg p2)) then some (0, g9_59, g9_60) else some (1, g9_59, g9_60) else none else none else none else none
theorem i_X9_behind_X9 : ∀ w ∈ wsX90, w ∈ wsX9_behind := fun _ h => List.mem_cons_of_mem _ (List.mem_append_right _ h)
set_option maxHeartbeats 4000000 in
set_option maxRecDepth 100000 in
theorem c_X9_behind (l : Launch) (dC : Nat → ClassId) (dI : Nat → Nat → Nat) (cyI cyZ cyJ : ClassId) (sz : Nat) (o9 : Nat) (v9_0 : Int32) (v9_1 : Int32) (v9_2 : Int32) (v9_3 : Int32) (a9_4 : Nat) (a9_5 : Nat) (a9_6 : Nat) (a9_7 : Nat) (a9_8 : Nat) (a9_9 : Nat) (a9_10 : Nat) (a9_11 : Nat) (a9_12 : Nat) (v9_13 : Int32) (v9_14 : Int32) (v9_15 : Int32) (v9_16 : Int32) (v9_17 : Int32) (v9_18 : Int32) (a9_19 : Nat) (v9_20 : Int32) (v9_21 : Int32) (v9_22 : Int32) (a9_23 : Nat) (a9_24 : Nat) (a9_25 : Nat) (a9_26 : Nat) (a9_27 : Nat) (a9_28 : Nat) (a9_29 : Nat) (a9_30 : Nat) (a9_31 : Nat) (a9_32 : Nat) (a9_33 : Nat) (a9_34 : Nat) (v9_35 : Int32) (v9_36 : Int32) (a9_37 : Nat) (a9_38 : Nat) (a9_39 : Nat) (a9_40 : Nat) (a9_41 : Nat) (v9_42 : Int32) (a9_43 : Nat) (a9_44 : Nat) (a9_45 : Nat) (a9_46 : Nat) (a9_47 : Nat) (v9_48 : Int32) (v9_49 : Int32) (v9_50 : Int32) (v9_51 : Int32) (a9_52 : Nat) (a9_53 : Nat) (v9_54 : Int32) (v9_55 : Int32) (a9_56 : Nat) (a9_57 : Nat) (v9_58 : Int32) (a9_59 : Nat) (a9_60 : Nat) (a9_61 : Nat) (g9_37 : Nat → Int32) (g9_38 : Nat → Int32) (g9_39 : Nat → Int32) (g9_43 : Nat → Int32) (g9_44 : Nat → Int32) (g9_59 : Nat → Int32) (g9_60 : Nat → Int32) (p1 : Int32) (p2 : Int32) (R : Int32 × (Nat → Int32) × (Nat → Int32)) (hf : f_X9_behind g9_37 g9_38 g9_39 g9_43 g9_44 g9_59 g9_60 p1 p2 = some R) : Met l yX9_behind wsX9_behind ({ frames := 1, cells := 0, slots := 0, locals := 23 }) (va_Pc [.ref o9, .int p1, .int p2] (x_PreD (dC, dI) (x_T cyI cyZ cyJ) [(o9, .inr (9, x_O9 v9_0 v9_1 v9_2 v9_3 a9_4 a9_5 a9_6 a9_7 a9_8 a9_9 a9_10 a9_11 a9_12 v9_13 v9_14 v9_15 v9_16 v9_17 v9_18 a9_19 v9_20 v9_21 v9_22 a9_23 a9_24 a9_25 a9_26 a9_27 a9_28 a9_29 a9_30 a9_31 a9_32 a9_33 a9_34 v9_35 v9_36 a9_37 a9_38 a9_39 a9_40 a9_41 v9_42 a9_43 a9_44 a9_45 a9_46 a9_47 v9_48 v9_49 v9_50 v9_51 a9_52 a9_53 v9_54 v9_55 a9_56 a9_57 v9_58 a9_59 a9_60 a9_61)), (a9_37, .inl (cyI, 20010, .inl g9_37)), (a9_38, .inl (cyI, 20010, .inl g9_38)), (a9_39, .inl (cyI, 20010, .inl g9_39)), (a9_43, .inl (cyI, 20010, .inl g9_43)), (a9_44, .inl (cyI, 20010, .inl g9_44)), (a9_59, .inl (cyI, 17, .inl g9_59)), (a9_60, .inl (cyI, 17, .inl g9_60))] sz)) (va_Qi (fun (r : Int32) (_ : Unit) => r = R.1 ∧ x_nb r) (fun (_ : Unit) (t : State) => va_P (dC, dI) vwCl [(o9, .inr (9, x_O9 v9_0 v9_1 v9_2 v9_3 a9_4 a9_5 a9_6 a9_7 a9_8 a9_9 a9_10 a9_11 a9_12 v9_13 v9_14 v9_15 v9_16 v9_17 v9_18 a9_19 v9_20 v9_21 v9_22 a9_23 a9_24 a9_25 a9_26 a9_27 a9_28 a9_29 a9_30 a9_31 a9_32 a9_33 a9_34 v9_35 v9_36 a9_37 a9_38 a9_39 a9_40 a9_41 v9_42 a9_43 a9_44 a9_45 a9_46 a9_47 v9_48 v9_49 v9_50 v9_51 a9_52 a9_53 v9_54 v9_55 a9_56 a9_57 v9_58 a9_59 a9_60 a9_61)), (a9_37, .inl (cyI, 20010, .inl g9_37)), (a9_38, .inl (cyI, 20010, .inl g9_38)), (a9_39, .inl (cyI, 20010, .inl g9_39)), (a9_43, .inl (cyI, 20010, .inl g9_43)), (a9_44, .inl (cyI, 20010, .inl g9_44)), (a9_59, .inl (cyI, 17, .inl R.2.1)), (a9_60, .inl (cyI, 17, .inl R.2.2))] t.heap ∧ va_K (dC, dI) vwCl (x_T cyI cyZ cyJ) t ∧ va_D (va_A [(o9, .inr (9, x_O9 v9_0 v9_1 v9_2 v9_3 a9_4 a9_5 a9_6 a9_7 a9_8 a9_9 a9_10 a9_11 a9_12 v9_13 v9_14 v9_15 v9_16 v9_17 v9_18 a9_19 v9_20 v9_21 v9_22 a9_23 a9_24 a9_25 a9_26 a9_27 a9_28 a9_29 a9_30 a9_31 a9_32 a9_33 a9_34 v9_35 v9_36 a9_37 a9_38 a9_39 a9_40 a9_41 v9_42 a9_43 a9_44 a9_45 a9_46 a9_47 v9_48 v9_49 v9_50 v9_51 a9_52 a9_53 v9_54 v9_55 a9_56 a9_57 v9_58 a9_59 a9_60 a9_61)), (a9_37, .inl (cyI, 20010, .inl g9_37)), (a9_38, .inl (cyI, 20010, .inl g9_38)), (a9_39, .inl (cyI, 20010, .inl g9_39)), (a9_43, .inl (cyI, 20010, .inl g9_43)), (a9_44, .inl (cyI, 20010, .inl g9_44)), (a9_59, .inl (cyI, 17, .inl g9_59)), (a9_60, .inl (cyI, 17, .inl g9_60))] sz) [(o9, .inr (9, x_O9 v9_0 v9_1 v9_2 v9_3 a9_4 a9_5 a9_6 a9_7 a9_8 a9_9 a9_10 a9_11 a9_12 v9_13 v9_14 v9_15 v9_16 v9_17 v9_18 a9_19 v9_20 v9_21 v9_22 a9_23 a9_24 a9_25 a9_26 a9_27 a9_28 a9_29 a9_30 a9_31 a9_32 a9_33 a9_34 v9_35 v9_36 a9_37 a9_38 a9_39 a9_40 a9_41 v9_42 a9_43 a9_44 a9_45 a9_46 a9_47 v9_48 v9_49 v9_50 v9_51 a9_52 a9_53 v9_54 v9_55 a9_56 a9_57 v9_58 a9_59 a9_60 a9_61)), (a9_37, .inl (cyI, 20010, .inl g9_37)), (a9_38, .inl (cyI, 20010, .inl g9_38)), (a9_39, .inl (cyI, 20010, .inl g9_39)), (a9_43, .inl (cyI, 20010, .inl g9_43)), (a9_44, .inl (cyI, 20010, .inl g9_44)), (a9_59, .inl (cyI, 17, .inl R.2.1)), (a9_60, .inl (cyI, 17, .inl R.2.2))]) (va_A [(o9, .inr (9, x_O9 v9_0 v9_1 v9_2 v9_3 a9_4 a9_5 a9_6 a9_7 a9_8 a9_9 a9_10 a9_11 a9_12 v9_13 v9_14 v9_15 v9_16 v9_17 v9_18 a9_19 v9_20 v9_21 v9_22 a9_23 a9_24 a9_25 a9_26 a9_27 a9_28 a9_29 a9_30 a9_31 a9_32 a9_33 a9_34 v9_35 v9_36 a9_37 a9_38 a9_39 a9_40 a9_41 v9_42 a9_43 a9_44 a9_45 a9_46 a9_47 v9_48 v9_49 v9_50 v9_51 a9_52 a9_53 v9_54 v9_55 a9_56 a9_57 v9_58 a9_59 a9_60 a9_61)), (a9_37, .inl (cyI, 20010, .inl g9_37)), (a9_38, .inl (cyI, 20010, .inl g9_38)), (a9_39, .inl (cyI, 20010, .inl g9_39)), (a9_43, .inl (cyI, 20010, .inl g9_43)), (a9_44, .inl (cyI, 20010, .inl g9_44)), (a9_59, .inl (cyI, 17, .inl g9_59)), (a9_60, .inl (cyI, 17, .inl g9_60))] sz)) 0 0 (va_A [(o9, .inr (9, x_O9 v9_0 v9_1 v9_2 v9_3 a9_4 a9_5 a9_6 a9_7 a9_8 a9_9 a9_10 a9_11 a9_12 v9_13 v9_14 v9_15 v9_16 v9_17 v9_18 a9_19 v9_20 v9_21 v9_22 a9_23 a9_24 a9_25 a9_26 a9_27 a9_28 a9_29 a9_30 a9_31 a9_32 a9_33 a9_34 v9_35 v9_36 a9_37 a9_38 a9_39 a9_40 a9_41 v9_42 a9_43 a9_44 a9_45 a9_46 a9_47 v9_48 v9_49 v9_50 v9_51 a9_52 a9_53 v9_54 v9_55 a9_56 a9_57 v9_58 a9_59 a9_60 a9_61)), (a9_37, .inl (cyI, 20010, .inl g9_37)), (a9_38, .inl (cyI, 20010, .inl g9_38)), (a9_39, .inl (cyI, 20010, .inl g9_39)), (a9_43, .inl (cyI, 20010, .inl g9_43)), (a9_44, .inl (cyI, 20010, .inl g9_44)), (a9_59, .inl (cyI, 17, .inl g9_59)), (a9_60, .inl (cyI, 17, .inl g9_60))] sz) := by
  refine Met.ofW (cc := cX9_behind) (maxL := 6) (ret := (some .boolean)) (by decide) rfl ?_
  intro p e s m args below meth c s₁ B hml hv
  obtain ⟨rfl, ⟨hsz, hP, hK, hN⟩, hD0⟩ := hv
  have hx := B.exec
  have hb := B.bytes
  have hr := B.returns
  have hts := atoms_spec (ws := wsX9_behind) B.pre
  have hown : s.vm.findClass RX9 = some m.cls := findClass_of_methodNamed B.named
  have k_1 := hts (.fieldLink RX9 131 "FlowJudgeModel" "rowA" "[I") (by decide +kernel)
  have k_2 := hts (.fieldLink RX9 134 "FlowJudgeModel" "rowB" "[I") (by decide +kernel)
  have k_3 := hts (.fieldLink RX9 103 "FlowJudgeModel" "sAt" "[I") (by decide +kernel)
  have k_4 := hts (.fieldLink RX9 106 "FlowJudgeModel" "sContext" "[I") (by decide +kernel)
  have k_5 := hts (.fieldLink RX9 94 "FlowJudgeModel" "xDeep" "[I") (by decide +kernel)
  subst hsz
  have hD := hD0.self (sz := s.heap.size)
  generalize hAe : va_A [(o9, .inr (9, x_O9 v9_0 v9_1 v9_2 v9_3 a9_4 a9_5 a9_6 a9_7 a9_8 a9_9 a9_10 a9_11 a9_12 v9_13 v9_14 v9_15 v9_16 v9_17 v9_18 a9_19 v9_20 v9_21 v9_22 a9_23 a9_24 a9_25 a9_26 a9_27 a9_28 a9_29 a9_30 a9_31 a9_32 a9_33 a9_34 v9_35 v9_36 a9_37 a9_38 a9_39 a9_40 a9_41 v9_42 a9_43 a9_44 a9_45 a9_46 a9_47 v9_48 v9_49 v9_50 v9_51 a9_52 a9_53 v9_54 v9_55 a9_56 a9_57 v9_58 a9_59 a9_60 a9_61)), (a9_37, .inl (cyI, 20010, .inl g9_37)), (a9_38, .inl (cyI, 20010, .inl g9_38)), (a9_39, .inl (cyI, 20010, .inl g9_39)), (a9_43, .inl (cyI, 20010, .inl g9_43)), (a9_44, .inl (cyI, 20010, .inl g9_44)), (a9_59, .inl (cyI, 17, .inl g9_59)), (a9_60, .inl (cyI, 17, .inl g9_60))] s.heap.size = A at hD ⊢
  have hA : ∀ q : Nat, s.heap.size ≤ q → A q := fun q h => by rw [← hAe]; exact Or.inr h
  have hP : va_P (dC, dI) vwCl [(o9, .inr (9, x_O9 v9_0 v9_1 v9_2 v9_3 a9_4 a9_5 a9_6 a9_7 a9_8 a9_9 a9_10 a9_11 a9_12 v9_13 v9_14 v9_15 v9_16 v9_17 v9_18 a9_19 v9_20 v9_21 v9_22 a9_23 a9_24 a9_25 a9_26 a9_27 a9_28 a9_29 a9_30 a9_31 a9_32 a9_33 a9_34 v9_35 v9_36 a9_37 a9_38 a9_39 a9_40 a9_41 v9_42 a9_43 a9_44 a9_45 a9_46 a9_47 v9_48 v9_49 v9_50 v9_51 a9_52 a9_53 v9_54 v9_55 a9_56 a9_57 v9_58 a9_59 a9_60 a9_61)), (a9_37, .inl (cyI, 20010, .inl g9_37)), (a9_38, .inl (cyI, 20010, .inl g9_38)), (a9_39, .inl (cyI, 20010, .inl g9_39)), (a9_43, .inl (cyI, 20010, .inl g9_43)), (a9_44, .inl (cyI, 20010, .inl g9_44)), (a9_59, .inl (cyI, 17, .inl g9_59)), (a9_60, .inl (cyI, 17, .inl g9_60))] s.heap := hP
  have hl := lv_entry ([.ref o9, .int p1, .int p2]) (n := 6) (Nat.le_of_ble_eq_true rfl)
  rw [lg_entry_eq]
  generalize (lg_sl ([.ref o9, .int p1, .int p2]) ++ List.replicate (6 - (lg_sl ([.ref o9, .int p1, .int p2])).length) Slot.unset).toArray = ls at hl ⊢
  have hl : lv_has ls 6 [(0, .ref o9), (1, .int p1), (2, .int p2)] := hl
  obtain ⟨H, hH⟩ : ∃ z, z = s.heap := ⟨_, rfl⟩
  refine x_here hH ?_
  have hP : va_P (dC, dI) vwCl [(o9, .inr (9, x_O9 v9_0 v9_1 v9_2 v9_3 a9_4 a9_5 a9_6 a9_7 a9_8 a9_9 a9_10 a9_11 a9_12 v9_13 v9_14 v9_15 v9_16 v9_17 v9_18 a9_19 v9_20 v9_21 v9_22 a9_23 a9_24 a9_25 a9_26 a9_27 a9_28 a9_29 a9_30 a9_31 a9_32 a9_33 a9_34 v9_35 v9_36 a9_37 a9_38 a9_39 a9_40 a9_41 v9_42 a9_43 a9_44 a9_45 a9_46 a9_47 v9_48 v9_49 v9_50 v9_51 a9_52 a9_53 v9_54 v9_55 a9_56 a9_57 v9_58 a9_59 a9_60 a9_61)), (a9_37, .inl (cyI, 20010, .inl g9_37)), (a9_38, .inl (cyI, 20010, .inl g9_38)), (a9_39, .inl (cyI, 20010, .inl g9_39)), (a9_43, .inl (cyI, 20010, .inl g9_43)), (a9_44, .inl (cyI, 20010, .inl g9_44)), (a9_59, .inl (cyI, 17, .inl g9_59)), (a9_60, .inl (cyI, 17, .inl g9_60))] H := by rw [hH]; exact hP
  have hS : va_S A s.heap H [] := by rw [hH]; exact va_S.rf
  clear hH
  obtain ⟨locs, hlo⟩ : ∃ z : List Loc, z = [] := ⟨_, rfl⟩
  refine x_herl hlo ?_
  have hS : va_S A s.heap H locs := by rw [hlo]; exact hS
  clear hlo
  unfold f_X9_behind at hf
  refine x_wn (fun WW hWW => ?_)
  have J := fun (l3 : Int32) (l4 : Int32) (g9_59 : Nat → Int32) (g9_60 : Nat → Int32) => f_X9_behind_L.partial_correctness g9_37 g9_38 g9_39 g9_43 g9_44 l3 l4 g9_59 g9_60 (fun (z : Nat × Int32) (r : Int32 × (Nat → Int32) × (Nat → Int32)) => r = R → ∀ (q : Nat) (l5 : Int32), z = (q, l5) → ((q = 0 → ∀ (H : Heap) (locs : List Loc) (ls : Array Slot), va_P (dC, dI) vwCl [(o9, .inr (9, x_O9 v9_0 v9_1 v9_2 v9_3 a9_4 a9_5 a9_6 a9_7 a9_8 a9_9 a9_10 a9_11 a9_12 v9_13 v9_14 v9_15 v9_16 v9_17 v9_18 a9_19 v9_20 v9_21 v9_22 a9_23 a9_24 a9_25 a9_26 a9_27 a9_28 a9_29 a9_30 a9_31 a9_32 a9_33 a9_34 v9_35 v9_36 a9_37 a9_38 a9_39 a9_40 a9_41 v9_42 a9_43 a9_44 a9_45 a9_46 a9_47 v9_48 v9_49 v9_50 v9_51 a9_52 a9_53 v9_54 v9_55 a9_56 a9_57 v9_58 a9_59 a9_60 a9_61)), (a9_37, .inl (cyI, 20010, .inl g9_37)), (a9_38, .inl (cyI, 20010, .inl g9_38)), (a9_39, .inl (cyI, 20010, .inl g9_39)), (a9_43, .inl (cyI, 20010, .inl g9_43)), (a9_44, .inl (cyI, 20010, .inl g9_44)), (a9_59, .inl (cyI, 17, .inl g9_59)), (a9_60, .inl (cyI, 17, .inl g9_60))] H → va_D A [(o9, .inr (9, x_O9 v9_0 v9_1 v9_2 v9_3 a9_4 a9_5 a9_6 a9_7 a9_8 a9_9 a9_10 a9_11 a9_12 v9_13 v9_14 v9_15 v9_16 v9_17 v9_18 a9_19 v9_20 v9_21 v9_22 a9_23 a9_24 a9_25 a9_26 a9_27 a9_28 a9_29 a9_30 a9_31 a9_32 a9_33 a9_34 v9_35 v9_36 a9_37 a9_38 a9_39 a9_40 a9_41 v9_42 a9_43 a9_44 a9_45 a9_46 a9_47 v9_48 v9_49 v9_50 v9_51 a9_52 a9_53 v9_54 v9_55 a9_56 a9_57 v9_58 a9_59 a9_60 a9_61)), (a9_37, .inl (cyI, 20010, .inl g9_37)), (a9_38, .inl (cyI, 20010, .inl g9_38)), (a9_39, .inl (cyI, 20010, .inl g9_39)), (a9_43, .inl (cyI, 20010, .inl g9_43)), (a9_44, .inl (cyI, 20010, .inl g9_44)), (a9_59, .inl (cyI, 17, .inl g9_59)), (a9_60, .inl (cyI, 17, .inl g9_60))] → va_S A s.heap H locs → lv_has ls 6 [(0, .ref o9), (3, .int l3), (4, .int l4), (5, .int l5)] → WW H locs 0 0 (F0 m 92 ls [])))) (by
    intro F ih z r hf hr q l5 hz
    subst hz
    obtain rfl := hr
    · intro hq H locs ls hP hD hS hl
      subst hq
      refine (hWW _ _ _ _ _).mp ?_
      replace hf := x_ip rfl hf
      refine lv_iload hx hb dX9_behind_92 (lv_at hl 3 rfl) ?_
      refine lv_iload_n hx hb dX9_behind_94 rfl (lv_at hl 1 rfl) ?_
      refine lv_icmp_ge (tgt := 151) hx hb dX9_behind_95 (by decide) (fun c_1 => ?_) (fun c_1 => ?_)
      · replace hf := x_ip c_1 hf
        refine lv_iload_n hx hb dX9_behind_151 rfl (lv_at hl 1 rfl) ?_
        refine lv_iload hx hb dX9_behind_152 (lv_at hl 2 rfl) ?_
        refine lv_icmp_le (tgt := 161) hx hb dX9_behind_154 (by decide) (fun c_2 => ?_) (fun c_2 => ?_)
        · replace hf := x_ip c_2 hf
          refine lv_iconst (v := 0) hx hb dX9_behind_161 (by decide) ?_
          obtain rfl := Option.some.inj hf
          have hP9 := hP.sub (ws' := [(o9, .inr (9, x_O9 v9_0 v9_1 v9_2 v9_3 a9_4 a9_5 a9_6 a9_7 a9_8 a9_9 a9_10 a9_11 a9_12 v9_13 v9_14 v9_15 v9_16 v9_17 v9_18 a9_19 v9_20 v9_21 v9_22 a9_23 a9_24 a9_25 a9_26 a9_27 a9_28 a9_29 a9_30 a9_31 a9_32 a9_33 a9_34 v9_35 v9_36 a9_37 a9_38 a9_39 a9_40 a9_41 v9_42 a9_43 a9_44 a9_45 a9_46 a9_47 v9_48 v9_49 v9_50 v9_51 a9_52 a9_53 v9_54 v9_55 a9_56 a9_57 v9_58 a9_59 a9_60 a9_61)), (a9_37, .inl (cyI, 20010, .inl g9_37)), (a9_38, .inl (cyI, 20010, .inl g9_38)), (a9_39, .inl (cyI, 20010, .inl g9_39)), (a9_43, .inl (cyI, 20010, .inl g9_43)), (a9_44, .inl (cyI, 20010, .inl g9_44)), (a9_59, .inl (cyI, 17, .inl g9_59)), (a9_60, .inl (cyI, 17, .inl g9_60))]) [0, 1, 2, 3, 4, 5, 6, 7] rfl
          have hD9 := hD.sub (ws' := [(o9, .inr (9, x_O9 v9_0 v9_1 v9_2 v9_3 a9_4 a9_5 a9_6 a9_7 a9_8 a9_9 a9_10 a9_11 a9_12 v9_13 v9_14 v9_15 v9_16 v9_17 v9_18 a9_19 v9_20 v9_21 v9_22 a9_23 a9_24 a9_25 a9_26 a9_27 a9_28 a9_29 a9_30 a9_31 a9_32 a9_33 a9_34 v9_35 v9_36 a9_37 a9_38 a9_39 a9_40 a9_41 v9_42 a9_43 a9_44 a9_45 a9_46 a9_47 v9_48 v9_49 v9_50 v9_51 a9_52 a9_53 v9_54 v9_55 a9_56 a9_57 v9_58 a9_59 a9_60 a9_61)), (a9_37, .inl (cyI, 20010, .inl g9_37)), (a9_38, .inl (cyI, 20010, .inl g9_38)), (a9_39, .inl (cyI, 20010, .inl g9_39)), (a9_43, .inl (cyI, 20010, .inl g9_43)), (a9_44, .inl (cyI, 20010, .inl g9_44)), (a9_59, .inl (cyI, 17, .inl g9_59)), (a9_60, .inl (cyI, 17, .inl g9_60))]) [0, 1, 2, 3, 4, 5, 6, 7] (by decide) rfl
          exact W.zret (ty := .boolean) hx hb hr rfl (fun t ht hW => ⟨⟨_, (), rfl, ⟨rfl, rfl⟩, by rw [ht]; exact hP9, va_K.moved hW.alike hK, hD9⟩, hS.F ht⟩) hS.2.2 dX9_behind_162
        · replace hf := x_in c_2 hf
          refine lv_iconst (v := 1) hx hb dX9_behind_157 (by decide) ?_
          refine lv_goto (tgt := 162) hx hb dX9_behind_158 (by decide) ?_
          obtain rfl := Option.some.inj hf
          have hP9 := hP.sub (ws' := [(o9, .inr (9, x_O9 v9_0 v9_1 v9_2 v9_3 a9_4 a9_5 a9_6 a9_7 a9_8 a9_9 a9_10 a9_11 a9_12 v9_13 v9_14 v9_15 v9_16 v9_17 v9_18 a9_19 v9_20 v9_21 v9_22 a9_23 a9_24 a9_25 a9_26 a9_27 a9_28 a9_29 a9_30 a9_31 a9_32 a9_33 a9_34 v9_35 v9_36 a9_37 a9_38 a9_39 a9_40 a9_41 v9_42 a9_43 a9_44 a9_45 a9_46 a9_47 v9_48 v9_49 v9_50 v9_51 a9_52 a9_53 v9_54 v9_55 a9_56 a9_57 v9_58 a9_59 a9_60 a9_61)), (a9_37, .inl (cyI, 20010, .inl g9_37)), (a9_38, .inl (cyI, 20010, .inl g9_38)), (a9_39, .inl (cyI, 20010, .inl g9_39)), (a9_43, .inl (cyI, 20010, .inl g9_43)), (a9_44, .inl (cyI, 20010, .inl g9_44)), (a9_59, .inl (cyI, 17, .inl g9_59)), (a9_60, .inl (cyI, 17, .inl g9_60))]) [0, 1, 2, 3, 4, 5, 6, 7] rfl
          have hD9 := hD.sub (ws' := [(o9, .inr (9, x_O9 v9_0 v9_1 v9_2 v9_3 a9_4 a9_5 a9_6 a9_7 a9_8 a9_9 a9_10 a9_11 a9_12 v9_13 v9_14 v9_15 v9_16 v9_17 v9_18 a9_19 v9_20 v9_21 v9_22 a9_23 a9_24 a9_25 a9_26 a9_27 a9_28 a9_29 a9_30 a9_31 a9_32 a9_33 a9_34 v9_35 v9_36 a9_37 a9_38 a9_39 a9_40 a9_41 v9_42 a9_43 a9_44 a9_45 a9_46 a9_47 v9_48 v9_49 v9_50 v9_51 a9_52 a9_53 v9_54 v9_55 a9_56 a9_57 v9_58 a9_59 a9_60 a9_61)), (a9_37, .inl (cyI, 20010, .inl g9_37)), (a9_38, .inl (cyI, 20010, .inl g9_38)), (a9_39, .inl (cyI, 20010, .inl g9_39)), (a9_43, .inl (cyI, 20010, .inl g9_43)), (a9_44, .inl (cyI, 20010, .inl g9_44)), (a9_59, .inl (cyI, 17, .inl g9_59)), (a9_60, .inl (cyI, 17, .inl g9_60))]) [0, 1, 2, 3, 4, 5, 6, 7] (by decide) rfl
          exact W.zret (ty := .boolean) hx hb hr rfl (fun t ht hW => ⟨⟨_, (), rfl, ⟨rfl, rfl⟩, by rw [ht]; exact hP9, va_K.moved hW.alike hK, hD9⟩, hS.F ht⟩) hS.2.2 dX9_behind_162
      · replace hf := x_in c_1 hf
        refine lv_iload hx hb dX9_behind_98 (lv_at hl 3 rfl) ?_
        refine lv_iload hx hb dX9_behind_100 (lv_at hl 2 rfl) ?_
        refine lv_icmp_ge (tgt := 151) hx hb dX9_behind_102 (by decide) (fun c_3 => ?_) (fun c_3 => ?_)
        · replace hf := x_ip c_3 hf
          refine lv_iload_n hx hb dX9_behind_151 rfl (lv_at hl 1 rfl) ?_
          refine lv_iload hx hb dX9_behind_152 (lv_at hl 2 rfl) ?_
          refine lv_icmp_le (tgt := 161) hx hb dX9_behind_154 (by decide) (fun c_4 => ?_) (fun c_4 => ?_)
          · replace hf := x_ip c_4 hf
            refine lv_iconst (v := 0) hx hb dX9_behind_161 (by decide) ?_
            obtain rfl := Option.some.inj hf
            have hP9 := hP.sub (ws' := [(o9, .inr (9, x_O9 v9_0 v9_1 v9_2 v9_3 a9_4 a9_5 a9_6 a9_7 a9_8 a9_9 a9_10 a9_11 a9_12 v9_13 v9_14 v9_15 v9_16 v9_17 v9_18 a9_19 v9_20 v9_21 v9_22 a9_23 a9_24 a9_25 a9_26 a9_27 a9_28 a9_29 a9_30 a9_31 a9_32 a9_33 a9_34 v9_35 v9_36 a9_37 a9_38 a9_39 a9_40 a9_41 v9_42 a9_43 a9_44 a9_45 a9_46 a9_47 v9_48 v9_49 v9_50 v9_51 a9_52 a9_53 v9_54 v9_55 a9_56 a9_57 v9_58 a9_59 a9_60 a9_61)), (a9_37, .inl (cyI, 20010, .inl g9_37)), (a9_38, .inl (cyI, 20010, .inl g9_38)), (a9_39, .inl (cyI, 20010, .inl g9_39)), (a9_43, .inl (cyI, 20010, .inl g9_43)), (a9_44, .inl (cyI, 20010, .inl g9_44)), (a9_59, .inl (cyI, 17, .inl g9_59)), (a9_60, .inl (cyI, 17, .inl g9_60))]) [0, 1, 2, 3, 4, 5, 6, 7] rfl
            have hD9 := hD.sub (ws' := [(o9, .inr (9, x_O9 v9_0 v9_1 v9_2 v9_3 a9_4 a9_5 a9_6 a9_7 a9_8 a9_9 a9_10 a9_11 a9_12 v9_13 v9_14 v9_15 v9_16 v9_17 v9_18 a9_19 v9_20 v9_21 v9_22 a9_23 a9_24 a9_25 a9_26 a9_27 a9_28 a9_29 a9_30 a9_31 a9_32 a9_33 a9_34 v9_35 v9_36 a9_37 a9_38 a9_39 a9_40 a9_41 v9_42 a9_43 a9_44 a9_45 a9_46 a9_47 v9_48 v9_49 v9_50 v9_51 a9_52 a9_53 v9_54 v9_55 a9_56 a9_57 v9_58 a9_59 a9_60 a9_61)), (a9_37, .inl (cyI, 20010, .inl g9_37)), (a9_38, .inl (cyI, 20010, .inl g9_38)), (a9_39, .inl (cyI, 20010, .inl g9_39)), (a9_43, .inl (cyI, 20010, .inl g9_43)), (a9_44, .inl (cyI, 20010, .inl g9_44)), (a9_59, .inl (cyI, 17, .inl g9_59)), (a9_60, .inl (cyI, 17, .inl g9_60))]) [0, 1, 2, 3, 4, 5, 6, 7] (by decide) rfl
            exact W.zret (ty := .boolean) hx hb hr rfl (fun t ht hW => ⟨⟨_, (), rfl, ⟨rfl, rfl⟩, by rw [ht]; exact hP9, va_K.moved hW.alike hK, hD9⟩, hS.F ht⟩) hS.2.2 dX9_behind_162
          · replace hf := x_in c_4 hf
            refine lv_iconst (v := 1) hx hb dX9_behind_157 (by decide) ?_
            refine lv_goto (tgt := 162) hx hb dX9_behind_158 (by decide) ?_
            obtain rfl := Option.some.inj hf
            have hP9 := hP.sub (ws' := [(o9, .inr (9, x_O9 v9_0 v9_1 v9_2 v9_3 a9_4 a9_5 a9_6 a9_7 a9_8 a9_9 a9_10 a9_11 a9_12 v9_13 v9_14 v9_15 v9_16 v9_17 v9_18 a9_19 v9_20 v9_21 v9_22 a9_23 a9_24 a9_25 a9_26 a9_27 a9_28 a9_29 a9_30 a9_31 a9_32 a9_33 a9_34 v9_35 v9_36 a9_37 a9_38 a9_39 a9_40 a9_41 v9_42 a9_43 a9_44 a9_45 a9_46 a9_47 v9_48 v9_49 v9_50 v9_51 a9_52 a9_53 v9_54 v9_55 a9_56 a9_57 v9_58 a9_59 a9_60 a9_61)), (a9_37, .inl (cyI, 20010, .inl g9_37)), (a9_38, .inl (cyI, 20010, .inl g9_38)), (a9_39, .inl (cyI, 20010, .inl g9_39)), (a9_43, .inl (cyI, 20010, .inl g9_43)), (a9_44, .inl (cyI, 20010, .inl g9_44)), (a9_59, .inl (cyI, 17, .inl g9_59)), (a9_60, .inl (cyI, 17, .inl g9_60))]) [0, 1, 2, 3, 4, 5, 6, 7] rfl
            have hD9 := hD.sub (ws' := [(o9, .inr (9, x_O9 v9_0 v9_1 v9_2 v9_3 a9_4 a9_5 a9_6 a9_7 a9_8 a9_9 a9_10 a9_11 a9_12 v9_13 v9_14 v9_15 v9_16 v9_17 v9_18 a9_19 v9_20 v9_21 v9_22 a9_23 a9_24 a9_25 a9_26 a9_27 a9_28 a9_29 a9_30 a9_31 a9_32 a9_33 a9_34 v9_35 v9_36 a9_37 a9_38 a9_39 a9_40 a9_41 v9_42 a9_43 a9_44 a9_45 a9_46 a9_47 v9_48 v9_49 v9_50 v9_51 a9_52 a9_53 v9_54 v9_55 a9_56 a9_57 v9_58 a9_59 a9_60 a9_61)), (a9_37, .inl (cyI, 20010, .inl g9_37)), (a9_38, .inl (cyI, 20010, .inl g9_38)), (a9_39, .inl (cyI, 20010, .inl g9_39)), (a9_43, .inl (cyI, 20010, .inl g9_43)), (a9_44, .inl (cyI, 20010, .inl g9_44)), (a9_59, .inl (cyI, 17, .inl g9_59)), (a9_60, .inl (cyI, 17, .inl g9_60))]) [0, 1, 2, 3, 4, 5, 6, 7] (by decide) rfl
            exact W.zret (ty := .boolean) hx hb hr rfl (fun t ht hW => ⟨⟨_, (), rfl, ⟨rfl, rfl⟩, by rw [ht]; exact hP9, va_K.moved hW.alike hK, hD9⟩, hS.F ht⟩) hS.2.2 dX9_behind_162
        · replace hf := x_in c_3 hf
          refine lv_aload_n hx hb dX9_behind_105 rfl (lv_at hl 0 rfl) ?_
          refine va_get (D := (dC, dI)) (ci := 9) (v := .ref a9_59) (C := RX9) (T := TX9) (N := 62) hx hb hts i_X9_behind_X9 hown hK hP 0 rfl rfl 59 (by decide) k_1 (fun _ h9 => h9) rfl dX9_behind_106 ?_
          refine lv_iload hx hb dX9_behind_109 (lv_at hl 3 rfl) ?_
          obtain ⟨g_5, hf⟩ := x_gu hf
          refine va_iald hx hb hK hP 6 0 rfl rfl (x_gdin g_5) dX9_behind_111 ?_
          refine lv_aload_n hx hb dX9_behind_112 rfl (lv_at hl 0 rfl) ?_
          refine va_get (D := (dC, dI)) (ci := 9) (v := .ref a9_60) (C := RX9) (T := TX9) (N := 62) hx hb hts i_X9_behind_X9 hown hK hP 0 rfl rfl 60 (by decide) k_2 (fun _ h9 => h9) rfl dX9_behind_113 ?_
          refine lv_iload hx hb dX9_behind_116 (lv_at hl 3 rfl) ?_
          obtain ⟨g_6, hf⟩ := x_gu hf
          refine va_iald hx hb hK hP 7 0 rfl rfl (x_gdin g_6) dX9_behind_118 ?_
          refine lv_icmp_eq (tgt := 145) hx hb dX9_behind_119 (by decide) (fun c_7 => ?_) (fun c_7 => ?_)
          · replace hf := x_ip c_7 hf
            refine lv_iinc (v := (l5 + 1)) (lv' := [(5, .int (l5 + 1)), (0, .ref o9), (3, .int l3), (4, .int l4)]) hx hb dX9_behind_145 hl (k := 3) rfl rfl (by decide) rfl (fun ls hl => ?_)
            refine lv_goto (tgt := 92) hx hb dX9_behind_148 (by decide) ?_
            exact (hWW _ _ _ _ _).mpr ((ih (0, l5 + 1) _ hf rfl _ _ rfl) rfl H locs ls hP hD hS (lv_sub hl [1, 2, 3, 0] rfl))
          · replace hf := x_in c_7 hf
            refine lv_aload_n hx hb dX9_behind_122 rfl (lv_at hl 0 rfl) ?_
            refine va_get (D := (dC, dI)) (ci := 9) (v := .ref a9_59) (C := RX9) (T := TX9) (N := 62) hx hb hts i_X9_behind_X9 hown hK hP 0 rfl rfl 59 (by decide) k_1 (fun _ h9 => h9) rfl dX9_behind_123 ?_
            refine lv_iload hx hb dX9_behind_126 (lv_at hl 3 rfl) ?_
            obtain ⟨g_8, hf⟩ := x_gu hf
            refine va_iald hx hb hK hP 6 0 rfl rfl (x_gdin g_8) dX9_behind_128 ?_
            refine lv_aload_n hx hb dX9_behind_129 rfl (lv_at hl 0 rfl) ?_
            refine va_get (D := (dC, dI)) (ci := 9) (v := .ref a9_60) (C := RX9) (T := TX9) (N := 62) hx hb hts i_X9_behind_X9 hown hK hP 0 rfl rfl 60 (by decide) k_2 (fun _ h9 => h9) rfl dX9_behind_130 ?_
            refine lv_iload hx hb dX9_behind_133 (lv_at hl 3 rfl) ?_
            obtain ⟨g_9, hf⟩ := x_gu hf
            refine va_iald hx hb hK hP 7 0 rfl rfl (x_gdin g_9) dX9_behind_135 ?_
            refine lv_icmp_le (tgt := 143) hx hb dX9_behind_136 (by decide) (fun c_10 => ?_) (fun c_10 => ?_)
            · replace hf := x_ip c_10 hf
              refine lv_iconst (v := 0) hx hb dX9_behind_143 (by decide) ?_
              obtain rfl := Option.some.inj hf
              have hP9 := hP.sub (ws' := [(o9, .inr (9, x_O9 v9_0 v9_1 v9_2 v9_3 a9_4 a9_5 a9_6 a9_7 a9_8 a9_9 a9_10 a9_11 a9_12 v9_13 v9_14 v9_15 v9_16 v9_17 v9_18 a9_19 v9_20 v9_21 v9_22 a9_23 a9_24 a9_25 a9_26 a9_27 a9_28 a9_29 a9_30 a9_31 a9_32 a9_33 a9_34 v9_35 v9_36 a9_37 a9_38 a9_39 a9_40 a9_41 v9_42 a9_43 a9_44 a9_45 a9_46 a9_47 v9_48 v9_49 v9_50 v9_51 a9_52 a9_53 v9_54 v9_55 a9_56 a9_57 v9_58 a9_59 a9_60 a9_61)), (a9_37, .inl (cyI, 20010, .inl g9_37)), (a9_38, .inl (cyI, 20010, .inl g9_38)), (a9_39, .inl (cyI, 20010, .inl g9_39)), (a9_43, .inl (cyI, 20010, .inl g9_43)), (a9_44, .inl (cyI, 20010, .inl g9_44)), (a9_59, .inl (cyI, 17, .inl g9_59)), (a9_60, .inl (cyI, 17, .inl g9_60))]) [0, 1, 2, 3, 4, 5, 6, 7] rfl
              have hD9 := hD.sub (ws' := [(o9, .inr (9, x_O9 v9_0 v9_1 v9_2 v9_3 a9_4 a9_5 a9_6 a9_7 a9_8 a9_9 a9_10 a9_11 a9_12 v9_13 v9_14 v9_15 v9_16 v9_17 v9_18 a9_19 v9_20 v9_21 v9_22 a9_23 a9_24 a9_25 a9_26 a9_27 a9_28 a9_29 a9_30 a9_31 a9_32 a9_33 a9_34 v9_35 v9_36 a9_37 a9_38 a9_39 a9_40 a9_41 v9_42 a9_43 a9_44 a9_45 a9_46 a9_47 v9_48 v9_49 v9_50 v9_51 a9_52 a9_53 v9_54 v9_55 a9_56 a9_57 v9_58 a9_59 a9_60 a9_61)), (a9_37, .inl (cyI, 20010, .inl g9_37)), (a9_38, .inl (cyI, 20010, .inl g9_38)), (a9_39, .inl (cyI, 20010, .inl g9_39)), (a9_43, .inl (cyI, 20010, .inl g9_43)), (a9_44, .inl (cyI, 20010, .inl g9_44)), (a9_59, .inl (cyI, 17, .inl g9_59)), (a9_60, .inl (cyI, 17, .inl g9_60))]) [0, 1, 2, 3, 4, 5, 6, 7] (by decide) rfl
              exact W.zret (ty := .boolean) hx hb hr rfl (fun t ht hW => ⟨⟨_, (), rfl, ⟨rfl, rfl⟩, by rw [ht]; exact hP9, va_K.moved hW.alike hK, hD9⟩, hS.F ht⟩) hS.2.2 dX9_behind_144
            · replace hf := x_in c_10 hf
              refine lv_iconst (v := 1) hx hb dX9_behind_139 (by decide) ?_
              refine lv_goto (tgt := 144) hx hb dX9_behind_140 (by decide) ?_
              obtain rfl := Option.some.inj hf
              have hP9 := hP.sub (ws' := [(o9, .inr (9, x_O9 v9_0 v9_1 v9_2 v9_3 a9_4 a9_5 a9_6 a9_7 a9_8 a9_9 a9_10 a9_11 a9_12 v9_13 v9_14 v9_15 v9_16 v9_17 v9_18 a9_19 v9_20 v9_21 v9_22 a9_23 a9_24 a9_25 a9_26 a9_27 a9_28 a9_29 a9_30 a9_31 a9_32 a9_33 a9_34 v9_35 v9_36 a9_37 a9_38 a9_39 a9_40 a9_41 v9_42 a9_43 a9_44 a9_45 a9_46 a9_47 v9_48 v9_49 v9_50 v9_51 a9_52 a9_53 v9_54 v9_55 a9_56 a9_57 v9_58 a9_59 a9_60 a9_61)), (a9_37, .inl (cyI, 20010, .inl g9_37)), (a9_38, .inl (cyI, 20010, .inl g9_38)), (a9_39, .inl (cyI, 20010, .inl g9_39)), (a9_43, .inl (cyI, 20010, .inl g9_43)), (a9_44, .inl (cyI, 20010, .inl g9_44)), (a9_59, .inl (cyI, 17, .inl g9_59)), (a9_60, .inl (cyI, 17, .inl g9_60))]) [0, 1, 2, 3, 4, 5, 6, 7] rfl
              have hD9 := hD.sub (ws' := [(o9, .inr (9, x_O9 v9_0 v9_1 v9_2 v9_3 a9_4 a9_5 a9_6 a9_7 a9_8 a9_9 a9_10 a9_11 a9_12 v9_13 v9_14 v9_15 v9_16 v9_17 v9_18 a9_19 v9_20 v9_21 v9_22 a9_23 a9_24 a9_25 a9_26 a9_27 a9_28 a9_29 a9_30 a9_31 a9_32 a9_33 a9_34 v9_35 v9_36 a9_37 a9_38 a9_39 a9_40 a9_41 v9_42 a9_43 a9_44 a9_45 a9_46 a9_47 v9_48 v9_49 v9_50 v9_51 a9_52 a9_53 v9_54 v9_55 a9_56 a9_57 v9_58 a9_59 a9_60 a9_61)), (a9_37, .inl (cyI, 20010, .inl g9_37)), (a9_38, .inl (cyI, 20010, .inl g9_38)), (a9_39, .inl (cyI, 20010, .inl g9_39)), (a9_43, .inl (cyI, 20010, .inl g9_43)), (a9_44, .inl (cyI, 20010, .inl g9_44)), (a9_59, .inl (cyI, 17, .inl g9_59)), (a9_60, .inl (cyI, 17, .inl g9_60))]) [0, 1, 2, 3, 4, 5, 6, 7] (by decide) rfl
              exact W.zret (ty := .boolean) hx hb hr rfl (fun t ht hW => ⟨⟨_, (), rfl, ⟨rfl, rfl⟩, by rw [ht]; exact hP9, va_K.moved hW.alike hK, hD9⟩, hS.F ht⟩) hS.2.2 dX9_behind_144)
  refine lv_aload_n hx hb dX9_behind_0 rfl (lv_at hl 0 rfl) ?_
  refine va_get (D := (dC, dI)) (ci := 9) (v := .ref a9_43) (C := RX9) (T := TX9) (N := 62) hx hb hts i_X9_behind_X9 hown hK hP 0 rfl rfl 43 (by decide) k_3 (fun _ h9 => h9) rfl dX9_behind_1 ?_
  refine lv_iload_n hx hb dX9_behind_4 rfl (lv_at hl 1 rfl) ?_
  obtain ⟨g_11, hf⟩ := x_gu hf
  refine va_iald hx hb hK hP 4 0 rfl rfl (x_gdin g_11) dX9_behind_5 ?_
  refine lv_aload_n hx hb dX9_behind_6 rfl (lv_at hl 0 rfl) ?_
  refine va_get (D := (dC, dI)) (ci := 9) (v := .ref a9_43) (C := RX9) (T := TX9) (N := 62) hx hb hts i_X9_behind_X9 hown hK hP 0 rfl rfl 43 (by decide) k_3 (fun _ h9 => h9) rfl dX9_behind_7 ?_
  refine lv_iload_n hx hb dX9_behind_10 rfl (lv_at hl 2 rfl) ?_
  obtain ⟨g_12, hf⟩ := x_gu hf
  refine va_iald hx hb hK hP 4 0 rfl rfl (x_gdin g_12) dX9_behind_11 ?_
  refine lv_icmp_eq (tgt := 36) hx hb dX9_behind_12 (by decide) (fun c_13 => ?_) (fun c_13 => ?_)
  · replace hf := x_ip c_13 hf
    refine lv_aload_n hx hb dX9_behind_36 rfl (lv_at hl 0 rfl) ?_
    refine lv_aload_n hx hb dX9_behind_37 rfl (lv_at hl 0 rfl) ?_
    refine va_get (D := (dC, dI)) (ci := 9) (v := .ref a9_44) (C := RX9) (T := TX9) (N := 62) hx hb hts i_X9_behind_X9 hown hK hP 0 rfl rfl 44 (by decide) k_4 (fun _ h9 => h9) rfl dX9_behind_38 ?_
    refine lv_iload_n hx hb dX9_behind_41 rfl (lv_at hl 1 rfl) ?_
    obtain ⟨g_14, hf⟩ := x_gu hf
    refine va_iald hx hb hK hP 5 0 rfl rfl (x_gdin g_14) dX9_behind_42 ?_
    refine lv_aload_n hx hb dX9_behind_43 rfl (lv_at hl 0 rfl) ?_
    refine va_get (D := (dC, dI)) (ci := 9) (v := .ref a9_59) (C := RX9) (T := TX9) (N := 62) hx hb hts i_X9_behind_X9 hown hK hP 0 rfl rfl 59 (by decide) k_1 (fun _ h9 => h9) rfl dX9_behind_44 ?_
    obtain ⟨r_15, h_15, hf⟩ := x_bi hf
    have hPc := hP.sub (ws' := [(o9, .inr (9, x_O9 v9_0 v9_1 v9_2 v9_3 a9_4 a9_5 a9_6 a9_7 a9_8 a9_9 a9_10 a9_11 a9_12 v9_13 v9_14 v9_15 v9_16 v9_17 v9_18 a9_19 v9_20 v9_21 v9_22 a9_23 a9_24 a9_25 a9_26 a9_27 a9_28 a9_29 a9_30 a9_31 a9_32 a9_33 a9_34 v9_35 v9_36 a9_37 a9_38 a9_39 a9_40 a9_41 v9_42 a9_43 a9_44 a9_45 a9_46 a9_47 v9_48 v9_49 v9_50 v9_51 a9_52 a9_53 v9_54 v9_55 a9_56 a9_57 v9_58 a9_59 a9_60 a9_61)), (a9_37, .inl (cyI, 20010, .inl g9_37)), (a9_38, .inl (cyI, 20010, .inl g9_38)), (a9_39, .inl (cyI, 20010, .inl g9_39)), (a9_59, .inl (cyI, 17, .inl g9_59))]) [0, 1, 2, 3, 6] rfl
    have hDc := hD.sub (ws' := [(o9, .inr (9, x_O9 v9_0 v9_1 v9_2 v9_3 a9_4 a9_5 a9_6 a9_7 a9_8 a9_9 a9_10 a9_11 a9_12 v9_13 v9_14 v9_15 v9_16 v9_17 v9_18 a9_19 v9_20 v9_21 v9_22 a9_23 a9_24 a9_25 a9_26 a9_27 a9_28 a9_29 a9_30 a9_31 a9_32 a9_33 a9_34 v9_35 v9_36 a9_37 a9_38 a9_39 a9_40 a9_41 v9_42 a9_43 a9_44 a9_45 a9_46 a9_47 v9_48 v9_49 v9_50 v9_51 a9_52 a9_53 v9_54 v9_55 a9_56 a9_57 v9_58 a9_59 a9_60 a9_61)), (a9_37, .inl (cyI, 20010, .inl g9_37)), (a9_38, .inl (cyI, 20010, .inl g9_38)), (a9_39, .inl (cyI, 20010, .inl g9_39)), (a9_59, .inl (cyI, 17, .inl g9_59))]) [0, 1, 2, 3, 6] (by decide) rfl
    have hFc := va_free (wc := [(o9, .inr (9, x_O9 v9_0 v9_1 v9_2 v9_3 a9_4 a9_5 a9_6 a9_7 a9_8 a9_9 a9_10 a9_11 a9_12 v9_13 v9_14 v9_15 v9_16 v9_17 v9_18 a9_19 v9_20 v9_21 v9_22 a9_23 a9_24 a9_25 a9_26 a9_27 a9_28 a9_29 a9_30 a9_31 a9_32 a9_33 a9_34 v9_35 v9_36 a9_37 a9_38 a9_39 a9_40 a9_41 v9_42 a9_43 a9_44 a9_45 a9_46 a9_47 v9_48 v9_49 v9_50 v9_51 a9_52 a9_53 v9_54 v9_55 a9_56 a9_57 v9_58 a9_59 a9_60 a9_61)), (a9_37, .inl (cyI, 20010, .inl g9_37)), (a9_38, .inl (cyI, 20010, .inl g9_38)), (a9_39, .inl (cyI, 20010, .inl g9_39)), (a9_59, .inl (cyI, 17, .inl g9_59))]) hD hS hA [0, 1, 2, 3, 6] rfl
    refine va_callv (va_runV (As := [.int (g9_44 (Int32.toNatClampNeg p1)), .ref a9_59]) (rest := []) ⟨hx, hb, hml, hown, hts⟩ (c_X9_addresses_a9_59 l dC dI cyI cyZ cyJ H.size o9 v9_0 v9_1 v9_2 v9_3 a9_4 a9_5 a9_6 a9_7 a9_8 a9_9 a9_10 a9_11 a9_12 v9_13 v9_14 v9_15 v9_16 v9_17 v9_18 a9_19 v9_20 v9_21 v9_22 a9_23 a9_24 a9_25 a9_26 a9_27 a9_28 a9_29 a9_30 a9_31 a9_32 a9_33 a9_34 v9_35 v9_36 a9_37 a9_38 a9_39 a9_40 a9_41 v9_42 a9_43 a9_44 a9_45 a9_46 a9_47 v9_48 v9_49 v9_50 v9_51 a9_52 a9_53 v9_54 v9_55 a9_56 a9_57 v9_58 a9_59 a9_60 a9_61 g9_37 g9_38 g9_39 g9_59 (g9_44 (Int32.toNatClampNeg p1)) r_15 h_15) (cwV 2 hts gX9_behind_X9_addresses rfl rfl rfl (by decide +kernel) ⟨Nat.le_of_ble_eq_true rfl, Nat.le_of_ble_eq_true rfl⟩) (x_pVD hN hK hPc hDc (ci := 9) (q0 := 0) rfl rfl) rfl rfl hl.1 rfl (lv_room (Nat.le_of_ble_eq_true rfl)) dX9_behind_47 ⟨Nat.le_of_ble_eq_true rfl, Nat.le_of_ble_eq_true rfl⟩) hS (fun q _ h => hFc q h) hFc (fun u t H1 locs ht hvm hw hB hz1 hk1 hS => ?_)
    obtain ⟨hP1, hK1, hD1⟩ := hB
    rw [ht] at hP1
    obtain ⟨hP, hD⟩ := va_join (wr := [(a9_43, .inl (cyI, 20010, .inl g9_43)), (a9_44, .inl (cyI, 20010, .inl g9_44)), (a9_60, .inl (cyI, 17, .inl g9_60))]) (w1 := [(o9, .inr (9, x_O9 v9_0 v9_1 v9_2 v9_3 a9_4 a9_5 a9_6 a9_7 a9_8 a9_9 a9_10 a9_11 a9_12 v9_13 v9_14 v9_15 v9_16 v9_17 v9_18 a9_19 v9_20 v9_21 v9_22 a9_23 a9_24 a9_25 a9_26 a9_27 a9_28 a9_29 a9_30 a9_31 a9_32 a9_33 a9_34 v9_35 v9_36 a9_37 a9_38 a9_39 a9_40 a9_41 v9_42 a9_43 a9_44 a9_45 a9_46 a9_47 v9_48 v9_49 v9_50 v9_51 a9_52 a9_53 v9_54 v9_55 a9_56 a9_57 v9_58 a9_59 a9_60 a9_61)), (a9_37, .inl (cyI, 20010, .inl g9_37)), (a9_38, .inl (cyI, 20010, .inl g9_38)), (a9_39, .inl (cyI, 20010, .inl g9_39)), (a9_59, .inl (cyI, 17, .inl r_15))]) hP hD [0, 1, 2, 3, 6] [4, 5, 7] rfl rfl (by decide) (by decide) hk1 hFc hP1 hD1
    clear hz1 hk1 hPc hDc hFc hP1 hK1 hD1 ht hvm t u
    generalize H1 = H at hP hS ⊢
    have hP : va_P (dC, dI) vwCl [(a9_43, .inl (cyI, 20010, .inl g9_43)), (a9_44, .inl (cyI, 20010, .inl g9_44)), (a9_60, .inl (cyI, 17, .inl g9_60)), (o9, .inr (9, x_O9 v9_0 v9_1 v9_2 v9_3 a9_4 a9_5 a9_6 a9_7 a9_8 a9_9 a9_10 a9_11 a9_12 v9_13 v9_14 v9_15 v9_16 v9_17 v9_18 a9_19 v9_20 v9_21 v9_22 a9_23 a9_24 a9_25 a9_26 a9_27 a9_28 a9_29 a9_30 a9_31 a9_32 a9_33 a9_34 v9_35 v9_36 a9_37 a9_38 a9_39 a9_40 a9_41 v9_42 a9_43 a9_44 a9_45 a9_46 a9_47 v9_48 v9_49 v9_50 v9_51 a9_52 a9_53 v9_54 v9_55 a9_56 a9_57 v9_58 a9_59 a9_60 a9_61)), (a9_37, .inl (cyI, 20010, .inl g9_37)), (a9_38, .inl (cyI, 20010, .inl g9_38)), (a9_39, .inl (cyI, 20010, .inl g9_39)), (a9_59, .inl (cyI, 17, .inl r_15))] H := hP
    have hD : va_D A [(a9_43, .inl (cyI, 20010, .inl g9_43)), (a9_44, .inl (cyI, 20010, .inl g9_44)), (a9_60, .inl (cyI, 17, .inl g9_60)), (o9, .inr (9, x_O9 v9_0 v9_1 v9_2 v9_3 a9_4 a9_5 a9_6 a9_7 a9_8 a9_9 a9_10 a9_11 a9_12 v9_13 v9_14 v9_15 v9_16 v9_17 v9_18 a9_19 v9_20 v9_21 v9_22 a9_23 a9_24 a9_25 a9_26 a9_27 a9_28 a9_29 a9_30 a9_31 a9_32 a9_33 a9_34 v9_35 v9_36 a9_37 a9_38 a9_39 a9_40 a9_41 v9_42 a9_43 a9_44 a9_45 a9_46 a9_47 v9_48 v9_49 v9_50 v9_51 a9_52 a9_53 v9_54 v9_55 a9_56 a9_57 v9_58 a9_59 a9_60 a9_61)), (a9_37, .inl (cyI, 20010, .inl g9_37)), (a9_38, .inl (cyI, 20010, .inl g9_38)), (a9_39, .inl (cyI, 20010, .inl g9_39)), (a9_59, .inl (cyI, 17, .inl r_15))] := hD
    refine lv_aload_n hx hb dX9_behind_50 rfl (lv_at hl 0 rfl) ?_
    refine lv_aload_n hx hb dX9_behind_51 rfl (lv_at hl 0 rfl) ?_
    refine va_get (D := (dC, dI)) (ci := 9) (v := .ref a9_44) (C := RX9) (T := TX9) (N := 62) hx hb hts i_X9_behind_X9 hown hK hP 3 rfl rfl 44 (by decide) k_4 (fun _ h9 => h9) rfl dX9_behind_52 ?_
    refine lv_iload_n hx hb dX9_behind_55 rfl (lv_at hl 2 rfl) ?_
    obtain ⟨g_16, hf⟩ := x_gu hf
    refine va_iald hx hb hK hP 1 0 rfl rfl (x_gdin g_16) dX9_behind_56 ?_
    refine lv_aload_n hx hb dX9_behind_57 rfl (lv_at hl 0 rfl) ?_
    refine va_get (D := (dC, dI)) (ci := 9) (v := .ref a9_60) (C := RX9) (T := TX9) (N := 62) hx hb hts i_X9_behind_X9 hown hK hP 3 rfl rfl 60 (by decide) k_2 (fun _ h9 => h9) rfl dX9_behind_58 ?_
    obtain ⟨r_17, h_17, hf⟩ := x_bi hf
    have hPc := hP.sub (ws' := [(o9, .inr (9, x_O9 v9_0 v9_1 v9_2 v9_3 a9_4 a9_5 a9_6 a9_7 a9_8 a9_9 a9_10 a9_11 a9_12 v9_13 v9_14 v9_15 v9_16 v9_17 v9_18 a9_19 v9_20 v9_21 v9_22 a9_23 a9_24 a9_25 a9_26 a9_27 a9_28 a9_29 a9_30 a9_31 a9_32 a9_33 a9_34 v9_35 v9_36 a9_37 a9_38 a9_39 a9_40 a9_41 v9_42 a9_43 a9_44 a9_45 a9_46 a9_47 v9_48 v9_49 v9_50 v9_51 a9_52 a9_53 v9_54 v9_55 a9_56 a9_57 v9_58 a9_59 a9_60 a9_61)), (a9_37, .inl (cyI, 20010, .inl g9_37)), (a9_38, .inl (cyI, 20010, .inl g9_38)), (a9_39, .inl (cyI, 20010, .inl g9_39)), (a9_60, .inl (cyI, 17, .inl g9_60))]) [3, 4, 5, 6, 2] rfl
    have hDc := hD.sub (ws' := [(o9, .inr (9, x_O9 v9_0 v9_1 v9_2 v9_3 a9_4 a9_5 a9_6 a9_7 a9_8 a9_9 a9_10 a9_11 a9_12 v9_13 v9_14 v9_15 v9_16 v9_17 v9_18 a9_19 v9_20 v9_21 v9_22 a9_23 a9_24 a9_25 a9_26 a9_27 a9_28 a9_29 a9_30 a9_31 a9_32 a9_33 a9_34 v9_35 v9_36 a9_37 a9_38 a9_39 a9_40 a9_41 v9_42 a9_43 a9_44 a9_45 a9_46 a9_47 v9_48 v9_49 v9_50 v9_51 a9_52 a9_53 v9_54 v9_55 a9_56 a9_57 v9_58 a9_59 a9_60 a9_61)), (a9_37, .inl (cyI, 20010, .inl g9_37)), (a9_38, .inl (cyI, 20010, .inl g9_38)), (a9_39, .inl (cyI, 20010, .inl g9_39)), (a9_60, .inl (cyI, 17, .inl g9_60))]) [3, 4, 5, 6, 2] (by decide) rfl
    have hFc := va_free (wc := [(o9, .inr (9, x_O9 v9_0 v9_1 v9_2 v9_3 a9_4 a9_5 a9_6 a9_7 a9_8 a9_9 a9_10 a9_11 a9_12 v9_13 v9_14 v9_15 v9_16 v9_17 v9_18 a9_19 v9_20 v9_21 v9_22 a9_23 a9_24 a9_25 a9_26 a9_27 a9_28 a9_29 a9_30 a9_31 a9_32 a9_33 a9_34 v9_35 v9_36 a9_37 a9_38 a9_39 a9_40 a9_41 v9_42 a9_43 a9_44 a9_45 a9_46 a9_47 v9_48 v9_49 v9_50 v9_51 a9_52 a9_53 v9_54 v9_55 a9_56 a9_57 v9_58 a9_59 a9_60 a9_61)), (a9_37, .inl (cyI, 20010, .inl g9_37)), (a9_38, .inl (cyI, 20010, .inl g9_38)), (a9_39, .inl (cyI, 20010, .inl g9_39)), (a9_60, .inl (cyI, 17, .inl g9_60))]) hD hS hA [3, 4, 5, 6, 2] rfl
    refine va_callv (va_runV (As := [.int (g9_44 (Int32.toNatClampNeg p2)), .ref a9_60]) (rest := []) ⟨hx, hb, hml, hown, hts⟩ (c_X9_addresses_a9_60 l dC dI cyI cyZ cyJ H.size o9 v9_0 v9_1 v9_2 v9_3 a9_4 a9_5 a9_6 a9_7 a9_8 a9_9 a9_10 a9_11 a9_12 v9_13 v9_14 v9_15 v9_16 v9_17 v9_18 a9_19 v9_20 v9_21 v9_22 a9_23 a9_24 a9_25 a9_26 a9_27 a9_28 a9_29 a9_30 a9_31 a9_32 a9_33 a9_34 v9_35 v9_36 a9_37 a9_38 a9_39 a9_40 a9_41 v9_42 a9_43 a9_44 a9_45 a9_46 a9_47 v9_48 v9_49 v9_50 v9_51 a9_52 a9_53 v9_54 v9_55 a9_56 a9_57 v9_58 a9_59 a9_60 a9_61 g9_37 g9_38 g9_39 g9_60 (g9_44 (Int32.toNatClampNeg p2)) r_17 h_17) (cwV 2 hts gX9_behind_X9_addresses rfl rfl rfl (by decide +kernel) ⟨Nat.le_of_ble_eq_true rfl, Nat.le_of_ble_eq_true rfl⟩) (x_pVD hN hK hPc hDc (ci := 9) (q0 := 0) rfl rfl) rfl rfl hl.1 rfl (lv_room (Nat.le_of_ble_eq_true rfl)) dX9_behind_61 ⟨Nat.le_of_ble_eq_true rfl, Nat.le_of_ble_eq_true rfl⟩) hS (fun q _ h => hFc q h) hFc (fun u t H1 locs ht hvm hw hB hz1 hk1 hS => ?_)
    obtain ⟨hP1, hK1, hD1⟩ := hB
    rw [ht] at hP1
    obtain ⟨hP, hD⟩ := va_join (wr := [(a9_43, .inl (cyI, 20010, .inl g9_43)), (a9_44, .inl (cyI, 20010, .inl g9_44)), (a9_59, .inl (cyI, 17, .inl r_15))]) (w1 := [(o9, .inr (9, x_O9 v9_0 v9_1 v9_2 v9_3 a9_4 a9_5 a9_6 a9_7 a9_8 a9_9 a9_10 a9_11 a9_12 v9_13 v9_14 v9_15 v9_16 v9_17 v9_18 a9_19 v9_20 v9_21 v9_22 a9_23 a9_24 a9_25 a9_26 a9_27 a9_28 a9_29 a9_30 a9_31 a9_32 a9_33 a9_34 v9_35 v9_36 a9_37 a9_38 a9_39 a9_40 a9_41 v9_42 a9_43 a9_44 a9_45 a9_46 a9_47 v9_48 v9_49 v9_50 v9_51 a9_52 a9_53 v9_54 v9_55 a9_56 a9_57 v9_58 a9_59 a9_60 a9_61)), (a9_37, .inl (cyI, 20010, .inl g9_37)), (a9_38, .inl (cyI, 20010, .inl g9_38)), (a9_39, .inl (cyI, 20010, .inl g9_39)), (a9_60, .inl (cyI, 17, .inl r_17))]) hP hD [3, 4, 5, 6, 2] [0, 1, 7] rfl rfl (by decide) (by decide) hk1 hFc hP1 hD1
    clear hz1 hk1 hPc hDc hFc hP1 hK1 hD1 ht hvm t u
    generalize H1 = H at hP hS ⊢
    have hP : va_P (dC, dI) vwCl [(a9_43, .inl (cyI, 20010, .inl g9_43)), (a9_44, .inl (cyI, 20010, .inl g9_44)), (a9_59, .inl (cyI, 17, .inl r_15)), (o9, .inr (9, x_O9 v9_0 v9_1 v9_2 v9_3 a9_4 a9_5 a9_6 a9_7 a9_8 a9_9 a9_10 a9_11 a9_12 v9_13 v9_14 v9_15 v9_16 v9_17 v9_18 a9_19 v9_20 v9_21 v9_22 a9_23 a9_24 a9_25 a9_26 a9_27 a9_28 a9_29 a9_30 a9_31 a9_32 a9_33 a9_34 v9_35 v9_36 a9_37 a9_38 a9_39 a9_40 a9_41 v9_42 a9_43 a9_44 a9_45 a9_46 a9_47 v9_48 v9_49 v9_50 v9_51 a9_52 a9_53 v9_54 v9_55 a9_56 a9_57 v9_58 a9_59 a9_60 a9_61)), (a9_37, .inl (cyI, 20010, .inl g9_37)), (a9_38, .inl (cyI, 20010, .inl g9_38)), (a9_39, .inl (cyI, 20010, .inl g9_39)), (a9_60, .inl (cyI, 17, .inl r_17))] H := hP
    have hD : va_D A [(a9_43, .inl (cyI, 20010, .inl g9_43)), (a9_44, .inl (cyI, 20010, .inl g9_44)), (a9_59, .inl (cyI, 17, .inl r_15)), (o9, .inr (9, x_O9 v9_0 v9_1 v9_2 v9_3 a9_4 a9_5 a9_6 a9_7 a9_8 a9_9 a9_10 a9_11 a9_12 v9_13 v9_14 v9_15 v9_16 v9_17 v9_18 a9_19 v9_20 v9_21 v9_22 a9_23 a9_24 a9_25 a9_26 a9_27 a9_28 a9_29 a9_30 a9_31 a9_32 a9_33 a9_34 v9_35 v9_36 a9_37 a9_38 a9_39 a9_40 a9_41 v9_42 a9_43 a9_44 a9_45 a9_46 a9_47 v9_48 v9_49 v9_50 v9_51 a9_52 a9_53 v9_54 v9_55 a9_56 a9_57 v9_58 a9_59 a9_60 a9_61)), (a9_37, .inl (cyI, 20010, .inl g9_37)), (a9_38, .inl (cyI, 20010, .inl g9_38)), (a9_39, .inl (cyI, 20010, .inl g9_39)), (a9_60, .inl (cyI, 17, .inl r_17))] := hD
    refine lv_aload_n hx hb dX9_behind_64 rfl (lv_at hl 0 rfl) ?_
    refine va_get (D := (dC, dI)) (ci := 9) (v := .ref a9_39) (C := RX9) (T := TX9) (N := 62) hx hb hts i_X9_behind_X9 hown hK hP 3 rfl rfl 39 (by decide) k_5 (fun _ h9 => h9) rfl dX9_behind_65 ?_
    refine lv_aload_n hx hb dX9_behind_68 rfl (lv_at hl 0 rfl) ?_
    refine va_get (D := (dC, dI)) (ci := 9) (v := .ref a9_44) (C := RX9) (T := TX9) (N := 62) hx hb hts i_X9_behind_X9 hown hK hP 3 rfl rfl 44 (by decide) k_4 (fun _ h9 => h9) rfl dX9_behind_69 ?_
    refine lv_iload_n hx hb dX9_behind_72 rfl (lv_at hl 1 rfl) ?_
    obtain ⟨g_18, hf⟩ := x_gu hf
    refine va_iald hx hb hK hP 1 0 rfl rfl (x_gdin g_18) dX9_behind_73 ?_
    obtain ⟨g_19, hf⟩ := x_gu hf
    refine va_iald hx hb hK hP 6 0 rfl rfl (x_gdin g_19) dX9_behind_74 ?_
    refine lv_istore_n (lv' := [(3, .int (g9_39 (Int32.toNatClampNeg (g9_44 (Int32.toNatClampNeg p1))))), (0, .ref o9), (1, .int p1), (2, .int p2)]) hx hb dX9_behind_75 rfl hl (by decide) rfl (fun ls hl => ?_)
    refine lv_aload_n hx hb dX9_behind_76 rfl (lv_at hl 1 rfl) ?_
    refine va_get (D := (dC, dI)) (ci := 9) (v := .ref a9_39) (C := RX9) (T := TX9) (N := 62) hx hb hts i_X9_behind_X9 hown hK hP 3 rfl rfl 39 (by decide) k_5 (fun _ h9 => h9) rfl dX9_behind_77 ?_
    refine lv_aload_n hx hb dX9_behind_80 rfl (lv_at hl 1 rfl) ?_
    refine va_get (D := (dC, dI)) (ci := 9) (v := .ref a9_44) (C := RX9) (T := TX9) (N := 62) hx hb hts i_X9_behind_X9 hown hK hP 3 rfl rfl 44 (by decide) k_4 (fun _ h9 => h9) rfl dX9_behind_81 ?_
    refine lv_iload_n hx hb dX9_behind_84 rfl (lv_at hl 3 rfl) ?_
    obtain ⟨g_20, hf⟩ := x_gu hf
    refine va_iald hx hb hK hP 1 0 rfl rfl (x_gdin g_20) dX9_behind_85 ?_
    obtain ⟨g_21, hf⟩ := x_gu hf
    refine va_iald hx hb hK hP 6 0 rfl rfl (x_gdin g_21) dX9_behind_86 ?_
    refine lv_istore (lv' := [(4, .int (g9_39 (Int32.toNatClampNeg (g9_44 (Int32.toNatClampNeg p2))))), (3, .int (g9_39 (Int32.toNatClampNeg (g9_44 (Int32.toNatClampNeg p1))))), (0, .ref o9), (1, .int p1), (2, .int p2)]) hx hb dX9_behind_87 hl (by decide) rfl (fun ls hl => ?_)
    refine lv_iconst (v := 0) hx hb dX9_behind_89 (by decide) ?_
    refine lv_istore (lv' := [(5, .int 0), (4, .int (g9_39 (Int32.toNatClampNeg (g9_44 (Int32.toNatClampNeg p2))))), (3, .int (g9_39 (Int32.toNatClampNeg (g9_44 (Int32.toNatClampNeg p1))))), (0, .ref o9), (1, .int p1), (2, .int p2)]) hx hb dX9_behind_90 hl (by decide) rfl (fun ls hl => ?_)
    exact (hWW _ _ _ _ _).mpr ((J (g9_39 (Int32.toNatClampNeg (g9_44 (Int32.toNatClampNeg p1)))) (g9_39 (Int32.toNatClampNeg (g9_44 (Int32.toNatClampNeg p2)))) r_15 r_17 (0, 0) _ hf rfl _ _ rfl) rfl H locs ls (hP.sub (ws' := [(o9, .inr (9, x_O9 v9_0 v9_1 v9_2 v9_3 a9_4 a9_5 a9_6 a9_7 a9_8 a9_9 a9_10 a9_11 a9_12 v9_13 v9_14 v9_15 v9_16 v9_17 v9_18 a9_19 v9_20 v9_21 v9_22 a9_23 a9_24 a9_25 a9_26 a9_27 a9_28 a9_29 a9_30 a9_31 a9_32 a9_33 a9_34 v9_35 v9_36 a9_37 a9_38 a9_39 a9_40 a9_41 v9_42 a9_43 a9_44 a9_45 a9_46 a9_47 v9_48 v9_49 v9_50 v9_51 a9_52 a9_53 v9_54 v9_55 a9_56 a9_57 v9_58 a9_59 a9_60 a9_61)), (a9_37, .inl (cyI, 20010, .inl g9_37)), (a9_38, .inl (cyI, 20010, .inl g9_38)), (a9_39, .inl (cyI, 20010, .inl g9_39)), (a9_43, .inl (cyI, 20010, .inl g9_43)), (a9_44, .inl (cyI, 20010, .inl g9_44)), (a9_59, .inl (cyI, 17, .inl r_15)), (a9_60, .inl (cyI, 17, .inl r_17))]) [3, 4, 5, 6, 0, 1, 2, 7] rfl) (hD.sub (ws' := [(o9, .inr (9, x_O9 v9_0 v9_1 v9_2 v9_3 a9_4 a9_5 a9_6 a9_7 a9_8 a9_9 a9_10 a9_11 a9_12 v9_13 v9_14 v9_15 v9_16 v9_17 v9_18 a9_19 v9_20 v9_21 v9_22 a9_23 a9_24 a9_25 a9_26 a9_27 a9_28 a9_29 a9_30 a9_31 a9_32 a9_33 a9_34 v9_35 v9_36 a9_37 a9_38 a9_39 a9_40 a9_41 v9_42 a9_43 a9_44 a9_45 a9_46 a9_47 v9_48 v9_49 v9_50 v9_51 a9_52 a9_53 v9_54 v9_55 a9_56 a9_57 v9_58 a9_59 a9_60 a9_61)), (a9_37, .inl (cyI, 20010, .inl g9_37)), (a9_38, .inl (cyI, 20010, .inl g9_38)), (a9_39, .inl (cyI, 20010, .inl g9_39)), (a9_43, .inl (cyI, 20010, .inl g9_43)), (a9_44, .inl (cyI, 20010, .inl g9_44)), (a9_59, .inl (cyI, 17, .inl r_15)), (a9_60, .inl (cyI, 17, .inl r_17))]) [3, 4, 5, 6, 0, 1, 2, 7] (by decide) rfl) hS (lv_sub hl [3, 2, 1, 0] rfl))
  · replace hf := x_in c_13 hf
    refine lv_aload_n hx hb dX9_behind_15 rfl (lv_at hl 0 rfl) ?_
    refine va_get (D := (dC, dI)) (ci := 9) (v := .ref a9_43) (C := RX9) (T := TX9) (N := 62) hx hb hts i_X9_behind_X9 hown hK hP 0 rfl rfl 43 (by decide) k_3 (fun _ h9 => h9) rfl dX9_behind_16 ?_
    refine lv_iload_n hx hb dX9_behind_19 rfl (lv_at hl 1 rfl) ?_
    obtain ⟨g_22, hf⟩ := x_gu hf
    refine va_iald hx hb hK hP 4 0 rfl rfl (x_gdin g_22) dX9_behind_20 ?_
    refine lv_aload_n hx hb dX9_behind_21 rfl (lv_at hl 0 rfl) ?_
    refine va_get (D := (dC, dI)) (ci := 9) (v := .ref a9_43) (C := RX9) (T := TX9) (N := 62) hx hb hts i_X9_behind_X9 hown hK hP 0 rfl rfl 43 (by decide) k_3 (fun _ h9 => h9) rfl dX9_behind_22 ?_
    refine lv_iload_n hx hb dX9_behind_25 rfl (lv_at hl 2 rfl) ?_
    obtain ⟨g_23, hf⟩ := x_gu hf
    refine va_iald hx hb hK hP 4 0 rfl rfl (x_gdin g_23) dX9_behind_26 ?_
    refine lv_icmp_le (tgt := 34) hx hb dX9_behind_27 (by decide) (fun c_24 => ?_) (fun c_24 => ?_)
    · replace hf := x_ip c_24 hf
      refine lv_iconst (v := 0) hx hb dX9_behind_34 (by decide) ?_
      obtain rfl := Option.some.inj hf
      have hP9 := hP.sub (ws' := [(o9, .inr (9, x_O9 v9_0 v9_1 v9_2 v9_3 a9_4 a9_5 a9_6 a9_7 a9_8 a9_9 a9_10 a9_11 a9_12 v9_13 v9_14 v9_15 v9_16 v9_17 v9_18 a9_19 v9_20 v9_21 v9_22 a9_23 a9_24 a9_25 a9_26 a9_27 a9_28 a9_29 a9_30 a9_31 a9_32 a9_33 a9_34 v9_35 v9_36 a9_37 a9_38 a9_39 a9_40 a9_41 v9_42 a9_43 a9_44 a9_45 a9_46 a9_47 v9_48 v9_49 v9_50 v9_51 a9_52 a9_53 v9_54 v9_55 a9_56 a9_57 v9_58 a9_59 a9_60 a9_61)), (a9_37, .inl (cyI, 20010, .inl g9_37)), (a9_38, .inl (cyI, 20010, .inl g9_38)), (a9_39, .inl (cyI, 20010, .inl g9_39)), (a9_43, .inl (cyI, 20010, .inl g9_43)), (a9_44, .inl (cyI, 20010, .inl g9_44)), (a9_59, .inl (cyI, 17, .inl g9_59)), (a9_60, .inl (cyI, 17, .inl g9_60))]) [0, 1, 2, 3, 4, 5, 6, 7] rfl
      have hD9 := hD.sub (ws' := [(o9, .inr (9, x_O9 v9_0 v9_1 v9_2 v9_3 a9_4 a9_5 a9_6 a9_7 a9_8 a9_9 a9_10 a9_11 a9_12 v9_13 v9_14 v9_15 v9_16 v9_17 v9_18 a9_19 v9_20 v9_21 v9_22 a9_23 a9_24 a9_25 a9_26 a9_27 a9_28 a9_29 a9_30 a9_31 a9_32 a9_33 a9_34 v9_35 v9_36 a9_37 a9_38 a9_39 a9_40 a9_41 v9_42 a9_43 a9_44 a9_45 a9_46 a9_47 v9_48 v9_49 v9_50 v9_51 a9_52 a9_53 v9_54 v9_55 a9_56 a9_57 v9_58 a9_59 a9_60 a9_61)), (a9_37, .inl (cyI, 20010, .inl g9_37)), (a9_38, .inl (cyI, 20010, .inl g9_38)), (a9_39, .inl (cyI, 20010, .inl g9_39)), (a9_43, .inl (cyI, 20010, .inl g9_43)), (a9_44, .inl (cyI, 20010, .inl g9_44)), (a9_59, .inl (cyI, 17, .inl g9_59)), (a9_60, .inl (cyI, 17, .inl g9_60))]) [0, 1, 2, 3, 4, 5, 6, 7] (by decide) rfl
      exact W.zret (ty := .boolean) hx hb hr rfl (fun t ht hW => ⟨⟨_, (), rfl, ⟨rfl, rfl⟩, by rw [ht]; exact hP9, va_K.moved hW.alike hK, hD9⟩, hS.F ht⟩) hS.2.2 dX9_behind_35
    · replace hf := x_in c_24 hf
      refine lv_iconst (v := 1) hx hb dX9_behind_30 (by decide) ?_
      refine lv_goto (tgt := 35) hx hb dX9_behind_31 (by decide) ?_
      obtain rfl := Option.some.inj hf
      have hP9 := hP.sub (ws' := [(o9, .inr (9, x_O9 v9_0 v9_1 v9_2 v9_3 a9_4 a9_5 a9_6 a9_7 a9_8 a9_9 a9_10 a9_11 a9_12 v9_13 v9_14 v9_15 v9_16 v9_17 v9_18 a9_19 v9_20 v9_21 v9_22 a9_23 a9_24 a9_25 a9_26 a9_27 a9_28 a9_29 a9_30 a9_31 a9_32 a9_33 a9_34 v9_35 v9_36 a9_37 a9_38 a9_39 a9_40 a9_41 v9_42 a9_43 a9_44 a9_45 a9_46 a9_47 v9_48 v9_49 v9_50 v9_51 a9_52 a9_53 v9_54 v9_55 a9_56 a9_57 v9_58 a9_59 a9_60 a9_61)), (a9_37, .inl (cyI, 20010, .inl g9_37)), (a9_38, .inl (cyI, 20010, .inl g9_38)), (a9_39, .inl (cyI, 20010, .inl g9_39)), (a9_43, .inl (cyI, 20010, .inl g9_43)), (a9_44, .inl (cyI, 20010, .inl g9_44)), (a9_59, .inl (cyI, 17, .inl g9_59)), (a9_60, .inl (cyI, 17, .inl g9_60))]) [0, 1, 2, 3, 4, 5, 6, 7] rfl
      have hD9 := hD.sub (ws' := [(o9, .inr (9, x_O9 v9_0 v9_1 v9_2 v9_3 a9_4 a9_5 a9_6 a9_7 a9_8 a9_9 a9_10 a9_11 a9_12 v9_13 v9_14 v9_15 v9_16 v9_17 v9_18 a9_19 v9_20 v9_21 v9_22 a9_23 a9_24 a9_25 a9_26 a9_27 a9_28 a9_29 a9_30 a9_31 a9_32 a9_33 a9_34 v9_35 v9_36 a9_37 a9_38 a9_39 a9_40 a9_41 v9_42 a9_43 a9_44 a9_45 a9_46 a9_47 v9_48 v9_49 v9_50 v9_51 a9_52 a9_53 v9_54 v9_55 a9_56 a9_57 v9_58 a9_59 a9_60 a9_61)), (a9_37, .inl (cyI, 20010, .inl g9_37)), (a9_38, .inl (cyI, 20010, .inl g9_38)), (a9_39, .inl (cyI, 20010, .inl g9_39)), (a9_43, .inl (cyI, 20010, .inl g9_43)), (a9_44, .inl (cyI, 20010, .inl g9_44)), (a9_59, .inl (cyI, 17, .inl g9_59)), (a9_60, .inl (cyI, 17, .inl g9_60))]) [0, 1, 2, 3, 4, 5, 6, 7] (by decide) rfl
      exact W.zret (ty := .boolean) hx hb hr rfl (fun t ht hW => ⟨⟨_, (), rfl, ⟨rfl, rfl⟩, by rw [ht]; exact hP9, va_K.moved hW.alike hK, hD9⟩, hS.F ht⟩) hS.2.2 dX9_behind_35

