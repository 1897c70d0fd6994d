def f_X6_step (v7_2 : Int32) (g7_0 : Nat → Int32) (g7_1 : Nat → Int32) (g4_0 : Nat → Int32) (g4_1 : Nat → Int32) (g4_3 : Nat → Int32) (g4_4 : Nat → Int32) (g4_5 : Nat → Int32) (g4_6 : Nat → Int32) (g4_7 : Nat → Int32) (v0_0 : Int32) (v0_1 : Int32) (v0_2 : Int32) (v0_10 : Int32) (g0_7 : Nat → Int32) (g0_8 : Nat → Int32) (g0_9 : Nat → Int32) (v5_2 : Int32) (v5_3 : Int32) (v5_4 : Int32) (v5_5 : Int32) (v5_6 : Int32) (v5_7 : Int32) (v5_8 : Int32) (v5_9 : Int32) (g5_1 : Nat → Int32) (p1 : Int32) : Option (Int32 × Int32 × Int32 × Int32 × Int32 × (Nat → Int32)) := if x_gd p1 1000 = true then if x_gd p1 1000 = true then if (20 : Int32) < (g0_7 (Int32.toNatClampNeg p1)) then if (25 : Int32) < (g0_7 (Int32.toNatClampNeg p1)) then if (53 : Int32) < (g0_7 (Int32.toNatClampNeg p1)) then if (58 : Int32) < (g0_7 (Int32.toNatClampNeg p1)) then if (86 : Int32) < (g0_7 (Int32.toNatClampNeg p1)) then if (95 : Int32) < (g0_7 (Int32.toNatClampNeg p1)) then if (g0_7 (Int32.toNatClampNeg p1)) = (132 : Int32) then (f_X6_increase v5_2 v5_6 g5_1 (g0_8 (Int32.toNatClampNeg p1))) >>= (fun r_27 => some (v5_3, v5_5, r_27, v5_7, v5_8, g5_1)) else if (152 : Int32) < (g0_7 (Int32.toNatClampNeg p1)) then if (171 : Int32) < (g0_7 (Int32.toNatClampNeg p1)) then if (177 : Int32) < (g0_7 (Int32.toNatClampNeg p1)) then if (181 : Int32) < (g0_7 (Int32.toNatClampNeg p1)) then if (186 : Int32) < (g0_7 (Int32.toNatClampNeg p1)) then if (g0_7 (Int32.toNatClampNeg p1)) ≤ (189 : Int32) then (f_X6_make g0_7 g0_8 g0_9 v5_2 v5_3 v5_4 v5_6 v5_7 g5_1 p1) >>= (fun r_16 => some (r_16.1, v5_5, r_16.2.1, r_16.2.2.1, v5_8, r_16.2.2.2)) else if (g0_7 (Int32.toNatClampNeg p1)) = (197 : Int32) then (f_X6_make g0_7 g0_8 g0_9 v5_2 v5_3 v5_4 v5_6 v5_7 g5_1 p1) >>= (fun r_19 => some (r_19.1, v5_5, r_19.2.1, r_19.2.2.1, v5_8, r_19.2.2.2)) else (f_X6_useReference v7_2 g7_0 g7_1 v5_2 v5_3 v5_4 v5_6 v5_8 v5_9 g5_1 (g0_7 (Int32.toNatClampNeg p1)) (g0_8 (Int32.toNatClampNeg p1))) >>= (fun r_18 => some (r_18.1, v5_5, r_18.2.1, v5_7, r_18.2.2.1, r_18.2.2.2)) else (f_X6_invoke v7_2 g7_0 g7_1 g4_3 g4_4 g4_5 g4_6 g4_7 v0_0 v0_10 g0_8 v5_2 v5_3 v5_4 v5_5 v5_6 v5_7 v5_8 v5_9 g5_1 (g0_7 (Int32.toNatClampNeg p1)) (g0_8 (Int32.toNatClampNeg p1))) >>= (fun r_20 => some (r_20.1, r_20.2.1, r_20.2.2.1, r_20.2.2.2.1, r_20.2.2.2.2.1, r_20.2.2.2.2.2)) else (f_X6_useField v7_2 g7_0 g7_1 g4_0 g4_1 v0_0 v5_2 v5_3 v5_4 v5_6 v5_8 v5_9 g5_1 (g0_7 (Int32.toNatClampNeg p1)) (g0_8 (Int32.toNatClampNeg p1))) >>= (fun r_21 => some (r_21.1, v5_5, r_21.2.1, v5_7, r_21.2.2.1, r_21.2.2.2)) else (f_X6_leave v7_2 g7_0 g7_1 v0_1 v0_2 v5_2 v5_3 v5_5 v5_6 v5_8 v5_9 g5_1 ((g0_7 (Int32.toNatClampNeg p1)) - (172 : Int32))) >>= (fun r_22 => some (r_22.1, v5_5, r_22.2.1, v5_7, r_22.2.2, g5_1)) else (f_X6_branch g0_7 v5_2 v5_3 v5_4 v5_6 g5_1 p1) >>= (fun r_23 => some (r_23.1, v5_5, r_23.2.1, v5_7, v5_8, r_23.2.2)) else if x_gd ((g0_7 (Int32.toNatClampNeg p1)) - (96 : Int32)) 57 = true then (f_X6_reckon v5_2 v5_3 v5_4 v5_6 g5_1 (x_st2 (Int32.toNatClampNeg ((g0_7 (Int32.toNatClampNeg p1)) - (96 : Int32))))) >>= (fun r_26 => some (r_26.1, v5_5, r_26.2.1, v5_7, v5_8, r_26.2.2)) else none else (f_X6_shuffle v5_2 v5_3 v5_4 v5_6 g5_1 (g0_7 (Int32.toNatClampNeg p1))) >>= (fun r_28 => some (r_28.1, v5_5, r_28.2.1, v5_7, v5_8, r_28.2.2)) else (f_X6_storeElement v7_2 g7_0 g7_1 v5_2 v5_3 v5_6 v5_8 v5_9 g5_1 ((g0_7 (Int32.toNatClampNeg p1)) - (79 : Int32))) >>= (fun r_29 => some (r_29.1, v5_5, r_29.2.1, v5_7, r_29.2.2, g5_1)) else (f_X6_store v5_2 v5_3 v5_6 v5_7 g5_1 ((g0_7 (Int32.toNatClampNeg p1)) - (54 : Int32)) (g0_8 (Int32.toNatClampNeg p1))) >>= (fun r_30 => some (r_30.1, v5_5, r_30.2.1, r_30.2.2.1, v5_8, r_30.2.2.2)) else (f_X6_loadElement v5_2 v5_3 v5_4 v5_6 g5_1 ((g0_7 (Int32.toNatClampNeg p1)) - (46 : Int32))) >>= (fun r_31 => some (r_31.1, v5_5, r_31.2.1, v5_7, v5_8, r_31.2.2)) else (f_X6_load v5_2 v5_3 v5_4 v5_6 g5_1 ((g0_7 (Int32.toNatClampNeg p1)) - (21 : Int32)) (g0_8 (Int32.toNatClampNeg p1))) >>= (fun r_32 => some (r_32.1, v5_5, r_32.2.1, v5_7, v5_8, r_32.2.2)) else (f_X6_pushConstant v5_3 v5_4 v5_6 g5_1 (g0_7 (Int32.toNatClampNeg p1)) (g0_8 (Int32.toNatClampNeg p1))) >>= (fun r_33 => some (r_33.1, v5_5, r_33.2.1, v5_7, v5_8, r_33.2.2)) else none else none
theorem i_X6_step_X0 : ∀ w ∈ wsX00, w ∈ wsX6_step := by decide +kernel
theorem i_X6_step_X6 : ∀ w ∈ wsX60, w ∈ wsX6_step := by decide +kernel
set_option maxHeartbeats 4000000 in
set_option maxRecDepth 100000 in
theorem c_X6_step (l : Launch) (dC : Nat → ClassId) (dI : Nat → Nat → Nat) (cyI cyZ cyJ : ClassId) (sz : Nat) (base : Nat) (o7 : Nat) (a7_0 : Nat) (a7_1 : Nat) (v7_2 : Int32) (g7_0 : Nat → Int32) (g7_1 : Nat → Int32) (o4 : Nat) (a4_0 : Nat) (a4_1 : Nat) (v4_2 : Int32) (a4_3 : Nat) (a4_4 : Nat) (a4_5 : Nat) (a4_6 : Nat) (a4_7 : Nat) (v4_8 : Int32) (g4_0 : Nat → Int32) (g4_1 : Nat → Int32) (g4_3 : Nat → Int32) (g4_4 : Nat → Int32) (g4_5 : Nat → Int32) (g4_6 : Nat → Int32) (g4_7 : Nat → Int32) (o0 : Nat) (v0_0 : Int32) (v0_1 : Int32) (v0_2 : Int32) (v0_3 : Int32) (v0_4 : Int32) (a0_5 : Nat) (v0_6 : Int32) (a0_7 : Nat) (a0_8 : Nat) (a0_9 : Nat) (v0_10 : Int32) (a0_11 : Nat) (a0_12 : Nat) (a0_13 : Nat) (a0_14 : Nat) (v0_15 : Int32) (a0_16 : Nat) (g0_7 : Nat → Int32) (g0_8 : Nat → Int32) (g0_9 : Nat → Int32) (o5 : Nat) (a5_1 : Nat) (v5_2 : Int32) (v5_3 : Int32) (v5_4 : Int32) (v5_5 : Int32) (v5_6 : Int32) (v5_7 : Int32) (v5_8 : Int32) (v5_9 : Int32) (g5_1 : Nat → Int32) (o6 : Nat) (p1 : Int32) (R : Int32 × Int32 × Int32 × Int32 × Int32 × (Nat → Int32)) (hf : f_X6_step v7_2 g7_0 g7_1 g4_0 g4_1 g4_3 g4_4 g4_5 g4_6 g4_7 v0_0 v0_1 v0_2 v0_10 g0_7 g0_8 g0_9 v5_2 v5_3 v5_4 v5_5 v5_6 v5_7 v5_8 v5_9 g5_1 p1 = some R) : Met l yX6_step wsX6_step ({ frames := 5, cells := 0, slots := 0, locals := 120 }) (va_Pc [.ref o6, .int p1] (x_PreT (dC, dI) (x_T cyI cyZ cyJ) [(o7, .inr (7, [.ref a7_0, .ref a7_1, .int v7_2])), (a7_0, .inl (cyI, 200, .inl g7_0)), (a7_1, .inl (cyZ, 200, .inl g7_1)), (o4, .inr (4, [.ref a4_0, .ref a4_1, .int v4_2, .ref a4_3, .ref a4_4, .ref a4_5, .ref a4_6, .ref a4_7, .int v4_8])), (a4_0, .inl (cyI, 100, .inl g4_0)), (a4_1, .inl (cyI, 100, .inl g4_1)), (a4_3, .inl (cyI, 100, .inl g4_3)), (a4_4, .inl (cyI, 100, .inl g4_4)), (a4_5, .inl (cyZ, 100, .inl g4_5)), (a4_6, .inl (cyI, 2000, .inl g4_6)), (a4_7, .inl (cyI, 100, .inl g4_7)), (o0, .inr (0, [.int v0_0, .int v0_1, .int v0_2, .int v0_3, .int v0_4, .ref a0_5, .int v0_6, .ref a0_7, .ref a0_8, .ref a0_9, .int v0_10, .ref a0_11, .ref a0_12, .ref a0_13, .ref a0_14, .int v0_15, .ref a0_16])), (a0_7, .inl (cyI, 1000, .inl g0_7)), (a0_8, .inl (cyI, 1000, .inl g0_8)), (a0_9, .inl (cyI, 1000, .inl g0_9)), (o5, .inr (5, [.ref o7, .ref a5_1, .int v5_2, .int v5_3, .int v5_4, .int v5_5, .int v5_6, .int v5_7, .int v5_8, .int v5_9])), (a5_1, .inl (cyI, 400, .inl g5_1)), (o6, .inr (6, [.ref o7, .ref o4, .ref o0, .ref o5]))] base sz)) (va_Qv (fun _ : Unit => True) (fun (_ : Unit) (t : State) => va_P (dC, dI) vwCl [(o7, .inr (7, [.ref a7_0, .ref a7_1, .int v7_2])), (a7_0, .inl (cyI, 200, .inl g7_0)), (a7_1, .inl (cyZ, 200, .inl g7_1)), (o4, .inr (4, [.ref a4_0, .ref a4_1, .int v4_2, .ref a4_3, .ref a4_4, .ref a4_5, .ref a4_6, .ref a4_7, .int v4_8])), (a4_0, .inl (cyI, 100, .inl g4_0)), (a4_1, .inl (cyI, 100, .inl g4_1)), (a4_3, .inl (cyI, 100, .inl g4_3)), (a4_4, .inl (cyI, 100, .inl g4_4)), (a4_5, .inl (cyZ, 100, .inl g4_5)), (a4_6, .inl (cyI, 2000, .inl g4_6)), (a4_7, .inl (cyI, 100, .inl g4_7)), (o0, .inr (0, [.int v0_0, .int v0_1, .int v0_2, .int v0_3, .int v0_4, .ref a0_5, .int v0_6, .ref a0_7, .ref a0_8, .ref a0_9, .int v0_10, .ref a0_11, .ref a0_12, .ref a0_13, .ref a0_14, .int v0_15, .ref a0_16])), (a0_7, .inl (cyI, 1000, .inl g0_7)), (a0_8, .inl (cyI, 1000, .inl g0_8)), (a0_9, .inl (cyI, 1000, .inl g0_9)), (o5, .inr (5, [.ref o7, .ref a5_1, .int v5_2, .int (R.1), .int v5_4, .int (R.2.1), .int (R.2.2.1), .int (R.2.2.2.1), .int (R.2.2.2.2.1), .int v5_9])), (a5_1, .inl (cyI, 400, .inl R.2.2.2.2.2)), (o6, .inr (6, [.ref o7, .ref o4, .ref o0, .ref o5]))] t.heap ∧ va_K (dC, dI) vwCl (x_T cyI cyZ cyJ) t ∧ va_D (va_A [(o7, .inr (7, [.ref a7_0, .ref a7_1, .int v7_2])), (a7_0, .inl (cyI, 200, .inl g7_0)), (a7_1, .inl (cyZ, 200, .inl g7_1)), (o4, .inr (4, [.ref a4_0, .ref a4_1, .int v4_2, .ref a4_3, .ref a4_4, .ref a4_5, .ref a4_6, .ref a4_7, .int v4_8])), (a4_0, .inl (cyI, 100, .inl g4_0)), (a4_1, .inl (cyI, 100, .inl g4_1)), (a4_3, .inl (cyI, 100, .inl g4_3)), (a4_4, .inl (cyI, 100, .inl g4_4)), (a4_5, .inl (cyZ, 100, .inl g4_5)), (a4_6, .inl (cyI, 2000, .inl g4_6)), (a4_7, .inl (cyI, 100, .inl g4_7)), (o0, .inr (0, [.int v0_0, .int v0_1, .int v0_2, .int v0_3, .int v0_4, .ref a0_5, .int v0_6, .ref a0_7, .ref a0_8, .ref a0_9, .int v0_10, .ref a0_11, .ref a0_12, .ref a0_13, .ref a0_14, .int v0_15, .ref a0_16])), (a0_7, .inl (cyI, 1000, .inl g0_7)), (a0_8, .inl (cyI, 1000, .inl g0_8)), (a0_9, .inl (cyI, 1000, .inl g0_9)), (o5, .inr (5, [.ref o7, .ref a5_1, .int v5_2, .int v5_3, .int v5_4, .int v5_5, .int v5_6, .int v5_7, .int v5_8, .int v5_9])), (a5_1, .inl (cyI, 400, .inl g5_1)), (o6, .inr (6, [.ref o7, .ref o4, .ref o0, .ref o5]))] sz) [(o7, .inr (7, [.ref a7_0, .ref a7_1, .int v7_2])), (a7_0, .inl (cyI, 200, .inl g7_0)), (a7_1, .inl (cyZ, 200, .inl g7_1)), (o4, .inr (4, [.ref a4_0, .ref a4_1, .int v4_2, .ref a4_3, .ref a4_4, .ref a4_5, .ref a4_6, .ref a4_7, .int v4_8])), (a4_0, .inl (cyI, 100, .inl g4_0)), (a4_1, .inl (cyI, 100, .inl g4_1)), (a4_3, .inl (cyI, 100, .inl g4_3)), (a4_4, .inl (cyI, 100, .inl g4_4)), (a4_5, .inl (cyZ, 100, .inl g4_5)), (a4_6, .inl (cyI, 2000, .inl g4_6)), (a4_7, .inl (cyI, 100, .inl g4_7)), (o0, .inr (0, [.int v0_0, .int v0_1, .int v0_2, .int v0_3, .int v0_4, .ref a0_5, .int v0_6, .ref a0_7, .ref a0_8, .ref a0_9, .int v0_10, .ref a0_11, .ref a0_12, .ref a0_13, .ref a0_14, .int v0_15, .ref a0_16])), (a0_7, .inl (cyI, 1000, .inl g0_7)), (a0_8, .inl (cyI, 1000, .inl g0_8)), (a0_9, .inl (cyI, 1000, .inl g0_9)), (o5, .inr (5, [.ref o7, .ref a5_1, .int v5_2, .int (R.1), .int v5_4, .int (R.2.1), .int (R.2.2.1), .int (R.2.2.2.1), .int (R.2.2.2.2.1), .int v5_9])), (a5_1, .inl (cyI, 400, .inl R.2.2.2.2.2)), (o6, .inr (6, [.ref o7, .ref o4, .ref o0, .ref o5]))]) (va_A [(o7, .inr (7, [.ref a7_0, .ref a7_1, .int v7_2])), (a7_0, .inl (cyI, 200, .inl g7_0)), (a7_1, .inl (cyZ, 200, .inl g7_1)), (o4, .inr (4, [.ref a4_0, .ref a4_1, .int v4_2, .ref a4_3, .ref a4_4, .ref a4_5, .ref a4_6, .ref a4_7, .int v4_8])), (a4_0, .inl (cyI, 100, .inl g4_0)), (a4_1, .inl (cyI, 100, .inl g4_1)), (a4_3, .inl (cyI, 100, .inl g4_3)), (a4_4, .inl (cyI, 100, .inl g4_4)), (a4_5, .inl (cyZ, 100, .inl g4_5)), (a4_6, .inl (cyI, 2000, .inl g4_6)), (a4_7, .inl (cyI, 100, .inl g4_7)), (o0, .inr (0, [.int v0_0, .int v0_1, .int v0_2, .int v0_3, .int v0_4, .ref a0_5, .int v0_6, .ref a0_7, .ref a0_8, .ref a0_9, .int v0_10, .ref a0_11, .ref a0_12, .ref a0_13, .ref a0_14, .int v0_15, .ref a0_16])), (a0_7, .inl (cyI, 1000, .inl g0_7)), (a0_8, .inl (cyI, 1000, .inl g0_8)), (a0_9, .inl (cyI, 1000, .inl g0_9)), (o5, .inr (5, [.ref o7, .ref a5_1, .int v5_2, .int v5_3, .int v5_4, .int v5_5, .int v5_6, .int v5_7, .int v5_8, .int v5_9])), (a5_1, .inl (cyI, 400, .inl g5_1)), (o6, .inr (6, [.ref o7, .ref o4, .ref o0, .ref o5]))] sz)) 0 0 (va_A [(o7, .inr (7, [.ref a7_0, .ref a7_1, .int v7_2])), (a7_0, .inl (cyI, 200, .inl g7_0)), (a7_1, .inl (cyZ, 200, .inl g7_1)), (o4, .inr (4, [.ref a4_0, .ref a4_1, .int v4_2, .ref a4_3, .ref a4_4, .ref a4_5, .ref a4_6, .ref a4_7, .int v4_8])), (a4_0, .inl (cyI, 100, .inl g4_0)), (a4_1, .inl (cyI, 100, .inl g4_1)), (a4_3, .inl (cyI, 100, .inl g4_3)), (a4_4, .inl (cyI, 100, .inl g4_4)), (a4_5, .inl (cyZ, 100, .inl g4_5)), (a4_6, .inl (cyI, 2000, .inl g4_6)), (a4_7, .inl (cyI, 100, .inl g4_7)), (o0, .inr (0, [.int v0_0, .int v0_1, .int v0_2, .int v0_3, .int v0_4, .ref a0_5, .int v0_6, .ref a0_7, .ref a0_8, .ref a0_9, .int v0_10, .ref a0_11, .ref a0_12, .ref a0_13, .ref a0_14, .int v0_15, .ref a0_16])), (a0_7, .inl (cyI, 1000, .inl g0_7)), (a0_8, .inl (cyI, 1000, .inl g0_8)), (a0_9, .inl (cyI, 1000, .inl g0_9)), (o5, .inr (5, [.ref o7, .ref a5_1, .int v5_2, .int v5_3, .int v5_4, .int v5_5, .int v5_6, .int v5_7, .int v5_8, .int v5_9])), (a5_1, .inl (cyI, 400, .inl g5_1)), (o6, .inr (6, [.ref o7, .ref o4, .ref o0, .ref o5]))] sz) := by
  refine Met.ofW (cc := cX6_step) (maxL := 4) (ret := none) (by decide) rfl ?_
  intro p e s m args below meth c s₁ B hml hv
  obtain ⟨rfl, ⟨⟨hsz, hP, hK, hN⟩, hD0⟩, hDb, hbz, hT⟩ := hv
  have hx := B.exec
  have hb := B.bytes
  have hr := B.returns
  have hts := atoms_spec (ws := wsX6_step) B.pre
  have hown : s.vm.findClass RX6 = some m.cls := findClass_of_methodNamed B.named
  have k_1 := hts (.fieldLink RX6 19 "FlowJudge$Steps" "code" "LFlowJudge$Code;") (by decide +kernel)
  have k_2 := hts (.fieldLink RX6 59 "FlowJudge$Steps" "SUMS" "[I") (by decide +kernel)
  subst hsz
  have hAb : ∀ q, va_A [(o7, .inr (7, [.ref a7_0, .ref a7_1, .int v7_2])), (a7_0, .inl (cyI, 200, .inl g7_0)), (a7_1, .inl (cyZ, 200, .inl g7_1)), (o4, .inr (4, [.ref a4_0, .ref a4_1, .int v4_2, .ref a4_3, .ref a4_4, .ref a4_5, .ref a4_6, .ref a4_7, .int v4_8])), (a4_0, .inl (cyI, 100, .inl g4_0)), (a4_1, .inl (cyI, 100, .inl g4_1)), (a4_3, .inl (cyI, 100, .inl g4_3)), (a4_4, .inl (cyI, 100, .inl g4_4)), (a4_5, .inl (cyZ, 100, .inl g4_5)), (a4_6, .inl (cyI, 2000, .inl g4_6)), (a4_7, .inl (cyI, 100, .inl g4_7)), (o0, .inr (0, [.int v0_0, .int v0_1, .int v0_2, .int v0_3, .int v0_4, .ref a0_5, .int v0_6, .ref a0_7, .ref a0_8, .ref a0_9, .int v0_10, .ref a0_11, .ref a0_12, .ref a0_13, .ref a0_14, .int v0_15, .ref a0_16])), (a0_7, .inl (cyI, 1000, .inl g0_7)), (a0_8, .inl (cyI, 1000, .inl g0_8)), (a0_9, .inl (cyI, 1000, .inl g0_9)), (o5, .inr (5, [.ref o7, .ref a5_1, .int v5_2, .int v5_3, .int v5_4, .int v5_5, .int v5_6, .int v5_7, .int v5_8, .int v5_9])), (a5_1, .inl (cyI, 400, .inl g5_1)), (o6, .inr (6, [.ref o7, .ref o4, .ref o0, .ref o5]))] s.heap.size q → x_new base q := x_Ab hDb hbz
  have hD := hD0.self (sz := s.heap.size)
  generalize hAe : va_A [(o7, .inr (7, [.ref a7_0, .ref a7_1, .int v7_2])), (a7_0, .inl (cyI, 200, .inl g7_0)), (a7_1, .inl (cyZ, 200, .inl g7_1)), (o4, .inr (4, [.ref a4_0, .ref a4_1, .int v4_2, .ref a4_3, .ref a4_4, .ref a4_5, .ref a4_6, .ref a4_7, .int v4_8])), (a4_0, .inl (cyI, 100, .inl g4_0)), (a4_1, .inl (cyI, 100, .inl g4_1)), (a4_3, .inl (cyI, 100, .inl g4_3)), (a4_4, .inl (cyI, 100, .inl g4_4)), (a4_5, .inl (cyZ, 100, .inl g4_5)), (a4_6, .inl (cyI, 2000, .inl g4_6)), (a4_7, .inl (cyI, 100, .inl g4_7)), (o0, .inr (0, [.int v0_0, .int v0_1, .int v0_2, .int v0_3, .int v0_4, .ref a0_5, .int v0_6, .ref a0_7, .ref a0_8, .ref a0_9, .int v0_10, .ref a0_11, .ref a0_12, .ref a0_13, .ref a0_14, .int v0_15, .ref a0_16])), (a0_7, .inl (cyI, 1000, .inl g0_7)), (a0_8, .inl (cyI, 1000, .inl g0_8)), (a0_9, .inl (cyI, 1000, .inl g0_9)), (o5, .inr (5, [.ref o7, .ref a5_1, .int v5_2, .int v5_3, .int v5_4, .int v5_5, .int v5_6, .int v5_7, .int v5_8, .int v5_9])), (a5_1, .inl (cyI, 400, .inl g5_1)), (o6, .inr (6, [.ref o7, .ref o4, .ref o0, .ref o5]))] s.heap.size = A at hD hAb ⊢
  have hA : ∀ q : Nat, s.heap.size ≤ q → A q := fun q h => by rw [← hAe]; exact Or.inr h
  have hP : va_P (dC, dI) vwCl [(o7, .inr (7, [.ref a7_0, .ref a7_1, .int v7_2])), (a7_0, .inl (cyI, 200, .inl g7_0)), (a7_1, .inl (cyZ, 200, .inl g7_1)), (o4, .inr (4, [.ref a4_0, .ref a4_1, .int v4_2, .ref a4_3, .ref a4_4, .ref a4_5, .ref a4_6, .ref a4_7, .int v4_8])), (a4_0, .inl (cyI, 100, .inl g4_0)), (a4_1, .inl (cyI, 100, .inl g4_1)), (a4_3, .inl (cyI, 100, .inl g4_3)), (a4_4, .inl (cyI, 100, .inl g4_4)), (a4_5, .inl (cyZ, 100, .inl g4_5)), (a4_6, .inl (cyI, 2000, .inl g4_6)), (a4_7, .inl (cyI, 100, .inl g4_7)), (o0, .inr (0, [.int v0_0, .int v0_1, .int v0_2, .int v0_3, .int v0_4, .ref a0_5, .int v0_6, .ref a0_7, .ref a0_8, .ref a0_9, .int v0_10, .ref a0_11, .ref a0_12, .ref a0_13, .ref a0_14, .int v0_15, .ref a0_16])), (a0_7, .inl (cyI, 1000, .inl g0_7)), (a0_8, .inl (cyI, 1000, .inl g0_8)), (a0_9, .inl (cyI, 1000, .inl g0_9)), (o5, .inr (5, [.ref o7, .ref a5_1, .int v5_2, .int v5_3, .int v5_4, .int v5_5, .int v5_6, .int v5_7, .int v5_8, .int v5_9])), (a5_1, .inl (cyI, 400, .inl g5_1)), (o6, .inr (6, [.ref o7, .ref o4, .ref o0, .ref o5]))] s.heap := hP
  have hl := lv_entry ([.ref o6, .int p1]) (n := 4) (Nat.le_of_ble_eq_true rfl)
  rw [lg_entry_eq]
  generalize (lg_sl ([.ref o6, .int p1]) ++ List.replicate (4 - (lg_sl ([.ref o6, .int p1])).length) Slot.unset).toArray = ls at hl ⊢
  have hl : lv_has ls 4 [(0, .ref o6), (1, .int p1)] := hl
  obtain ⟨H, hH⟩ : ∃ z, z = s.heap := ⟨_, rfl⟩
  refine x_here hH ?_
  have hP : va_P (dC, dI) vwCl [(o7, .inr (7, [.ref a7_0, .ref a7_1, .int v7_2])), (a7_0, .inl (cyI, 200, .inl g7_0)), (a7_1, .inl (cyZ, 200, .inl g7_1)), (o4, .inr (4, [.ref a4_0, .ref a4_1, .int v4_2, .ref a4_3, .ref a4_4, .ref a4_5, .ref a4_6, .ref a4_7, .int v4_8])), (a4_0, .inl (cyI, 100, .inl g4_0)), (a4_1, .inl (cyI, 100, .inl g4_1)), (a4_3, .inl (cyI, 100, .inl g4_3)), (a4_4, .inl (cyI, 100, .inl g4_4)), (a4_5, .inl (cyZ, 100, .inl g4_5)), (a4_6, .inl (cyI, 2000, .inl g4_6)), (a4_7, .inl (cyI, 100, .inl g4_7)), (o0, .inr (0, [.int v0_0, .int v0_1, .int v0_2, .int v0_3, .int v0_4, .ref a0_5, .int v0_6, .ref a0_7, .ref a0_8, .ref a0_9, .int v0_10, .ref a0_11, .ref a0_12, .ref a0_13, .ref a0_14, .int v0_15, .ref a0_16])), (a0_7, .inl (cyI, 1000, .inl g0_7)), (a0_8, .inl (cyI, 1000, .inl g0_8)), (a0_9, .inl (cyI, 1000, .inl g0_9)), (o5, .inr (5, [.ref o7, .ref a5_1, .int v5_2, .int v5_3, .int v5_4, .int v5_5, .int v5_6, .int v5_7, .int v5_8, .int v5_9])), (a5_1, .inl (cyI, 400, .inl g5_1)), (o6, .inr (6, [.ref o7, .ref o4, .ref o0, .ref o5]))] H := by rw [hH]; exact hP
  have hS : va_S A s.heap H [] := by rw [hH]; exact va_S.rf
  clear hH
  obtain ⟨locs, hlo⟩ : ∃ z : List Loc, z = [] := ⟨_, rfl⟩
  refine x_herl hlo ?_
  have hS : va_S A s.heap H locs := by rw [hlo]; exact hS
  clear hlo
  unfold f_X6_step at hf
  refine lv_aload_n hx hb dX6_step_0 rfl (lv_at hl 0 rfl) ?_
  refine va_get (D := (dC, dI)) (ci := 6) (v := .ref o0) (C := RX6) (T := TX6) (N := 4) hx hb hts i_X6_step_X6 hown hK hP 17 rfl rfl 2 (by decide) k_1 (fun _ h9 => h9) rfl dX6_step_1 ?_
  refine va_getN (D := (dC, dI)) (ci := 0) (v := .ref a0_7) (C := RX0) (T := TX0) (N := 17) hx hb hts i_X6_step_X0 hown hK hP 11 rfl rfl 7 (by decide) ((hN.1 ("FlowJudge$Steps", 27, "FlowJudge$Code", "ops", "[I") (List.mem_of_getElem? (i := 45) rfl)).use rfl) (fun _ h9 => h9) rfl dX6_step_4 ?_
  refine lv_iload_n hx hb dX6_step_7 rfl (lv_at hl 1 rfl) ?_
  obtain ⟨g_1, hf⟩ := x_gu hf
  refine va_iald hx hb hK hP 12 0 rfl rfl (x_gdin g_1) dX6_step_8 ?_
  refine lv_istore_n (lv' := [(2, .int (g0_7 (Int32.toNatClampNeg p1))), (0, .ref o6), (1, .int p1)]) hx hb dX6_step_9 rfl hl (by decide) rfl (fun ls hl => ?_)
  refine lv_aload_n hx hb dX6_step_10 rfl (lv_at hl 1 rfl) ?_
  refine va_get (D := (dC, dI)) (ci := 6) (v := .ref o0) (C := RX6) (T := TX6) (N := 4) hx hb hts i_X6_step_X6 hown hK hP 17 rfl rfl 2 (by decide) k_1 (fun _ h9 => h9) rfl dX6_step_11 ?_
  refine va_getN (D := (dC, dI)) (ci := 0) (v := .ref a0_8) (C := RX0) (T := TX0) (N := 17) hx hb hts i_X6_step_X0 hown hK hP 11 rfl rfl 8 (by decide) ((hN.1 ("FlowJudge$Steps", 33, "FlowJudge$Code", "as", "[I") (List.mem_of_getElem? (i := 46) rfl)).use rfl) (fun _ h9 => h9) rfl dX6_step_14 ?_
  refine lv_iload_n hx hb dX6_step_17 rfl (lv_at hl 2 rfl) ?_
  obtain ⟨g_2, hf⟩ := x_gu hf
  refine va_iald hx hb hK hP 13 0 rfl rfl (x_gdin g_2) dX6_step_18 ?_
  refine lv_istore_n (lv' := [(3, .int (g0_8 (Int32.toNatClampNeg p1))), (2, .int (g0_7 (Int32.toNatClampNeg p1))), (0, .ref o6), (1, .int p1)]) hx hb dX6_step_19 rfl hl (by decide) rfl (fun ls hl => ?_)
  refine lv_iload_n hx hb dX6_step_20 rfl (lv_at hl 1 rfl) ?_
  refine lv_bipush (v := 20) hx hb dX6_step_21 (by decide) ?_
  refine lv_icmp_gt (tgt := 35) hx hb dX6_step_23 (by decide) (fun c_3 => ?_) (fun c_3 => ?_)
  · replace hf := x_ip c_3 hf
    refine lv_iload_n hx hb dX6_step_35 rfl (lv_at hl 1 rfl) ?_
    refine lv_bipush (v := 25) hx hb dX6_step_36 (by decide) ?_
    refine lv_icmp_gt (tgt := 53) hx hb dX6_step_38 (by decide) (fun c_4 => ?_) (fun c_4 => ?_)
    · replace hf := x_ip c_4 hf
      refine lv_iload_n hx hb dX6_step_53 rfl (lv_at hl 1 rfl) ?_
      refine lv_bipush (v := 53) hx hb dX6_step_54 (by decide) ?_
      refine lv_icmp_gt (tgt := 70) hx hb dX6_step_56 (by decide) (fun c_5 => ?_) (fun c_5 => ?_)
      · replace hf := x_ip c_5 hf
        refine lv_iload_n hx hb dX6_step_70 rfl (lv_at hl 1 rfl) ?_
        refine lv_bipush (v := 58) hx hb dX6_step_71 (by decide) ?_
        refine lv_icmp_gt (tgt := 88) hx hb dX6_step_73 (by decide) (fun c_6 => ?_) (fun c_6 => ?_)
        · replace hf := x_ip c_6 hf
          refine lv_iload_n hx hb dX6_step_88 rfl (lv_at hl 1 rfl) ?_
          refine lv_bipush (v := 86) hx hb dX6_step_89 (by decide) ?_
          refine lv_icmp_gt (tgt := 105) hx hb dX6_step_91 (by decide) (fun c_7 => ?_) (fun c_7 => ?_)
          · replace hf := x_ip c_7 hf
            refine lv_iload_n hx hb dX6_step_105 rfl (lv_at hl 1 rfl) ?_
            refine lv_bipush (v := 95) hx hb dX6_step_106 (by decide) ?_
            refine lv_icmp_gt (tgt := 119) hx hb dX6_step_108 (by decide) (fun c_8 => ?_) (fun c_8 => ?_)
            · replace hf := x_ip c_8 hf
              refine lv_iload_n hx hb dX6_step_119 rfl (lv_at hl 1 rfl) ?_
              refine lv_sipush (v := 132) hx hb dX6_step_120 (by decide) ?_
              refine lv_icmp_ne (tgt := 134) hx hb dX6_step_123 (by decide) (fun c_9 => ?_) (fun c_9 => ?_)
              · replace hf := x_in c_9 hf
                refine lv_iload_n hx hb dX6_step_134 rfl (lv_at hl 1 rfl) ?_
                refine lv_sipush (v := 152) hx hb dX6_step_135 (by decide) ?_
                refine lv_icmp_gt (tgt := 156) hx hb dX6_step_138 (by decide) (fun c_10 => ?_) (fun c_10 => ?_)
                · replace hf := x_ip c_10 hf
                  refine lv_iload_n hx hb dX6_step_156 rfl (lv_at hl 1 rfl) ?_
                  refine lv_sipush (v := 171) hx hb dX6_step_157 (by decide) ?_
                  refine lv_icmp_gt (tgt := 171) hx hb dX6_step_160 (by decide) (fun c_11 => ?_) (fun c_11 => ?_)
                  · replace hf := x_ip c_11 hf
                    refine lv_iload_n hx hb dX6_step_171 rfl (lv_at hl 1 rfl) ?_
                    refine lv_sipush (v := 177) hx hb dX6_step_172 (by decide) ?_
                    refine lv_icmp_gt (tgt := 190) hx hb dX6_step_175 (by decide) (fun c_12 => ?_) (fun c_12 => ?_)
                    · replace hf := x_ip c_12 hf
                      refine lv_iload_n hx hb dX6_step_190 rfl (lv_at hl 1 rfl) ?_
                      refine lv_sipush (v := 181) hx hb dX6_step_191 (by decide) ?_
                      refine lv_icmp_gt (tgt := 206) hx hb dX6_step_194 (by decide) (fun c_13 => ?_) (fun c_13 => ?_)
                      · replace hf := x_ip c_13 hf
                        refine lv_iload_n hx hb dX6_step_206 rfl (lv_at hl 1 rfl) ?_
                        refine lv_sipush (v := 186) hx hb dX6_step_207 (by decide) ?_
                        refine lv_icmp_gt (tgt := 222) hx hb dX6_step_210 (by decide) (fun c_14 => ?_) (fun c_14 => ?_)
                        · replace hf := x_ip c_14 hf
                          refine lv_iload_n hx hb dX6_step_222 rfl (lv_at hl 1 rfl) ?_
                          refine lv_sipush (v := 189) hx hb dX6_step_223 (by decide) ?_
                          refine lv_icmp_le (tgt := 236) hx hb dX6_step_226 (by decide) (fun c_15 => ?_) (fun c_15 => ?_)
                          · replace hf := x_ip c_15 hf
                            refine lv_aload_n hx hb dX6_step_236 rfl (lv_at hl 2 rfl) ?_
                            refine lv_iload_n hx hb dX6_step_237 rfl (lv_at hl 3 rfl) ?_
                            obtain ⟨r_16, h_16, hf⟩ := x_bi hf
                            have hPc := hP.sub (ws' := [(o0, .inr (0, [.int v0_0, .int v0_1, .int v0_2, .int v0_3, .int v0_4, .ref a0_5, .int v0_6, .ref a0_7, .ref a0_8, .ref a0_9, .int v0_10, .ref a0_11, .ref a0_12, .ref a0_13, .ref a0_14, .int v0_15, .ref a0_16])), (a0_7, .inl (cyI, 1000, .inl g0_7)), (a0_8, .inl (cyI, 1000, .inl g0_8)), (a0_9, .inl (cyI, 1000, .inl g0_9)), (o5, .inr (5, [.ref o7, .ref a5_1, .int v5_2, .int v5_3, .int v5_4, .int v5_5, .int v5_6, .int v5_7, .int v5_8, .int v5_9])), (a5_1, .inl (cyI, 400, .inl g5_1)), (o6, .inr (6, [.ref o7, .ref o4, .ref o0, .ref o5]))]) [11, 12, 13, 14, 15, 16, 17] rfl
                            have hDc := hD.sub (ws' := [(o0, .inr (0, [.int v0_0, .int v0_1, .int v0_2, .int v0_3, .int v0_4, .ref a0_5, .int v0_6, .ref a0_7, .ref a0_8, .ref a0_9, .int v0_10, .ref a0_11, .ref a0_12, .ref a0_13, .ref a0_14, .int v0_15, .ref a0_16])), (a0_7, .inl (cyI, 1000, .inl g0_7)), (a0_8, .inl (cyI, 1000, .inl g0_8)), (a0_9, .inl (cyI, 1000, .inl g0_9)), (o5, .inr (5, [.ref o7, .ref a5_1, .int v5_2, .int v5_3, .int v5_4, .int v5_5, .int v5_6, .int v5_7, .int v5_8, .int v5_9])), (a5_1, .inl (cyI, 400, .inl g5_1)), (o6, .inr (6, [.ref o7, .ref o4, .ref o0, .ref o5]))]) [11, 12, 13, 14, 15, 16, 17] (by decide) rfl
                            have hFc := va_free (wc := [(o0, .inr (0, [.int v0_0, .int v0_1, .int v0_2, .int v0_3, .int v0_4, .ref a0_5, .int v0_6, .ref a0_7, .ref a0_8, .ref a0_9, .int v0_10, .ref a0_11, .ref a0_12, .ref a0_13, .ref a0_14, .int v0_15, .ref a0_16])), (a0_7, .inl (cyI, 1000, .inl g0_7)), (a0_8, .inl (cyI, 1000, .inl g0_8)), (a0_9, .inl (cyI, 1000, .inl g0_9)), (o5, .inr (5, [.ref o7, .ref a5_1, .int v5_2, .int v5_3, .int v5_4, .int v5_5, .int v5_6, .int v5_7, .int v5_8, .int v5_9])), (a5_1, .inl (cyI, 400, .inl g5_1)), (o6, .inr (6, [.ref o7, .ref o4, .ref o0, .ref o5]))]) hD hS hA [11, 12, 13, 14, 15, 16, 17] rfl
                            refine va_callv (va_runV (As := [.int p1]) (rest := []) ⟨hx, hb, hml, hown, hts⟩ (c_X6_make l dC dI cyI cyZ cyJ H.size o0 v0_0 v0_1 v0_2 v0_3 v0_4 a0_5 v0_6 a0_7 a0_8 a0_9 v0_10 a0_11 a0_12 a0_13 a0_14 v0_15 a0_16 g0_7 g0_8 g0_9 o5 o7 a5_1 v5_2 v5_3 v5_4 v5_5 v5_6 v5_7 v5_8 v5_9 g5_1 o6 o4 p1 r_16 h_16) (cwV 1 hts gX6_step_X6_make rfl rfl rfl (by decide +kernel) ⟨Nat.le_of_ble_eq_true rfl, Nat.le_of_ble_eq_true rfl⟩) (x_pVD hN hK hPc hDc (ci := 6) (q0 := 6) rfl rfl) rfl rfl hl.1 rfl (lv_room (Nat.le_of_ble_eq_true rfl)) dX6_step_238 ⟨Nat.le_of_ble_eq_true rfl, Nat.le_of_ble_eq_true rfl⟩) hS (fun q _ h => hFc q h) hFc (fun u t H1 locs ht hvm hw hB hz1 hk1 hS => ?_)
                            obtain ⟨hP1, hK1, hD1⟩ := hB
                            rw [ht] at hP1
                            obtain ⟨hP, hD⟩ := va_join (wr := [(o7, .inr (7, [.ref a7_0, .ref a7_1, .int v7_2])), (a7_0, .inl (cyI, 200, .inl g7_0)), (a7_1, .inl (cyZ, 200, .inl g7_1)), (o4, .inr (4, [.ref a4_0, .ref a4_1, .int v4_2, .ref a4_3, .ref a4_4, .ref a4_5, .ref a4_6, .ref a4_7, .int v4_8])), (a4_0, .inl (cyI, 100, .inl g4_0)), (a4_1, .inl (cyI, 100, .inl g4_1)), (a4_3, .inl (cyI, 100, .inl g4_3)), (a4_4, .inl (cyI, 100, .inl g4_4)), (a4_5, .inl (cyZ, 100, .inl g4_5)), (a4_6, .inl (cyI, 2000, .inl g4_6)), (a4_7, .inl (cyI, 100, .inl g4_7))]) (w1 := [(o0, .inr (0, [.int v0_0, .int v0_1, .int v0_2, .int v0_3, .int v0_4, .ref a0_5, .int v0_6, .ref a0_7, .ref a0_8, .ref a0_9, .int v0_10, .ref a0_11, .ref a0_12, .ref a0_13, .ref a0_14, .int v0_15, .ref a0_16])), (a0_7, .inl (cyI, 1000, .inl g0_7)), (a0_8, .inl (cyI, 1000, .inl g0_8)), (a0_9, .inl (cyI, 1000, .inl g0_9)), (o5, .inr (5, [.ref o7, .ref a5_1, .int v5_2, .int (r_16.1), .int v5_4, .int v5_5, .int (r_16.2.1), .int (r_16.2.2.1), .int v5_8, .int v5_9])), (a5_1, .inl (cyI, 400, .inl r_16.2.2.2)), (o6, .inr (6, [.ref o7, .ref o4, .ref o0, .ref o5]))]) hP hD [11, 12, 13, 14, 15, 16, 17] [0, 1, 2, 3, 4, 5, 6, 7, 8, 9, 10] rfl rfl (by decide) (by decide) hk1 hFc hP1 hD1
                            clear hz1 hk1 hPc hDc hFc hP1 hK1 hD1 ht hvm t u
                            generalize H1 = H at hP hS ⊢
                            have hP : va_P (dC, dI) vwCl [(o7, .inr (7, [.ref a7_0, .ref a7_1, .int v7_2])), (a7_0, .inl (cyI, 200, .inl g7_0)), (a7_1, .inl (cyZ, 200, .inl g7_1)), (o4, .inr (4, [.ref a4_0, .ref a4_1, .int v4_2, .ref a4_3, .ref a4_4, .ref a4_5, .ref a4_6, .ref a4_7, .int v4_8])), (a4_0, .inl (cyI, 100, .inl g4_0)), (a4_1, .inl (cyI, 100, .inl g4_1)), (a4_3, .inl (cyI, 100, .inl g4_3)), (a4_4, .inl (cyI, 100, .inl g4_4)), (a4_5, .inl (cyZ, 100, .inl g4_5)), (a4_6, .inl (cyI, 2000, .inl g4_6)), (a4_7, .inl (cyI, 100, .inl g4_7)), (o0, .inr (0, [.int v0_0, .int v0_1, .int v0_2, .int v0_3, .int v0_4, .ref a0_5, .int v0_6, .ref a0_7, .ref a0_8, .ref a0_9, .int v0_10, .ref a0_11, .ref a0_12, .ref a0_13, .ref a0_14, .int v0_15, .ref a0_16])), (a0_7, .inl (cyI, 1000, .inl g0_7)), (a0_8, .inl (cyI, 1000, .inl g0_8)), (a0_9, .inl (cyI, 1000, .inl g0_9)), (o5, .inr (5, [.ref o7, .ref a5_1, .int v5_2, .int (r_16.1), .int v5_4, .int v5_5, .int (r_16.2.1), .int (r_16.2.2.1), .int v5_8, .int v5_9])), (a5_1, .inl (cyI, 400, .inl r_16.2.2.2)), (o6, .inr (6, [.ref o7, .ref o4, .ref o0, .ref o5]))] H := hP
                            have hD : va_D A [(o7, .inr (7, [.ref a7_0, .ref a7_1, .int v7_2])), (a7_0, .inl (cyI, 200, .inl g7_0)), (a7_1, .inl (cyZ, 200, .inl g7_1)), (o4, .inr (4, [.ref a4_0, .ref a4_1, .int v4_2, .ref a4_3, .ref a4_4, .ref a4_5, .ref a4_6, .ref a4_7, .int v4_8])), (a4_0, .inl (cyI, 100, .inl g4_0)), (a4_1, .inl (cyI, 100, .inl g4_1)), (a4_3, .inl (cyI, 100, .inl g4_3)), (a4_4, .inl (cyI, 100, .inl g4_4)), (a4_5, .inl (cyZ, 100, .inl g4_5)), (a4_6, .inl (cyI, 2000, .inl g4_6)), (a4_7, .inl (cyI, 100, .inl g4_7)), (o0, .inr (0, [.int v0_0, .int v0_1, .int v0_2, .int v0_3, .int v0_4, .ref a0_5, .int v0_6, .ref a0_7, .ref a0_8, .ref a0_9, .int v0_10, .ref a0_11, .ref a0_12, .ref a0_13, .ref a0_14, .int v0_15, .ref a0_16])), (a0_7, .inl (cyI, 1000, .inl g0_7)), (a0_8, .inl (cyI, 1000, .inl g0_8)), (a0_9, .inl (cyI, 1000, .inl g0_9)), (o5, .inr (5, [.ref o7, .ref a5_1, .int v5_2, .int (r_16.1), .int v5_4, .int v5_5, .int (r_16.2.1), .int (r_16.2.2.1), .int v5_8, .int v5_9])), (a5_1, .inl (cyI, 400, .inl r_16.2.2.2)), (o6, .inr (6, [.ref o7, .ref o4, .ref o0, .ref o5]))] := hD
                            refine lv_goto (tgt := 250) hx hb dX6_step_241 (by decide) ?_
                            obtain rfl := Option.some.inj hf
                            have hP9 := hP.sub (ws' := [(o7, .inr (7, [.ref a7_0, .ref a7_1, .int v7_2])), (a7_0, .inl (cyI, 200, .inl g7_0)), (a7_1, .inl (cyZ, 200, .inl g7_1)), (o4, .inr (4, [.ref a4_0, .ref a4_1, .int v4_2, .ref a4_3, .ref a4_4, .ref a4_5, .ref a4_6, .ref a4_7, .int v4_8])), (a4_0, .inl (cyI, 100, .inl g4_0)), (a4_1, .inl (cyI, 100, .inl g4_1)), (a4_3, .inl (cyI, 100, .inl g4_3)), (a4_4, .inl (cyI, 100, .inl g4_4)), (a4_5, .inl (cyZ, 100, .inl g4_5)), (a4_6, .inl (cyI, 2000, .inl g4_6)), (a4_7, .inl (cyI, 100, .inl g4_7)), (o0, .inr (0, [.int v0_0, .int v0_1, .int v0_2, .int v0_3, .int v0_4, .ref a0_5, .int v0_6, .ref a0_7, .ref a0_8, .ref a0_9, .int v0_10, .ref a0_11, .ref a0_12, .ref a0_13, .ref a0_14, .int v0_15, .ref a0_16])), (a0_7, .inl (cyI, 1000, .inl g0_7)), (a0_8, .inl (cyI, 1000, .inl g0_8)), (a0_9, .inl (cyI, 1000, .inl g0_9)), (o5, .inr (5, [.ref o7, .ref a5_1, .int v5_2, .int (r_16.1), .int v5_4, .int v5_5, .int (r_16.2.1), .int (r_16.2.2.1), .int v5_8, .int v5_9])), (a5_1, .inl (cyI, 400, .inl r_16.2.2.2)), (o6, .inr (6, [.ref o7, .ref o4, .ref o0, .ref o5]))]) [0, 1, 2, 3, 4, 5, 6, 7, 8, 9, 10, 11, 12, 13, 14, 15, 16, 17] rfl
                            have hD9 := hD.sub (ws' := [(o7, .inr (7, [.ref a7_0, .ref a7_1, .int v7_2])), (a7_0, .inl (cyI, 200, .inl g7_0)), (a7_1, .inl (cyZ, 200, .inl g7_1)), (o4, .inr (4, [.ref a4_0, .ref a4_1, .int v4_2, .ref a4_3, .ref a4_4, .ref a4_5, .ref a4_6, .ref a4_7, .int v4_8])), (a4_0, .inl (cyI, 100, .inl g4_0)), (a4_1, .inl (cyI, 100, .inl g4_1)), (a4_3, .inl (cyI, 100, .inl g4_3)), (a4_4, .inl (cyI, 100, .inl g4_4)), (a4_5, .inl (cyZ, 100, .inl g4_5)), (a4_6, .inl (cyI, 2000, .inl g4_6)), (a4_7, .inl (cyI, 100, .inl g4_7)), (o0, .inr (0, [.int v0_0, .int v0_1, .int v0_2, .int v0_3, .int v0_4, .ref a0_5, .int v0_6, .ref a0_7, .ref a0_8, .ref a0_9, .int v0_10, .ref a0_11, .ref a0_12, .ref a0_13, .ref a0_14, .int v0_15, .ref a0_16])), (a0_7, .inl (cyI, 1000, .inl g0_7)), (a0_8, .inl (cyI, 1000, .inl g0_8)), (a0_9, .inl (cyI, 1000, .inl g0_9)), (o5, .inr (5, [.ref o7, .ref a5_1, .int v5_2, .int (r_16.1), .int v5_4, .int v5_5, .int (r_16.2.1), .int (r_16.2.2.1), .int v5_8, .int v5_9])), (a5_1, .inl (cyI, 400, .inl r_16.2.2.2)), (o6, .inr (6, [.ref o7, .ref o4, .ref o0, .ref o5]))]) [0, 1, 2, 3, 4, 5, 6, 7, 8, 9, 10, 11, 12, 13, 14, 15, 16, 17] (by decide) rfl
                            exact W.vret hx hb hr (fun t ht hW => ⟨⟨(), rfl, trivial, by rw [ht]; exact hP9, va_K.moved hW.alike hK, hD9⟩, hS.F ht⟩) hS.2.2 dX6_step_250
                          · replace hf := x_in c_15 hf
                            refine lv_iload_n hx hb dX6_step_229 rfl (lv_at hl 1 rfl) ?_
                            refine lv_sipush (v := 197) hx hb dX6_step_230 (by decide) ?_
                            refine lv_icmp_ne (tgt := 244) hx hb dX6_step_233 (by decide) (fun c_17 => ?_) (fun c_17 => ?_)
                            · replace hf := x_in c_17 hf
                              refine lv_aload_n hx hb dX6_step_244 rfl (lv_at hl 2 rfl) ?_
                              refine lv_iload_n hx hb dX6_step_245 rfl (lv_at hl 1 rfl) ?_
                              refine lv_iload_n hx hb dX6_step_246 rfl (lv_at hl 0 rfl) ?_
                              obtain ⟨r_18, h_18, hf⟩ := x_bi hf
                              have hPc := hP.sub (ws' := [(o7, .inr (7, [.ref a7_0, .ref a7_1, .int v7_2])), (a7_0, .inl (cyI, 200, .inl g7_0)), (a7_1, .inl (cyZ, 200, .inl g7_1)), (o5, .inr (5, [.ref o7, .ref a5_1, .int v5_2, .int v5_3, .int v5_4, .int v5_5, .int v5_6, .int v5_7, .int v5_8, .int v5_9])), (a5_1, .inl (cyI, 400, .inl g5_1)), (o6, .inr (6, [.ref o7, .ref o4, .ref o0, .ref o5]))]) [0, 1, 2, 15, 16, 17] rfl
                              have hDc := hD.sub (ws' := [(o7, .inr (7, [.ref a7_0, .ref a7_1, .int v7_2])), (a7_0, .inl (cyI, 200, .inl g7_0)), (a7_1, .inl (cyZ, 200, .inl g7_1)), (o5, .inr (5, [.ref o7, .ref a5_1, .int v5_2, .int v5_3, .int v5_4, .int v5_5, .int v5_6, .int v5_7, .int v5_8, .int v5_9])), (a5_1, .inl (cyI, 400, .inl g5_1)), (o6, .inr (6, [.ref o7, .ref o4, .ref o0, .ref o5]))]) [0, 1, 2, 15, 16, 17] (by decide) rfl
                              have hFc := va_free (wc := [(o7, .inr (7, [.ref a7_0, .ref a7_1, .int v7_2])), (a7_0, .inl (cyI, 200, .inl g7_0)), (a7_1, .inl (cyZ, 200, .inl g7_1)), (o5, .inr (5, [.ref o7, .ref a5_1, .int v5_2, .int v5_3, .int v5_4, .int v5_5, .int v5_6, .int v5_7, .int v5_8, .int v5_9])), (a5_1, .inl (cyI, 400, .inl g5_1)), (o6, .inr (6, [.ref o7, .ref o4, .ref o0, .ref o5]))]) hD hS hA [0, 1, 2, 15, 16, 17] rfl
                              refine va_callv (va_runV (As := [.int (g0_7 (Int32.toNatClampNeg p1)), .int (g0_8 (Int32.toNatClampNeg p1))]) (rest := []) ⟨hx, hb, hml, hown, hts⟩ (c_X6_useReference l dC dI cyI cyZ cyJ H.size o7 a7_0 a7_1 v7_2 g7_0 g7_1 o5 a5_1 v5_2 v5_3 v5_4 v5_5 v5_6 v5_7 v5_8 v5_9 g5_1 o6 o4 o0 (g0_7 (Int32.toNatClampNeg p1)) (g0_8 (Int32.toNatClampNeg p1)) r_18 h_18) (cwV 2 hts gX6_step_X6_useReference rfl rfl rfl (by decide +kernel) ⟨Nat.le_of_ble_eq_true rfl, Nat.le_of_ble_eq_true rfl⟩) (x_pVD hN hK hPc hDc (ci := 6) (q0 := 5) rfl rfl) rfl rfl hl.1 rfl (lv_room (Nat.le_of_ble_eq_true rfl)) dX6_step_247 ⟨Nat.le_of_ble_eq_true rfl, Nat.le_of_ble_eq_true rfl⟩) hS (fun q _ h => hFc q h) hFc (fun u t H1 locs ht hvm hw hB hz1 hk1 hS => ?_)
                              obtain ⟨hP1, hK1, hD1⟩ := hB
                              rw [ht] at hP1
                              obtain ⟨hP, hD⟩ := va_join (wr := [(o4, .inr (4, [.ref a4_0, .ref a4_1, .int v4_2, .ref a4_3, .ref a4_4, .ref a4_5, .ref a4_6, .ref a4_7, .int v4_8])), (a4_0, .inl (cyI, 100, .inl g4_0)), (a4_1, .inl (cyI, 100, .inl g4_1)), (a4_3, .inl (cyI, 100, .inl g4_3)), (a4_4, .inl (cyI, 100, .inl g4_4)), (a4_5, .inl (cyZ, 100, .inl g4_5)), (a4_6, .inl (cyI, 2000, .inl g4_6)), (a4_7, .inl (cyI, 100, .inl g4_7)), (o0, .inr (0, [.int v0_0, .int v0_1, .int v0_2, .int v0_3, .int v0_4, .ref a0_5, .int v0_6, .ref a0_7, .ref a0_8, .ref a0_9, .int v0_10, .ref a0_11, .ref a0_12, .ref a0_13, .ref a0_14, .int v0_15, .ref a0_16])), (a0_7, .inl (cyI, 1000, .inl g0_7)), (a0_8, .inl (cyI, 1000, .inl g0_8)), (a0_9, .inl (cyI, 1000, .inl g0_9))]) (w1 := [(o7, .inr (7, [.ref a7_0, .ref a7_1, .int v7_2])), (a7_0, .inl (cyI, 200, .inl g7_0)), (a7_1, .inl (cyZ, 200, .inl g7_1)), (o5, .inr (5, [.ref o7, .ref a5_1, .int v5_2, .int (r_18.1), .int v5_4, .int v5_5, .int (r_18.2.1), .int v5_7, .int (r_18.2.2.1), .int v5_9])), (a5_1, .inl (cyI, 400, .inl r_18.2.2.2)), (o6, .inr (6, [.ref o7, .ref o4, .ref o0, .ref o5]))]) hP hD [0, 1, 2, 15, 16, 17] [3, 4, 5, 6, 7, 8, 9, 10, 11, 12, 13, 14] rfl rfl (by decide) (by decide) hk1 hFc hP1 hD1
                              clear hz1 hk1 hPc hDc hFc hP1 hK1 hD1 ht hvm t u
                              generalize H1 = H at hP hS ⊢
                              have hP : va_P (dC, dI) vwCl [(o4, .inr (4, [.ref a4_0, .ref a4_1, .int v4_2, .ref a4_3, .ref a4_4, .ref a4_5, .ref a4_6, .ref a4_7, .int v4_8])), (a4_0, .inl (cyI, 100, .inl g4_0)), (a4_1, .inl (cyI, 100, .inl g4_1)), (a4_3, .inl (cyI, 100, .inl g4_3)), (a4_4, .inl (cyI, 100, .inl g4_4)), (a4_5, .inl (cyZ, 100, .inl g4_5)), (a4_6, .inl (cyI, 2000, .inl g4_6)), (a4_7, .inl (cyI, 100, .inl g4_7)), (o0, .inr (0, [.int v0_0, .int v0_1, .int v0_2, .int v0_3, .int v0_4, .ref a0_5, .int v0_6, .ref a0_7, .ref a0_8, .ref a0_9, .int v0_10, .ref a0_11, .ref a0_12, .ref a0_13, .ref a0_14, .int v0_15, .ref a0_16])), (a0_7, .inl (cyI, 1000, .inl g0_7)), (a0_8, .inl (cyI, 1000, .inl g0_8)), (a0_9, .inl (cyI, 1000, .inl g0_9)), (o7, .inr (7, [.ref a7_0, .ref a7_1, .int v7_2])), (a7_0, .inl (cyI, 200, .inl g7_0)), (a7_1, .inl (cyZ, 200, .inl g7_1)), (o5, .inr (5, [.ref o7, .ref a5_1, .int v5_2, .int (r_18.1), .int v5_4, .int v5_5, .int (r_18.2.1), .int v5_7, .int (r_18.2.2.1), .int v5_9])), (a5_1, .inl (cyI, 400, .inl r_18.2.2.2)), (o6, .inr (6, [.ref o7, .ref o4, .ref o0, .ref o5]))] H := hP
                              have hD : va_D A [(o4, .inr (4, [.ref a4_0, .ref a4_1, .int v4_2, .ref a4_3, .ref a4_4, .ref a4_5, .ref a4_6, .ref a4_7, .int v4_8])), (a4_0, .inl (cyI, 100, .inl g4_0)), (a4_1, .inl (cyI, 100, .inl g4_1)), (a4_3, .inl (cyI, 100, .inl g4_3)), (a4_4, .inl (cyI, 100, .inl g4_4)), (a4_5, .inl (cyZ, 100, .inl g4_5)), (a4_6, .inl (cyI, 2000, .inl g4_6)), (a4_7, .inl (cyI, 100, .inl g4_7)), (o0, .inr (0, [.int v0_0, .int v0_1, .int v0_2, .int v0_3, .int v0_4, .ref a0_5, .int v0_6, .ref a0_7, .ref a0_8, .ref a0_9, .int v0_10, .ref a0_11, .ref a0_12, .ref a0_13, .ref a0_14, .int v0_15, .ref a0_16])), (a0_7, .inl (cyI, 1000, .inl g0_7)), (a0_8, .inl (cyI, 1000, .inl g0_8)), (a0_9, .inl (cyI, 1000, .inl g0_9)), (o7, .inr (7, [.ref a7_0, .ref a7_1, .int v7_2])), (a7_0, .inl (cyI, 200, .inl g7_0)), (a7_1, .inl (cyZ, 200, .inl g7_1)), (o5, .inr (5, [.ref o7, .ref a5_1, .int v5_2, .int (r_18.1), .int v5_4, .int v5_5, .int (r_18.2.1), .int v5_7, .int (r_18.2.2.1), .int v5_9])), (a5_1, .inl (cyI, 400, .inl r_18.2.2.2)), (o6, .inr (6, [.ref o7, .ref o4, .ref o0, .ref o5]))] := hD
                              obtain rfl := Option.some.inj hf
                              have hP9 := hP.sub (ws' := [(o7, .inr (7, [.ref a7_0, .ref a7_1, .int v7_2])), (a7_0, .inl (cyI, 200, .inl g7_0)), (a7_1, .inl (cyZ, 200, .inl g7_1)), (o4, .inr (4, [.ref a4_0, .ref a4_1, .int v4_2, .ref a4_3, .ref a4_4, .ref a4_5, .ref a4_6, .ref a4_7, .int v4_8])), (a4_0, .inl (cyI, 100, .inl g4_0)), (a4_1, .inl (cyI, 100, .inl g4_1)), (a4_3, .inl (cyI, 100, .inl g4_3)), (a4_4, .inl (cyI, 100, .inl g4_4)), (a4_5, .inl (cyZ, 100, .inl g4_5)), (a4_6, .inl (cyI, 2000, .inl g4_6)), (a4_7, .inl (cyI, 100, .inl g4_7)), (o0, .inr (0, [.int v0_0, .int v0_1, .int v0_2, .int v0_3, .int v0_4, .ref a0_5, .int v0_6, .ref a0_7, .ref a0_8, .ref a0_9, .int v0_10, .ref a0_11, .ref a0_12, .ref a0_13, .ref a0_14, .int v0_15, .ref a0_16])), (a0_7, .inl (cyI, 1000, .inl g0_7)), (a0_8, .inl (cyI, 1000, .inl g0_8)), (a0_9, .inl (cyI, 1000, .inl g0_9)), (o5, .inr (5, [.ref o7, .ref a5_1, .int v5_2, .int (r_18.1), .int v5_4, .int v5_5, .int (r_18.2.1), .int v5_7, .int (r_18.2.2.1), .int v5_9])), (a5_1, .inl (cyI, 400, .inl r_18.2.2.2)), (o6, .inr (6, [.ref o7, .ref o4, .ref o0, .ref o5]))]) [12, 13, 14, 0, 1, 2, 3, 4, 5, 6, 7, 8, 9, 10, 11, 15, 16, 17] rfl
                              have hD9 := hD.sub (ws' := [(o7, .inr (7, [.ref a7_0, .ref a7_1, .int v7_2])), (a7_0, .inl (cyI, 200, .inl g7_0)), (a7_1, .inl (cyZ, 200, .inl g7_1)), (o4, .inr (4, [.ref a4_0, .ref a4_1, .int v4_2, .ref a4_3, .ref a4_4, .ref a4_5, .ref a4_6, .ref a4_7, .int v4_8])), (a4_0, .inl (cyI, 100, .inl g4_0)), (a4_1, .inl (cyI, 100, .inl g4_1)), (a4_3, .inl (cyI, 100, .inl g4_3)), (a4_4, .inl (cyI, 100, .inl g4_4)), (a4_5, .inl (cyZ, 100, .inl g4_5)), (a4_6, .inl (cyI, 2000, .inl g4_6)), (a4_7, .inl (cyI, 100, .inl g4_7)), (o0, .inr (0, [.int v0_0, .int v0_1, .int v0_2, .int v0_3, .int v0_4, .ref a0_5, .int v0_6, .ref a0_7, .ref a0_8, .ref a0_9, .int v0_10, .ref a0_11, .ref a0_12, .ref a0_13, .ref a0_14, .int v0_15, .ref a0_16])), (a0_7, .inl (cyI, 1000, .inl g0_7)), (a0_8, .inl (cyI, 1000, .inl g0_8)), (a0_9, .inl (cyI, 1000, .inl g0_9)), (o5, .inr (5, [.ref o7, .ref a5_1, .int v5_2, .int (r_18.1), .int v5_4, .int v5_5, .int (r_18.2.1), .int v5_7, .int (r_18.2.2.1), .int v5_9])), (a5_1, .inl (cyI, 400, .inl r_18.2.2.2)), (o6, .inr (6, [.ref o7, .ref o4, .ref o0, .ref o5]))]) [12, 13, 14, 0, 1, 2, 3, 4, 5, 6, 7, 8, 9, 10, 11, 15, 16, 17] (by decide) rfl
                              exact W.vret hx hb hr (fun t ht hW => ⟨⟨(), rfl, trivial, by rw [ht]; exact hP9, va_K.moved hW.alike hK, hD9⟩, hS.F ht⟩) hS.2.2 dX6_step_250
                            · replace hf := x_ip c_17 hf
                              refine lv_aload_n hx hb dX6_step_236 rfl (lv_at hl 2 rfl) ?_
                              refine lv_iload_n hx hb dX6_step_237 rfl (lv_at hl 3 rfl) ?_
                              obtain ⟨r_19, h_19, hf⟩ := x_bi hf
                              have hPc := hP.sub (ws' := [(o0, .inr (0, [.int v0_0, .int v0_1, .int v0_2, .int v0_3, .int v0_4, .ref a0_5, .int v0_6, .ref a0_7, .ref a0_8, .ref a0_9, .int v0_10, .ref a0_11, .ref a0_12, .ref a0_13, .ref a0_14, .int v0_15, .ref a0_16])), (a0_7, .inl (cyI, 1000, .inl g0_7)), (a0_8, .inl (cyI, 1000, .inl g0_8)), (a0_9, .inl (cyI, 1000, .inl g0_9)), (o5, .inr (5, [.ref o7, .ref a5_1, .int v5_2, .int v5_3, .int v5_4, .int v5_5, .int v5_6, .int v5_7, .int v5_8, .int v5_9])), (a5_1, .inl (cyI, 400, .inl g5_1)), (o6, .inr (6, [.ref o7, .ref o4, .ref o0, .ref o5]))]) [11, 12, 13, 14, 15, 16, 17] rfl
                              have hDc := hD.sub (ws' := [(o0, .inr (0, [.int v0_0, .int v0_1, .int v0_2, .int v0_3, .int v0_4, .ref a0_5, .int v0_6, .ref a0_7, .ref a0_8, .ref a0_9, .int v0_10, .ref a0_11, .ref a0_12, .ref a0_13, .ref a0_14, .int v0_15, .ref a0_16])), (a0_7, .inl (cyI, 1000, .inl g0_7)), (a0_8, .inl (cyI, 1000, .inl g0_8)), (a0_9, .inl (cyI, 1000, .inl g0_9)), (o5, .inr (5, [.ref o7, .ref a5_1, .int v5_2, .int v5_3, .int v5_4, .int v5_5, .int v5_6, .int v5_7, .int v5_8, .int v5_9])), (a5_1, .inl (cyI, 400, .inl g5_1)), (o6, .inr (6, [.ref o7, .ref o4, .ref o0, .ref o5]))]) [11, 12, 13, 14, 15, 16, 17] (by decide) rfl
                              have hFc := va_free (wc := [(o0, .inr (0, [.int v0_0, .int v0_1, .int v0_2, .int v0_3, .int v0_4, .ref a0_5, .int v0_6, .ref a0_7, .ref a0_8, .ref a0_9, .int v0_10, .ref a0_11, .ref a0_12, .ref a0_13, .ref a0_14, .int v0_15, .ref a0_16])), (a0_7, .inl (cyI, 1000, .inl g0_7)), (a0_8, .inl (cyI, 1000, .inl g0_8)), (a0_9, .inl (cyI, 1000, .inl g0_9)), (o5, .inr (5, [.ref o7, .ref a5_1, .int v5_2, .int v5_3, .int v5_4, .int v5_5, .int v5_6, .int v5_7, .int v5_8, .int v5_9])), (a5_1, .inl (cyI, 400, .inl g5_1)), (o6, .inr (6, [.ref o7, .ref o4, .ref o0, .ref o5]))]) hD hS hA [11, 12, 13, 14, 15, 16, 17] rfl
                              refine va_callv (va_runV (As := [.int p1]) (rest := []) ⟨hx, hb, hml, hown, hts⟩ (c_X6_make l dC dI cyI cyZ cyJ H.size o0 v0_0 v0_1 v0_2 v0_3 v0_4 a0_5 v0_6 a0_7 a0_8 a0_9 v0_10 a0_11 a0_12 a0_13 a0_14 v0_15 a0_16 g0_7 g0_8 g0_9 o5 o7 a5_1 v5_2 v5_3 v5_4 v5_5 v5_6 v5_7 v5_8 v5_9 g5_1 o6 o4 p1 r_19 h_19) (cwV 1 hts gX6_step_X6_make rfl rfl rfl (by decide +kernel) ⟨Nat.le_of_ble_eq_true rfl, Nat.le_of_ble_eq_true rfl⟩) (x_pVD hN hK hPc hDc (ci := 6) (q0 := 6) rfl rfl) rfl rfl hl.1 rfl (lv_room (Nat.le_of_ble_eq_true rfl)) dX6_step_238 ⟨Nat.le_of_ble_eq_true rfl, Nat.le_of_ble_eq_true rfl⟩) hS (fun q _ h => hFc q h) hFc (fun u t H1 locs ht hvm hw hB hz1 hk1 hS => ?_)
                              obtain ⟨hP1, hK1, hD1⟩ := hB
                              rw [ht] at hP1
                              obtain ⟨hP, hD⟩ := va_join (wr := [(o7, .inr (7, [.ref a7_0, .ref a7_1, .int v7_2])), (a7_0, .inl (cyI, 200, .inl g7_0)), (a7_1, .inl (cyZ, 200, .inl g7_1)), (o4, .inr (4, [.ref a4_0, .ref a4_1, .int v4_2, .ref a4_3, .ref a4_4, .ref a4_5, .ref a4_6, .ref a4_7, .int v4_8])), (a4_0, .inl (cyI, 100, .inl g4_0)), (a4_1, .inl (cyI, 100, .inl g4_1)), (a4_3, .inl (cyI, 100, .inl g4_3)), (a4_4, .inl (cyI, 100, .inl g4_4)), (a4_5, .inl (cyZ, 100, .inl g4_5)), (a4_6, .inl (cyI, 2000, .inl g4_6)), (a4_7, .inl (cyI, 100, .inl g4_7))]) (w1 := [(o0, .inr (0, [.int v0_0, .int v0_1, .int v0_2, .int v0_3, .int v0_4, .ref a0_5, .int v0_6, .ref a0_7, .ref a0_8, .ref a0_9, .int v0_10, .ref a0_11, .ref a0_12, .ref a0_13, .ref a0_14, .int v0_15, .ref a0_16])), (a0_7, .inl (cyI, 1000, .inl g0_7)), (a0_8, .inl (cyI, 1000, .inl g0_8)), (a0_9, .inl (cyI, 1000, .inl g0_9)), (o5, .inr (5, [.ref o7, .ref a5_1, .int v5_2, .int (r_19.1), .int v5_4, .int v5_5, .int (r_19.2.1), .int (r_19.2.2.1), .int v5_8, .int v5_9])), (a5_1, .inl (cyI, 400, .inl r_19.2.2.2)), (o6, .inr (6, [.ref o7, .ref o4, .ref o0, .ref o5]))]) hP hD [11, 12, 13, 14, 15, 16, 17] [0, 1, 2, 3, 4, 5, 6, 7, 8, 9, 10] rfl rfl (by decide) (by decide) hk1 hFc hP1 hD1
                              clear hz1 hk1 hPc hDc hFc hP1 hK1 hD1 ht hvm t u
                              generalize H1 = H at hP hS ⊢
                              have hP : va_P (dC, dI) vwCl [(o7, .inr (7, [.ref a7_0, .ref a7_1, .int v7_2])), (a7_0, .inl (cyI, 200, .inl g7_0)), (a7_1, .inl (cyZ, 200, .inl g7_1)), (o4, .inr (4, [.ref a4_0, .ref a4_1, .int v4_2, .ref a4_3, .ref a4_4, .ref a4_5, .ref a4_6, .ref a4_7, .int v4_8])), (a4_0, .inl (cyI, 100, .inl g4_0)), (a4_1, .inl (cyI, 100, .inl g4_1)), (a4_3, .inl (cyI, 100, .inl g4_3)), (a4_4, .inl (cyI, 100, .inl g4_4)), (a4_5, .inl (cyZ, 100, .inl g4_5)), (a4_6, .inl (cyI, 2000, .inl g4_6)), (a4_7, .inl (cyI, 100, .inl g4_7)), (o0, .inr (0, [.int v0_0, .int v0_1, .int v0_2, .int v0_3, .int v0_4, .ref a0_5, .int v0_6, .ref a0_7, .ref a0_8, .ref a0_9, .int v0_10, .ref a0_11, .ref a0_12, .ref a0_13, .ref a0_14, .int v0_15, .ref a0_16])), (a0_7, .inl (cyI, 1000, .inl g0_7)), (a0_8, .inl (cyI, 1000, .inl g0_8)), (a0_9, .inl (cyI, 1000, .inl g0_9)), (o5, .inr (5, [.ref o7, .ref a5_1, .int v5_2, .int (r_19.1), .int v5_4, .int v5_5, .int (r_19.2.1), .int (r_19.2.2.1), .int v5_8, .int v5_9])), (a5_1, .inl (cyI, 400, .inl r_19.2.2.2)), (o6, .inr (6, [.ref o7, .ref o4, .ref o0, .ref o5]))] H := hP
                              have hD : va_D A [(o7, .inr (7, [.ref a7_0, .ref a7_1, .int v7_2])), (a7_0, .inl (cyI, 200, .inl g7_0)), (a7_1, .inl (cyZ, 200, .inl g7_1)), (o4, .inr (4, [.ref a4_0, .ref a4_1, .int v4_2, .ref a4_3, .ref a4_4, .ref a4_5, .ref a4_6, .ref a4_7, .int v4_8])), (a4_0, .inl (cyI, 100, .inl g4_0)), (a4_1, .inl (cyI, 100, .inl g4_1)), (a4_3, .inl (cyI, 100, .inl g4_3)), (a4_4, .inl (cyI, 100, .inl g4_4)), (a4_5, .inl (cyZ, 100, .inl g4_5)), (a4_6, .inl (cyI, 2000, .inl g4_6)), (a4_7, .inl (cyI, 100, .inl g4_7)), (o0, .inr (0, [.int v0_0, .int v0_1, .int v0_2, .int v0_3, .int v0_4, .ref a0_5, .int v0_6, .ref a0_7, .ref a0_8, .ref a0_9, .int v0_10, .ref a0_11, .ref a0_12, .ref a0_13, .ref a0_14, .int v0_15, .ref a0_16])), (a0_7, .inl (cyI, 1000, .inl g0_7)), (a0_8, .inl (cyI, 1000, .inl g0_8)), (a0_9, .inl (cyI, 1000, .inl g0_9)), (o5, .inr (5, [.ref o7, .ref a5_1, .int v5_2, .int (r_19.1), .int v5_4, .int v5_5, .int (r_19.2.1), .int (r_19.2.2.1), .int v5_8, .int v5_9])), (a5_1, .inl (cyI, 400, .inl r_19.2.2.2)), (o6, .inr (6, [.ref o7, .ref o4, .ref o0, .ref o5]))] := hD
                              refine lv_goto (tgt := 250) hx hb dX6_step_241 (by decide) ?_
                              obtain rfl := Option.some.inj hf
                              have hP9 := hP.sub (ws' := [(o7, .inr (7, [.ref a7_0, .ref a7_1, .int v7_2])), (a7_0, .inl (cyI, 200, .inl g7_0)), (a7_1, .inl (cyZ, 200, .inl g7_1)), (o4, .inr (4, [.ref a4_0, .ref a4_1, .int v4_2, .ref a4_3, .ref a4_4, .ref a4_5, .ref a4_6, .ref a4_7, .int v4_8])), (a4_0, .inl (cyI, 100, .inl g4_0)), (a4_1, .inl (cyI, 100, .inl g4_1)), (a4_3, .inl (cyI, 100, .inl g4_3)), (a4_4, .inl (cyI, 100, .inl g4_4)), (a4_5, .inl (cyZ, 100, .inl g4_5)), (a4_6, .inl (cyI, 2000, .inl g4_6)), (a4_7, .inl (cyI, 100, .inl g4_7)), (o0, .inr (0, [.int v0_0, .int v0_1, .int v0_2, .int v0_3, .int v0_4, .ref a0_5, .int v0_6, .ref a0_7, .ref a0_8, .ref a0_9, .int v0_10, .ref a0_11, .ref a0_12, .ref a0_13, .ref a0_14, .int v0_15, .ref a0_16])), (a0_7, .inl (cyI, 1000, .inl g0_7)), (a0_8, .inl (cyI, 1000, .inl g0_8)), (a0_9, .inl (cyI, 1000, .inl g0_9)), (o5, .inr (5, [.ref o7, .ref a5_1, .int v5_2, .int (r_19.1), .int v5_4, .int v5_5, .int (r_19.2.1), .int (r_19.2.2.1), .int v5_8, .int v5_9])), (a5_1, .inl (cyI, 400, .inl r_19.2.2.2)), (o6, .inr (6, [.ref o7, .ref o4, .ref o0, .ref o5]))]) [0, 1, 2, 3, 4, 5, 6, 7, 8, 9, 10, 11, 12, 13, 14, 15, 16, 17] rfl
                              have hD9 := hD.sub (ws' := [(o7, .inr (7, [.ref a7_0, .ref a7_1, .int v7_2])), (a7_0, .inl (cyI, 200, .inl g7_0)), (a7_1, .inl (cyZ, 200, .inl g7_1)), (o4, .inr (4, [.ref a4_0, .ref a4_1, .int v4_2, .ref a4_3, .ref a4_4, .ref a4_5, .ref a4_6, .ref a4_7, .int v4_8])), (a4_0, .inl (cyI, 100, .inl g4_0)), (a4_1, .inl (cyI, 100, .inl g4_1)), (a4_3, .inl (cyI, 100, .inl g4_3)), (a4_4, .inl (cyI, 100, .inl g4_4)), (a4_5, .inl (cyZ, 100, .inl g4_5)), (a4_6, .inl (cyI, 2000, .inl g4_6)), (a4_7, .inl (cyI, 100, .inl g4_7)), (o0, .inr (0, [.int v0_0, .int v0_1, .int v0_2, .int v0_3, .int v0_4, .ref a0_5, .int v0_6, .ref a0_7, .ref a0_8, .ref a0_9, .int v0_10, .ref a0_11, .ref a0_12, .ref a0_13, .ref a0_14, .int v0_15, .ref a0_16])), (a0_7, .inl (cyI, 1000, .inl g0_7)), (a0_8, .inl (cyI, 1000, .inl g0_8)), (a0_9, .inl (cyI, 1000, .inl g0_9)), (o5, .inr (5, [.ref o7, .ref a5_1, .int v5_2, .int (r_19.1), .int v5_4, .int v5_5, .int (r_19.2.1), .int (r_19.2.2.1), .int v5_8, .int v5_9])), (a5_1, .inl (cyI, 400, .inl r_19.2.2.2)), (o6, .inr (6, [.ref o7, .ref o4, .ref o0, .ref o5]))]) [0, 1, 2, 3, 4, 5, 6, 7, 8, 9, 10, 11, 12, 13, 14, 15, 16, 17] (by decide) rfl
                              exact W.vret hx hb hr (fun t ht hW => ⟨⟨(), rfl, trivial, by rw [ht]; exact hP9, va_K.moved hW.alike hK, hD9⟩, hS.F ht⟩) hS.2.2 dX6_step_250
                        · replace hf := x_in c_14 hf
                          refine lv_aload_n hx hb dX6_step_213 rfl (lv_at hl 2 rfl) ?_
                          refine lv_iload_n hx hb dX6_step_214 rfl (lv_at hl 1 rfl) ?_
                          refine lv_iload_n hx hb dX6_step_215 rfl (lv_at hl 0 rfl) ?_
                          obtain ⟨r_20, h_20, hf⟩ := x_bi hf
                          have hPc := hP.sub (ws' := [(o7, .inr (7, [.ref a7_0, .ref a7_1, .int v7_2])), (a7_0, .inl (cyI, 200, .inl g7_0)), (a7_1, .inl (cyZ, 200, .inl g7_1)), (o4, .inr (4, [.ref a4_0, .ref a4_1, .int v4_2, .ref a4_3, .ref a4_4, .ref a4_5, .ref a4_6, .ref a4_7, .int v4_8])), (a4_3, .inl (cyI, 100, .inl g4_3)), (a4_4, .inl (cyI, 100, .inl g4_4)), (a4_5, .inl (cyZ, 100, .inl g4_5)), (a4_6, .inl (cyI, 2000, .inl g4_6)), (a4_7, .inl (cyI, 100, .inl g4_7)), (o0, .inr (0, [.int v0_0, .int v0_1, .int v0_2, .int v0_3, .int v0_4, .ref a0_5, .int v0_6, .ref a0_7, .ref a0_8, .ref a0_9, .int v0_10, .ref a0_11, .ref a0_12, .ref a0_13, .ref a0_14, .int v0_15, .ref a0_16])), (a0_8, .inl (cyI, 1000, .inl g0_8)), (o5, .inr (5, [.ref o7, .ref a5_1, .int v5_2, .int v5_3, .int v5_4, .int v5_5, .int v5_6, .int v5_7, .int v5_8, .int v5_9])), (a5_1, .inl (cyI, 400, .inl g5_1)), (o6, .inr (6, [.ref o7, .ref o4, .ref o0, .ref o5]))]) [0, 1, 2, 3, 6, 7, 8, 9, 10, 11, 13, 15, 16, 17] rfl
                          have hDc := hD.sub (ws' := [(o7, .inr (7, [.ref a7_0, .ref a7_1, .int v7_2])), (a7_0, .inl (cyI, 200, .inl g7_0)), (a7_1, .inl (cyZ, 200, .inl g7_1)), (o4, .inr (4, [.ref a4_0, .ref a4_1, .int v4_2, .ref a4_3, .ref a4_4, .ref a4_5, .ref a4_6, .ref a4_7, .int v4_8])), (a4_3, .inl (cyI, 100, .inl g4_3)), (a4_4, .inl (cyI, 100, .inl g4_4)), (a4_5, .inl (cyZ, 100, .inl g4_5)), (a4_6, .inl (cyI, 2000, .inl g4_6)), (a4_7, .inl (cyI, 100, .inl g4_7)), (o0, .inr (0, [.int v0_0, .int v0_1, .int v0_2, .int v0_3, .int v0_4, .ref a0_5, .int v0_6, .ref a0_7, .ref a0_8, .ref a0_9, .int v0_10, .ref a0_11, .ref a0_12, .ref a0_13, .ref a0_14, .int v0_15, .ref a0_16])), (a0_8, .inl (cyI, 1000, .inl g0_8)), (o5, .inr (5, [.ref o7, .ref a5_1, .int v5_2, .int v5_3, .int v5_4, .int v5_5, .int v5_6, .int v5_7, .int v5_8, .int v5_9])), (a5_1, .inl (cyI, 400, .inl g5_1)), (o6, .inr (6, [.ref o7, .ref o4, .ref o0, .ref o5]))]) [0, 1, 2, 3, 6, 7, 8, 9, 10, 11, 13, 15, 16, 17] (by decide) rfl
                          have hFc := va_free (wc := [(o7, .inr (7, [.ref a7_0, .ref a7_1, .int v7_2])), (a7_0, .inl (cyI, 200, .inl g7_0)), (a7_1, .inl (cyZ, 200, .inl g7_1)), (o4, .inr (4, [.ref a4_0, .ref a4_1, .int v4_2, .ref a4_3, .ref a4_4, .ref a4_5, .ref a4_6, .ref a4_7, .int v4_8])), (a4_3, .inl (cyI, 100, .inl g4_3)), (a4_4, .inl (cyI, 100, .inl g4_4)), (a4_5, .inl (cyZ, 100, .inl g4_5)), (a4_6, .inl (cyI, 2000, .inl g4_6)), (a4_7, .inl (cyI, 100, .inl g4_7)), (o0, .inr (0, [.int v0_0, .int v0_1, .int v0_2, .int v0_3, .int v0_4, .ref a0_5, .int v0_6, .ref a0_7, .ref a0_8, .ref a0_9, .int v0_10, .ref a0_11, .ref a0_12, .ref a0_13, .ref a0_14, .int v0_15, .ref a0_16])), (a0_8, .inl (cyI, 1000, .inl g0_8)), (o5, .inr (5, [.ref o7, .ref a5_1, .int v5_2, .int v5_3, .int v5_4, .int v5_5, .int v5_6, .int v5_7, .int v5_8, .int v5_9])), (a5_1, .inl (cyI, 400, .inl g5_1)), (o6, .inr (6, [.ref o7, .ref o4, .ref o0, .ref o5]))]) hD hS hA [0, 1, 2, 3, 6, 7, 8, 9, 10, 11, 13, 15, 16, 17] rfl
                          refine va_callv (va_runV (As := [.int (g0_7 (Int32.toNatClampNeg p1)), .int (g0_8 (Int32.toNatClampNeg p1))]) (rest := []) ⟨hx, hb, hml, hown, hts⟩ (c_X6_invoke l dC dI cyI cyZ cyJ H.size o7 a7_0 a7_1 v7_2 g7_0 g7_1 o4 a4_0 a4_1 v4_2 a4_3 a4_4 a4_5 a4_6 a4_7 v4_8 g4_3 g4_4 g4_5 g4_6 g4_7 o0 v0_0 v0_1 v0_2 v0_3 v0_4 a0_5 v0_6 a0_7 a0_8 a0_9 v0_10 a0_11 a0_12 a0_13 a0_14 v0_15 a0_16 g0_8 o5 a5_1 v5_2 v5_3 v5_4 v5_5 v5_6 v5_7 v5_8 v5_9 g5_1 o6 (g0_7 (Int32.toNatClampNeg p1)) (g0_8 (Int32.toNatClampNeg p1)) r_20 h_20) (cwV 2 hts gX6_step_X6_invoke rfl rfl rfl (by decide +kernel) ⟨Nat.le_of_ble_eq_true rfl, Nat.le_of_ble_eq_true rfl⟩) (x_pVD hN hK hPc hDc (ci := 6) (q0 := 13) rfl rfl) rfl rfl hl.1 rfl (lv_room (Nat.le_of_ble_eq_true rfl)) dX6_step_216 ⟨Nat.le_of_ble_eq_true rfl, Nat.le_of_ble_eq_true rfl⟩) hS (fun q _ h => hFc q h) hFc (fun u t H1 locs ht hvm hw hB hz1 hk1 hS => ?_)
                          obtain ⟨hP1, hK1, hD1⟩ := hB
                          rw [ht] at hP1
                          obtain ⟨hP, hD⟩ := va_join (wr := [(a4_0, .inl (cyI, 100, .inl g4_0)), (a4_1, .inl (cyI, 100, .inl g4_1)), (a0_7, .inl (cyI, 1000, .inl g0_7)), (a0_9, .inl (cyI, 1000, .inl g0_9))]) (w1 := [(o7, .inr (7, [.ref a7_0, .ref a7_1, .int v7_2])), (a7_0, .inl (cyI, 200, .inl g7_0)), (a7_1, .inl (cyZ, 200, .inl g7_1)), (o4, .inr (4, [.ref a4_0, .ref a4_1, .int v4_2, .ref a4_3, .ref a4_4, .ref a4_5, .ref a4_6, .ref a4_7, .int v4_8])), (a4_3, .inl (cyI, 100, .inl g4_3)), (a4_4, .inl (cyI, 100, .inl g4_4)), (a4_5, .inl (cyZ, 100, .inl g4_5)), (a4_6, .inl (cyI, 2000, .inl g4_6)), (a4_7, .inl (cyI, 100, .inl g4_7)), (o0, .inr (0, [.int v0_0, .int v0_1, .int v0_2, .int v0_3, .int v0_4, .ref a0_5, .int v0_6, .ref a0_7, .ref a0_8, .ref a0_9, .int v0_10, .ref a0_11, .ref a0_12, .ref a0_13, .ref a0_14, .int v0_15, .ref a0_16])), (a0_8, .inl (cyI, 1000, .inl g0_8)), (o5, .inr (5, [.ref o7, .ref a5_1, .int v5_2, .int (r_20.1), .int v5_4, .int (r_20.2.1), .int (r_20.2.2.1), .int (r_20.2.2.2.1), .int (r_20.2.2.2.2.1), .int v5_9])), (a5_1, .inl (cyI, 400, .inl r_20.2.2.2.2.2)), (o6, .inr (6, [.ref o7, .ref o4, .ref o0, .ref o5]))]) hP hD [0, 1, 2, 3, 6, 7, 8, 9, 10, 11, 13, 15, 16, 17] [4, 5, 12, 14] rfl rfl (by decide) (by decide) hk1 hFc hP1 hD1
                          clear hz1 hk1 hPc hDc hFc hP1 hK1 hD1 ht hvm t u
                          generalize H1 = H at hP hS ⊢
                          have hP : va_P (dC, dI) vwCl [(a4_0, .inl (cyI, 100, .inl g4_0)), (a4_1, .inl (cyI, 100, .inl g4_1)), (a0_7, .inl (cyI, 1000, .inl g0_7)), (a0_9, .inl (cyI, 1000, .inl g0_9)), (o7, .inr (7, [.ref a7_0, .ref a7_1, .int v7_2])), (a7_0, .inl (cyI, 200, .inl g7_0)), (a7_1, .inl (cyZ, 200, .inl g7_1)), (o4, .inr (4, [.ref a4_0, .ref a4_1, .int v4_2, .ref a4_3, .ref a4_4, .ref a4_5, .ref a4_6, .ref a4_7, .int v4_8])), (a4_3, .inl (cyI, 100, .inl g4_3)), (a4_4, .inl (cyI, 100, .inl g4_4)), (a4_5, .inl (cyZ, 100, .inl g4_5)), (a4_6, .inl (cyI, 2000, .inl g4_6)), (a4_7, .inl (cyI, 100, .inl g4_7)), (o0, .inr (0, [.int v0_0, .int v0_1, .int v0_2, .int v0_3, .int v0_4, .ref a0_5, .int v0_6, .ref a0_7, .ref a0_8, .ref a0_9, .int v0_10, .ref a0_11, .ref a0_12, .ref a0_13, .ref a0_14, .int v0_15, .ref a0_16])), (a0_8, .inl (cyI, 1000, .inl g0_8)), (o5, .inr (5, [.ref o7, .ref a5_1, .int v5_2, .int (r_20.1), .int v5_4, .int (r_20.2.1), .int (r_20.2.2.1), .int (r_20.2.2.2.1), .int (r_20.2.2.2.2.1), .int v5_9])), (a5_1, .inl (cyI, 400, .inl r_20.2.2.2.2.2)), (o6, .inr (6, [.ref o7, .ref o4, .ref o0, .ref o5]))] H := hP
                          have hD : va_D A [(a4_0, .inl (cyI, 100, .inl g4_0)), (a4_1, .inl (cyI, 100, .inl g4_1)), (a0_7, .inl (cyI, 1000, .inl g0_7)), (a0_9, .inl (cyI, 1000, .inl g0_9)), (o7, .inr (7, [.ref a7_0, .ref a7_1, .int v7_2])), (a7_0, .inl (cyI, 200, .inl g7_0)), (a7_1, .inl (cyZ, 200, .inl g7_1)), (o4, .inr (4, [.ref a4_0, .ref a4_1, .int v4_2, .ref a4_3, .ref a4_4, .ref a4_5, .ref a4_6, .ref a4_7, .int v4_8])), (a4_3, .inl (cyI, 100, .inl g4_3)), (a4_4, .inl (cyI, 100, .inl g4_4)), (a4_5, .inl (cyZ, 100, .inl g4_5)), (a4_6, .inl (cyI, 2000, .inl g4_6)), (a4_7, .inl (cyI, 100, .inl g4_7)), (o0, .inr (0, [.int v0_0, .int v0_1, .int v0_2, .int v0_3, .int v0_4, .ref a0_5, .int v0_6, .ref a0_7, .ref a0_8, .ref a0_9, .int v0_10, .ref a0_11, .ref a0_12, .ref a0_13, .ref a0_14, .int v0_15, .ref a0_16])), (a0_8, .inl (cyI, 1000, .inl g0_8)), (o5, .inr (5, [.ref o7, .ref a5_1, .int v5_2, .int (r_20.1), .int v5_4, .int (r_20.2.1), .int (r_20.2.2.1), .int (r_20.2.2.2.1), .int (r_20.2.2.2.2.1), .int v5_9])), (a5_1, .inl (cyI, 400, .inl r_20.2.2.2.2.2)), (o6, .inr (6, [.ref o7, .ref o4, .ref o0, .ref o5]))] := hD
                          refine lv_goto (tgt := 250) hx hb dX6_step_219 (by decide) ?_
                          obtain rfl := Option.some.inj hf
                          have hP9 := hP.sub (ws' := [(o7, .inr (7, [.ref a7_0, .ref a7_1, .int v7_2])), (a7_0, .inl (cyI, 200, .inl g7_0)), (a7_1, .inl (cyZ, 200, .inl g7_1)), (o4, .inr (4, [.ref a4_0, .ref a4_1, .int v4_2, .ref a4_3, .ref a4_4, .ref a4_5, .ref a4_6, .ref a4_7, .int v4_8])), (a4_0, .inl (cyI, 100, .inl g4_0)), (a4_1, .inl (cyI, 100, .inl g4_1)), (a4_3, .inl (cyI, 100, .inl g4_3)), (a4_4, .inl (cyI, 100, .inl g4_4)), (a4_5, .inl (cyZ, 100, .inl g4_5)), (a4_6, .inl (cyI, 2000, .inl g4_6)), (a4_7, .inl (cyI, 100, .inl g4_7)), (o0, .inr (0, [.int v0_0, .int v0_1, .int v0_2, .int v0_3, .int v0_4, .ref a0_5, .int v0_6, .ref a0_7, .ref a0_8, .ref a0_9, .int v0_10, .ref a0_11, .ref a0_12, .ref a0_13, .ref a0_14, .int v0_15, .ref a0_16])), (a0_7, .inl (cyI, 1000, .inl g0_7)), (a0_8, .inl (cyI, 1000, .inl g0_8)), (a0_9, .inl (cyI, 1000, .inl g0_9)), (o5, .inr (5, [.ref o7, .ref a5_1, .int v5_2, .int (r_20.1), .int v5_4, .int (r_20.2.1), .int (r_20.2.2.1), .int (r_20.2.2.2.1), .int (r_20.2.2.2.2.1), .int v5_9])), (a5_1, .inl (cyI, 400, .inl r_20.2.2.2.2.2)), (o6, .inr (6, [.ref o7, .ref o4, .ref o0, .ref o5]))]) [4, 5, 6, 7, 0, 1, 8, 9, 10, 11, 12, 13, 2, 14, 3, 15, 16, 17] rfl
                          have hD9 := hD.sub (ws' := [(o7, .inr (7, [.ref a7_0, .ref a7_1, .int v7_2])), (a7_0, .inl (cyI, 200, .inl g7_0)), (a7_1, .inl (cyZ, 200, .inl g7_1)), (o4, .inr (4, [.ref a4_0, .ref a4_1, .int v4_2, .ref a4_3, .ref a4_4, .ref a4_5, .ref a4_6, .ref a4_7, .int v4_8])), (a4_0, .inl (cyI, 100, .inl g4_0)), (a4_1, .inl (cyI, 100, .inl g4_1)), (a4_3, .inl (cyI, 100, .inl g4_3)), (a4_4, .inl (cyI, 100, .inl g4_4)), (a4_5, .inl (cyZ, 100, .inl g4_5)), (a4_6, .inl (cyI, 2000, .inl g4_6)), (a4_7, .inl (cyI, 100, .inl g4_7)), (o0, .inr (0, [.int v0_0, .int v0_1, .int v0_2, .int v0_3, .int v0_4, .ref a0_5, .int v0_6, .ref a0_7, .ref a0_8, .ref a0_9, .int v0_10, .ref a0_11, .ref a0_12, .ref a0_13, .ref a0_14, .int v0_15, .ref a0_16])), (a0_7, .inl (cyI, 1000, .inl g0_7)), (a0_8, .inl (cyI, 1000, .inl g0_8)), (a0_9, .inl (cyI, 1000, .inl g0_9)), (o5, .inr (5, [.ref o7, .ref a5_1, .int v5_2, .int (r_20.1), .int v5_4, .int (r_20.2.1), .int (r_20.2.2.1), .int (r_20.2.2.2.1), .int (r_20.2.2.2.2.1), .int v5_9])), (a5_1, .inl (cyI, 400, .inl r_20.2.2.2.2.2)), (o6, .inr (6, [.ref o7, .ref o4, .ref o0, .ref o5]))]) [4, 5, 6, 7, 0, 1, 8, 9, 10, 11, 12, 13, 2, 14, 3, 15, 16, 17] (by decide) rfl
                          exact W.vret hx hb hr (fun t ht hW => ⟨⟨(), rfl, trivial, by rw [ht]; exact hP9, va_K.moved hW.alike hK, hD9⟩, hS.F ht⟩) hS.2.2 dX6_step_250
                      · replace hf := x_in c_13 hf
                        refine lv_aload_n hx hb dX6_step_197 rfl (lv_at hl 2 rfl) ?_
                        refine lv_iload_n hx hb dX6_step_198 rfl (lv_at hl 1 rfl) ?_
                        refine lv_iload_n hx hb dX6_step_199 rfl (lv_at hl 0 rfl) ?_
                        obtain ⟨r_21, h_21, hf⟩ := x_bi hf
                        have hPc := hP.sub (ws' := [(o7, .inr (7, [.ref a7_0, .ref a7_1, .int v7_2])), (a7_0, .inl (cyI, 200, .inl g7_0)), (a7_1, .inl (cyZ, 200, .inl g7_1)), (o4, .inr (4, [.ref a4_0, .ref a4_1, .int v4_2, .ref a4_3, .ref a4_4, .ref a4_5, .ref a4_6, .ref a4_7, .int v4_8])), (a4_0, .inl (cyI, 100, .inl g4_0)), (a4_1, .inl (cyI, 100, .inl g4_1)), (o0, .inr (0, [.int v0_0, .int v0_1, .int v0_2, .int v0_3, .int v0_4, .ref a0_5, .int v0_6, .ref a0_7, .ref a0_8, .ref a0_9, .int v0_10, .ref a0_11, .ref a0_12, .ref a0_13, .ref a0_14, .int v0_15, .ref a0_16])), (o5, .inr (5, [.ref o7, .ref a5_1, .int v5_2, .int v5_3, .int v5_4, .int v5_5, .int v5_6, .int v5_7, .int v5_8, .int v5_9])), (a5_1, .inl (cyI, 400, .inl g5_1)), (o6, .inr (6, [.ref o7, .ref o4, .ref o0, .ref o5]))]) [0, 1, 2, 3, 4, 5, 11, 15, 16, 17] rfl
                        have hDc := hD.sub (ws' := [(o7, .inr (7, [.ref a7_0, .ref a7_1, .int v7_2])), (a7_0, .inl (cyI, 200, .inl g7_0)), (a7_1, .inl (cyZ, 200, .inl g7_1)), (o4, .inr (4, [.ref a4_0, .ref a4_1, .int v4_2, .ref a4_3, .ref a4_4, .ref a4_5, .ref a4_6, .ref a4_7, .int v4_8])), (a4_0, .inl (cyI, 100, .inl g4_0)), (a4_1, .inl (cyI, 100, .inl g4_1)), (o0, .inr (0, [.int v0_0, .int v0_1, .int v0_2, .int v0_3, .int v0_4, .ref a0_5, .int v0_6, .ref a0_7, .ref a0_8, .ref a0_9, .int v0_10, .ref a0_11, .ref a0_12, .ref a0_13, .ref a0_14, .int v0_15, .ref a0_16])), (o5, .inr (5, [.ref o7, .ref a5_1, .int v5_2, .int v5_3, .int v5_4, .int v5_5, .int v5_6, .int v5_7, .int v5_8, .int v5_9])), (a5_1, .inl (cyI, 400, .inl g5_1)), (o6, .inr (6, [.ref o7, .ref o4, .ref o0, .ref o5]))]) [0, 1, 2, 3, 4, 5, 11, 15, 16, 17] (by decide) rfl
                        have hFc := va_free (wc := [(o7, .inr (7, [.ref a7_0, .ref a7_1, .int v7_2])), (a7_0, .inl (cyI, 200, .inl g7_0)), (a7_1, .inl (cyZ, 200, .inl g7_1)), (o4, .inr (4, [.ref a4_0, .ref a4_1, .int v4_2, .ref a4_3, .ref a4_4, .ref a4_5, .ref a4_6, .ref a4_7, .int v4_8])), (a4_0, .inl (cyI, 100, .inl g4_0)), (a4_1, .inl (cyI, 100, .inl g4_1)), (o0, .inr (0, [.int v0_0, .int v0_1, .int v0_2, .int v0_3, .int v0_4, .ref a0_5, .int v0_6, .ref a0_7, .ref a0_8, .ref a0_9, .int v0_10, .ref a0_11, .ref a0_12, .ref a0_13, .ref a0_14, .int v0_15, .ref a0_16])), (o5, .inr (5, [.ref o7, .ref a5_1, .int v5_2, .int v5_3, .int v5_4, .int v5_5, .int v5_6, .int v5_7, .int v5_8, .int v5_9])), (a5_1, .inl (cyI, 400, .inl g5_1)), (o6, .inr (6, [.ref o7, .ref o4, .ref o0, .ref o5]))]) hD hS hA [0, 1, 2, 3, 4, 5, 11, 15, 16, 17] rfl
                        refine va_callv (va_runV (As := [.int (g0_7 (Int32.toNatClampNeg p1)), .int (g0_8 (Int32.toNatClampNeg p1))]) (rest := []) ⟨hx, hb, hml, hown, hts⟩ (c_X6_useField l dC dI cyI cyZ cyJ H.size o7 a7_0 a7_1 v7_2 g7_0 g7_1 o4 a4_0 a4_1 v4_2 a4_3 a4_4 a4_5 a4_6 a4_7 v4_8 g4_0 g4_1 o0 v0_0 v0_1 v0_2 v0_3 v0_4 a0_5 v0_6 a0_7 a0_8 a0_9 v0_10 a0_11 a0_12 a0_13 a0_14 v0_15 a0_16 o5 a5_1 v5_2 v5_3 v5_4 v5_5 v5_6 v5_7 v5_8 v5_9 g5_1 o6 (g0_7 (Int32.toNatClampNeg p1)) (g0_8 (Int32.toNatClampNeg p1)) r_21 h_21) (cwV 2 hts gX6_step_X6_useField rfl rfl rfl (by decide +kernel) ⟨Nat.le_of_ble_eq_true rfl, Nat.le_of_ble_eq_true rfl⟩) (x_pVD hN hK hPc hDc (ci := 6) (q0 := 9) rfl rfl) rfl rfl hl.1 rfl (lv_room (Nat.le_of_ble_eq_true rfl)) dX6_step_200 ⟨Nat.le_of_ble_eq_true rfl, Nat.le_of_ble_eq_true rfl⟩) hS (fun q _ h => hFc q h) hFc (fun u t H1 locs ht hvm hw hB hz1 hk1 hS => ?_)
                        obtain ⟨hP1, hK1, hD1⟩ := hB
                        rw [ht] at hP1
                        obtain ⟨hP, hD⟩ := va_join (wr := [(a4_3, .inl (cyI, 100, .inl g4_3)), (a4_4, .inl (cyI, 100, .inl g4_4)), (a4_5, .inl (cyZ, 100, .inl g4_5)), (a4_6, .inl (cyI, 2000, .inl g4_6)), (a4_7, .inl (cyI, 100, .inl g4_7)), (a0_7, .inl (cyI, 1000, .inl g0_7)), (a0_8, .inl (cyI, 1000, .inl g0_8)), (a0_9, .inl (cyI, 1000, .inl g0_9))]) (w1 := [(o7, .inr (7, [.ref a7_0, .ref a7_1, .int v7_2])), (a7_0, .inl (cyI, 200, .inl g7_0)), (a7_1, .inl (cyZ, 200, .inl g7_1)), (o4, .inr (4, [.ref a4_0, .ref a4_1, .int v4_2, .ref a4_3, .ref a4_4, .ref a4_5, .ref a4_6, .ref a4_7, .int v4_8])), (a4_0, .inl (cyI, 100, .inl g4_0)), (a4_1, .inl (cyI, 100, .inl g4_1)), (o0, .inr (0, [.int v0_0, .int v0_1, .int v0_2, .int v0_3, .int v0_4, .ref a0_5, .int v0_6, .ref a0_7, .ref a0_8, .ref a0_9, .int v0_10, .ref a0_11, .ref a0_12, .ref a0_13, .ref a0_14, .int v0_15, .ref a0_16])), (o5, .inr (5, [.ref o7, .ref a5_1, .int v5_2, .int (r_21.1), .int v5_4, .int v5_5, .int (r_21.2.1), .int v5_7, .int (r_21.2.2.1), .int v5_9])), (a5_1, .inl (cyI, 400, .inl r_21.2.2.2)), (o6, .inr (6, [.ref o7, .ref o4, .ref o0, .ref o5]))]) hP hD [0, 1, 2, 3, 4, 5, 11, 15, 16, 17] [6, 7, 8, 9, 10, 12, 13, 14] rfl rfl (by decide) (by decide) hk1 hFc hP1 hD1
                        clear hz1 hk1 hPc hDc hFc hP1 hK1 hD1 ht hvm t u
                        generalize H1 = H at hP hS ⊢
                        have hP : va_P (dC, dI) vwCl [(a4_3, .inl (cyI, 100, .inl g4_3)), (a4_4, .inl (cyI, 100, .inl g4_4)), (a4_5, .inl (cyZ, 100, .inl g4_5)), (a4_6, .inl (cyI, 2000, .inl g4_6)), (a4_7, .inl (cyI, 100, .inl g4_7)), (a0_7, .inl (cyI, 1000, .inl g0_7)), (a0_8, .inl (cyI, 1000, .inl g0_8)), (a0_9, .inl (cyI, 1000, .inl g0_9)), (o7, .inr (7, [.ref a7_0, .ref a7_1, .int v7_2])), (a7_0, .inl (cyI, 200, .inl g7_0)), (a7_1, .inl (cyZ, 200, .inl g7_1)), (o4, .inr (4, [.ref a4_0, .ref a4_1, .int v4_2, .ref a4_3, .ref a4_4, .ref a4_5, .ref a4_6, .ref a4_7, .int v4_8])), (a4_0, .inl (cyI, 100, .inl g4_0)), (a4_1, .inl (cyI, 100, .inl g4_1)), (o0, .inr (0, [.int v0_0, .int v0_1, .int v0_2, .int v0_3, .int v0_4, .ref a0_5, .int v0_6, .ref a0_7, .ref a0_8, .ref a0_9, .int v0_10, .ref a0_11, .ref a0_12, .ref a0_13, .ref a0_14, .int v0_15, .ref a0_16])), (o5, .inr (5, [.ref o7, .ref a5_1, .int v5_2, .int (r_21.1), .int v5_4, .int v5_5, .int (r_21.2.1), .int v5_7, .int (r_21.2.2.1), .int v5_9])), (a5_1, .inl (cyI, 400, .inl r_21.2.2.2)), (o6, .inr (6, [.ref o7, .ref o4, .ref o0, .ref o5]))] H := hP
                        have hD : va_D A [(a4_3, .inl (cyI, 100, .inl g4_3)), (a4_4, .inl (cyI, 100, .inl g4_4)), (a4_5, .inl (cyZ, 100, .inl g4_5)), (a4_6, .inl (cyI, 2000, .inl g4_6)), (a4_7, .inl (cyI, 100, .inl g4_7)), (a0_7, .inl (cyI, 1000, .inl g0_7)), (a0_8, .inl (cyI, 1000, .inl g0_8)), (a0_9, .inl (cyI, 1000, .inl g0_9)), (o7, .inr (7, [.ref a7_0, .ref a7_1, .int v7_2])), (a7_0, .inl (cyI, 200, .inl g7_0)), (a7_1, .inl (cyZ, 200, .inl g7_1)), (o4, .inr (4, [.ref a4_0, .ref a4_1, .int v4_2, .ref a4_3, .ref a4_4, .ref a4_5, .ref a4_6, .ref a4_7, .int v4_8])), (a4_0, .inl (cyI, 100, .inl g4_0)), (a4_1, .inl (cyI, 100, .inl g4_1)), (o0, .inr (0, [.int v0_0, .int v0_1, .int v0_2, .int v0_3, .int v0_4, .ref a0_5, .int v0_6, .ref a0_7, .ref a0_8, .ref a0_9, .int v0_10, .ref a0_11, .ref a0_12, .ref a0_13, .ref a0_14, .int v0_15, .ref a0_16])), (o5, .inr (5, [.ref o7, .ref a5_1, .int v5_2, .int (r_21.1), .int v5_4, .int v5_5, .int (r_21.2.1), .int v5_7, .int (r_21.2.2.1), .int v5_9])), (a5_1, .inl (cyI, 400, .inl r_21.2.2.2)), (o6, .inr (6, [.ref o7, .ref o4, .ref o0, .ref o5]))] := hD
                        refine lv_goto (tgt := 250) hx hb dX6_step_203 (by decide) ?_
                        obtain rfl := Option.some.inj hf
                        have hP9 := hP.sub (ws' := [(o7, .inr (7, [.ref a7_0, .ref a7_1, .int v7_2])), (a7_0, .inl (cyI, 200, .inl g7_0)), (a7_1, .inl (cyZ, 200, .inl g7_1)), (o4, .inr (4, [.ref a4_0, .ref a4_1, .int v4_2, .ref a4_3, .ref a4_4, .ref a4_5, .ref a4_6, .ref a4_7, .int v4_8])), (a4_0, .inl (cyI, 100, .inl g4_0)), (a4_1, .inl (cyI, 100, .inl g4_1)), (a4_3, .inl (cyI, 100, .inl g4_3)), (a4_4, .inl (cyI, 100, .inl g4_4)), (a4_5, .inl (cyZ, 100, .inl g4_5)), (a4_6, .inl (cyI, 2000, .inl g4_6)), (a4_7, .inl (cyI, 100, .inl g4_7)), (o0, .inr (0, [.int v0_0, .int v0_1, .int v0_2, .int v0_3, .int v0_4, .ref a0_5, .int v0_6, .ref a0_7, .ref a0_8, .ref a0_9, .int v0_10, .ref a0_11, .ref a0_12, .ref a0_13, .ref a0_14, .int v0_15, .ref a0_16])), (a0_7, .inl (cyI, 1000, .inl g0_7)), (a0_8, .inl (cyI, 1000, .inl g0_8)), (a0_9, .inl (cyI, 1000, .inl g0_9)), (o5, .inr (5, [.ref o7, .ref a5_1, .int v5_2, .int (r_21.1), .int v5_4, .int v5_5, .int (r_21.2.1), .int v5_7, .int (r_21.2.2.1), .int v5_9])), (a5_1, .inl (cyI, 400, .inl r_21.2.2.2)), (o6, .inr (6, [.ref o7, .ref o4, .ref o0, .ref o5]))]) [8, 9, 10, 11, 12, 13, 0, 1, 2, 3, 4, 14, 5, 6, 7, 15, 16, 17] rfl
                        have hD9 := hD.sub (ws' := [(o7, .inr (7, [.ref a7_0, .ref a7_1, .int v7_2])), (a7_0, .inl (cyI, 200, .inl g7_0)), (a7_1, .inl (cyZ, 200, .inl g7_1)), (o4, .inr (4, [.ref a4_0, .ref a4_1, .int v4_2, .ref a4_3, .ref a4_4, .ref a4_5, .ref a4_6, .ref a4_7, .int v4_8])), (a4_0, .inl (cyI, 100, .inl g4_0)), (a4_1, .inl (cyI, 100, .inl g4_1)), (a4_3, .inl (cyI, 100, .inl g4_3)), (a4_4, .inl (cyI, 100, .inl g4_4)), (a4_5, .inl (cyZ, 100, .inl g4_5)), (a4_6, .inl (cyI, 2000, .inl g4_6)), (a4_7, .inl (cyI, 100, .inl g4_7)), (o0, .inr (0, [.int v0_0, .int v0_1, .int v0_2, .int v0_3, .int v0_4, .ref a0_5, .int v0_6, .ref a0_7, .ref a0_8, .ref a0_9, .int v0_10, .ref a0_11, .ref a0_12, .ref a0_13, .ref a0_14, .int v0_15, .ref a0_16])), (a0_7, .inl (cyI, 1000, .inl g0_7)), (a0_8, .inl (cyI, 1000, .inl g0_8)), (a0_9, .inl (cyI, 1000, .inl g0_9)), (o5, .inr (5, [.ref o7, .ref a5_1, .int v5_2, .int (r_21.1), .int v5_4, .int v5_5, .int (r_21.2.1), .int v5_7, .int (r_21.2.2.1), .int v5_9])), (a5_1, .inl (cyI, 400, .inl r_21.2.2.2)), (o6, .inr (6, [.ref o7, .ref o4, .ref o0, .ref o5]))]) [8, 9, 10, 11, 12, 13, 0, 1, 2, 3, 4, 14, 5, 6, 7, 15, 16, 17] (by decide) rfl
                        exact W.vret hx hb hr (fun t ht hW => ⟨⟨(), rfl, trivial, by rw [ht]; exact hP9, va_K.moved hW.alike hK, hD9⟩, hS.F ht⟩) hS.2.2 dX6_step_250
                    · replace hf := x_in c_12 hf
                      refine lv_aload_n hx hb dX6_step_178 rfl (lv_at hl 2 rfl) ?_
                      refine lv_iload_n hx hb dX6_step_179 rfl (lv_at hl 1 rfl) ?_
                      refine lv_sipush (v := 172) hx hb dX6_step_180 (by decide) ?_
                      refine lv_isub hx hb dX6_step_183 ?_
                      obtain ⟨r_22, h_22, hf⟩ := x_bi hf
                      have hPc := hP.sub (ws' := [(o7, .inr (7, [.ref a7_0, .ref a7_1, .int v7_2])), (a7_0, .inl (cyI, 200, .inl g7_0)), (a7_1, .inl (cyZ, 200, .inl g7_1)), (o0, .inr (0, [.int v0_0, .int v0_1, .int v0_2, .int v0_3, .int v0_4, .ref a0_5, .int v0_6, .ref a0_7, .ref a0_8, .ref a0_9, .int v0_10, .ref a0_11, .ref a0_12, .ref a0_13, .ref a0_14, .int v0_15, .ref a0_16])), (o5, .inr (5, [.ref o7, .ref a5_1, .int v5_2, .int v5_3, .int v5_4, .int v5_5, .int v5_6, .int v5_7, .int v5_8, .int v5_9])), (a5_1, .inl (cyI, 400, .inl g5_1)), (o6, .inr (6, [.ref o7, .ref o4, .ref o0, .ref o5]))]) [0, 1, 2, 11, 15, 16, 17] rfl
                      have hDc := hD.sub (ws' := [(o7, .inr (7, [.ref a7_0, .ref a7_1, .int v7_2])), (a7_0, .inl (cyI, 200, .inl g7_0)), (a7_1, .inl (cyZ, 200, .inl g7_1)), (o0, .inr (0, [.int v0_0, .int v0_1, .int v0_2, .int v0_3, .int v0_4, .ref a0_5, .int v0_6, .ref a0_7, .ref a0_8, .ref a0_9, .int v0_10, .ref a0_11, .ref a0_12, .ref a0_13, .ref a0_14, .int v0_15, .ref a0_16])), (o5, .inr (5, [.ref o7, .ref a5_1, .int v5_2, .int v5_3, .int v5_4, .int v5_5, .int v5_6, .int v5_7, .int v5_8, .int v5_9])), (a5_1, .inl (cyI, 400, .inl g5_1)), (o6, .inr (6, [.ref o7, .ref o4, .ref o0, .ref o5]))]) [0, 1, 2, 11, 15, 16, 17] (by decide) rfl
                      have hFc := va_free (wc := [(o7, .inr (7, [.ref a7_0, .ref a7_1, .int v7_2])), (a7_0, .inl (cyI, 200, .inl g7_0)), (a7_1, .inl (cyZ, 200, .inl g7_1)), (o0, .inr (0, [.int v0_0, .int v0_1, .int v0_2, .int v0_3, .int v0_4, .ref a0_5, .int v0_6, .ref a0_7, .ref a0_8, .ref a0_9, .int v0_10, .ref a0_11, .ref a0_12, .ref a0_13, .ref a0_14, .int v0_15, .ref a0_16])), (o5, .inr (5, [.ref o7, .ref a5_1, .int v5_2, .int v5_3, .int v5_4, .int v5_5, .int v5_6, .int v5_7, .int v5_8, .int v5_9])), (a5_1, .inl (cyI, 400, .inl g5_1)), (o6, .inr (6, [.ref o7, .ref o4, .ref o0, .ref o5]))]) hD hS hA [0, 1, 2, 11, 15, 16, 17] rfl
                      refine va_callv (va_runV (As := [.int ((g0_7 (Int32.toNatClampNeg p1)) - (172 : Int32))]) (rest := []) ⟨hx, hb, hml, hown, hts⟩ (c_X6_leave l dC dI cyI cyZ cyJ H.size base o7 a7_0 a7_1 v7_2 g7_0 g7_1 o0 v0_0 v0_1 v0_2 v0_3 v0_4 a0_5 v0_6 a0_7 a0_8 a0_9 v0_10 a0_11 a0_12 a0_13 a0_14 v0_15 a0_16 o5 a5_1 v5_2 v5_3 v5_4 v5_5 v5_6 v5_7 v5_8 v5_9 g5_1 o6 o4 ((g0_7 (Int32.toNatClampNeg p1)) - (172 : Int32)) r_22 h_22) (cwV 1 hts gX6_step_X6_leave rfl rfl rfl (by decide +kernel) ⟨Nat.le_of_ble_eq_true rfl, Nat.le_of_ble_eq_true rfl⟩) (x_pVT hT hN hK hPc (hDc.weaken (fun _ _ _ h8 => hAb _ h8)) hbz hS.1 (fun q h1 h2 => hS.2.1 q h1 (fun h9 => h2 (hAb q h9))) (ci := 6) (q0 := 6) rfl rfl) rfl rfl hl.1 rfl (lv_room (Nat.le_of_ble_eq_true rfl)) dX6_step_184 ⟨Nat.le_of_ble_eq_true rfl, Nat.le_of_ble_eq_true rfl⟩) hS (fun q _ h => hFc q h) hFc (fun u t H1 locs ht hvm hw hB hz1 hk1 hS => ?_)
                      obtain ⟨hP1, hK1, hD1⟩ := hB
                      rw [ht] at hP1
                      obtain ⟨hP, hD⟩ := va_join (wr := [(o4, .inr (4, [.ref a4_0, .ref a4_1, .int v4_2, .ref a4_3, .ref a4_4, .ref a4_5, .ref a4_6, .ref a4_7, .int v4_8])), (a4_0, .inl (cyI, 100, .inl g4_0)), (a4_1, .inl (cyI, 100, .inl g4_1)), (a4_3, .inl (cyI, 100, .inl g4_3)), (a4_4, .inl (cyI, 100, .inl g4_4)), (a4_5, .inl (cyZ, 100, .inl g4_5)), (a4_6, .inl (cyI, 2000, .inl g4_6)), (a4_7, .inl (cyI, 100, .inl g4_7)), (a0_7, .inl (cyI, 1000, .inl g0_7)), (a0_8, .inl (cyI, 1000, .inl g0_8)), (a0_9, .inl (cyI, 1000, .inl g0_9))]) (w1 := [(o7, .inr (7, [.ref a7_0, .ref a7_1, .int v7_2])), (a7_0, .inl (cyI, 200, .inl g7_0)), (a7_1, .inl (cyZ, 200, .inl g7_1)), (o0, .inr (0, [.int v0_0, .int v0_1, .int v0_2, .int v0_3, .int v0_4, .ref a0_5, .int v0_6, .ref a0_7, .ref a0_8, .ref a0_9, .int v0_10, .ref a0_11, .ref a0_12, .ref a0_13, .ref a0_14, .int v0_15, .ref a0_16])), (o5, .inr (5, [.ref o7, .ref a5_1, .int v5_2, .int (r_22.1), .int v5_4, .int v5_5, .int (r_22.2.1), .int v5_7, .int (r_22.2.2), .int v5_9])), (a5_1, .inl (cyI, 400, .inl g5_1)), (o6, .inr (6, [.ref o7, .ref o4, .ref o0, .ref o5]))]) hP hD [0, 1, 2, 11, 15, 16, 17] [3, 4, 5, 6, 7, 8, 9, 10, 12, 13, 14] rfl rfl (by decide) (by decide) hk1 hFc hP1 hD1
                      clear hz1 hk1 hPc hDc hFc hP1 hK1 hD1 ht hvm t u
                      generalize H1 = H at hP hS ⊢
                      have hP : va_P (dC, dI) vwCl [(o4, .inr (4, [.ref a4_0, .ref a4_1, .int v4_2, .ref a4_3, .ref a4_4, .ref a4_5, .ref a4_6, .ref a4_7, .int v4_8])), (a4_0, .inl (cyI, 100, .inl g4_0)), (a4_1, .inl (cyI, 100, .inl g4_1)), (a4_3, .inl (cyI, 100, .inl g4_3)), (a4_4, .inl (cyI, 100, .inl g4_4)), (a4_5, .inl (cyZ, 100, .inl g4_5)), (a4_6, .inl (cyI, 2000, .inl g4_6)), (a4_7, .inl (cyI, 100, .inl g4_7)), (a0_7, .inl (cyI, 1000, .inl g0_7)), (a0_8, .inl (cyI, 1000, .inl g0_8)), (a0_9, .inl (cyI, 1000, .inl g0_9)), (o7, .inr (7, [.ref a7_0, .ref a7_1, .int v7_2])), (a7_0, .inl (cyI, 200, .inl g7_0)), (a7_1, .inl (cyZ, 200, .inl g7_1)), (o0, .inr (0, [.int v0_0, .int v0_1, .int v0_2, .int v0_3, .int v0_4, .ref a0_5, .int v0_6, .ref a0_7, .ref a0_8, .ref a0_9, .int v0_10, .ref a0_11, .ref a0_12, .ref a0_13, .ref a0_14, .int v0_15, .ref a0_16])), (o5, .inr (5, [.ref o7, .ref a5_1, .int v5_2, .int (r_22.1), .int v5_4, .int v5_5, .int (r_22.2.1), .int v5_7, .int (r_22.2.2), .int v5_9])), (a5_1, .inl (cyI, 400, .inl g5_1)), (o6, .inr (6, [.ref o7, .ref o4, .ref o0, .ref o5]))] H := hP
                      have hD : va_D A [(o4, .inr (4, [.ref a4_0, .ref a4_1, .int v4_2, .ref a4_3, .ref a4_4, .ref a4_5, .ref a4_6, .ref a4_7, .int v4_8])), (a4_0, .inl (cyI, 100, .inl g4_0)), (a4_1, .inl (cyI, 100, .inl g4_1)), (a4_3, .inl (cyI, 100, .inl g4_3)), (a4_4, .inl (cyI, 100, .inl g4_4)), (a4_5, .inl (cyZ, 100, .inl g4_5)), (a4_6, .inl (cyI, 2000, .inl g4_6)), (a4_7, .inl (cyI, 100, .inl g4_7)), (a0_7, .inl (cyI, 1000, .inl g0_7)), (a0_8, .inl (cyI, 1000, .inl g0_8)), (a0_9, .inl (cyI, 1000, .inl g0_9)), (o7, .inr (7, [.ref a7_0, .ref a7_1, .int v7_2])), (a7_0, .inl (cyI, 200, .inl g7_0)), (a7_1, .inl (cyZ, 200, .inl g7_1)), (o0, .inr (0, [.int v0_0, .int v0_1, .int v0_2, .int v0_3, .int v0_4, .ref a0_5, .int v0_6, .ref a0_7, .ref a0_8, .ref a0_9, .int v0_10, .ref a0_11, .ref a0_12, .ref a0_13, .ref a0_14, .int v0_15, .ref a0_16])), (o5, .inr (5, [.ref o7, .ref a5_1, .int v5_2, .int (r_22.1), .int v5_4, .int v5_5, .int (r_22.2.1), .int v5_7, .int (r_22.2.2), .int v5_9])), (a5_1, .inl (cyI, 400, .inl g5_1)), (o6, .inr (6, [.ref o7, .ref o4, .ref o0, .ref o5]))] := hD
                      refine lv_goto (tgt := 250) hx hb dX6_step_187 (by decide) ?_
                      obtain rfl := Option.some.inj hf
                      have hP9 := hP.sub (ws' := [(o7, .inr (7, [.ref a7_0, .ref a7_1, .int v7_2])), (a7_0, .inl (cyI, 200, .inl g7_0)), (a7_1, .inl (cyZ, 200, .inl g7_1)), (o4, .inr (4, [.ref a4_0, .ref a4_1, .int v4_2, .ref a4_3, .ref a4_4, .ref a4_5, .ref a4_6, .ref a4_7, .int v4_8])), (a4_0, .inl (cyI, 100, .inl g4_0)), (a4_1, .inl (cyI, 100, .inl g4_1)), (a4_3, .inl (cyI, 100, .inl g4_3)), (a4_4, .inl (cyI, 100, .inl g4_4)), (a4_5, .inl (cyZ, 100, .inl g4_5)), (a4_6, .inl (cyI, 2000, .inl g4_6)), (a4_7, .inl (cyI, 100, .inl g4_7)), (o0, .inr (0, [.int v0_0, .int v0_1, .int v0_2, .int v0_3, .int v0_4, .ref a0_5, .int v0_6, .ref a0_7, .ref a0_8, .ref a0_9, .int v0_10, .ref a0_11, .ref a0_12, .ref a0_13, .ref a0_14, .int v0_15, .ref a0_16])), (a0_7, .inl (cyI, 1000, .inl g0_7)), (a0_8, .inl (cyI, 1000, .inl g0_8)), (a0_9, .inl (cyI, 1000, .inl g0_9)), (o5, .inr (5, [.ref o7, .ref a5_1, .int v5_2, .int (r_22.1), .int v5_4, .int v5_5, .int (r_22.2.1), .int v5_7, .int (r_22.2.2), .int v5_9])), (a5_1, .inl (cyI, 400, .inl g5_1)), (o6, .inr (6, [.ref o7, .ref o4, .ref o0, .ref o5]))]) [11, 12, 13, 0, 1, 2, 3, 4, 5, 6, 7, 14, 8, 9, 10, 15, 16, 17] rfl
                      have hD9 := hD.sub (ws' := [(o7, .inr (7, [.ref a7_0, .ref a7_1, .int v7_2])), (a7_0, .inl (cyI, 200, .inl g7_0)), (a7_1, .inl (cyZ, 200, .inl g7_1)), (o4, .inr (4, [.ref a4_0, .ref a4_1, .int v4_2, .ref a4_3, .ref a4_4, .ref a4_5, .ref a4_6, .ref a4_7, .int v4_8])), (a4_0, .inl (cyI, 100, .inl g4_0)), (a4_1, .inl (cyI, 100, .inl g4_1)), (a4_3, .inl (cyI, 100, .inl g4_3)), (a4_4, .inl (cyI, 100, .inl g4_4)), (a4_5, .inl (cyZ, 100, .inl g4_5)), (a4_6, .inl (cyI, 2000, .inl g4_6)), (a4_7, .inl (cyI, 100, .inl g4_7)), (o0, .inr (0, [.int v0_0, .int v0_1, .int v0_2, .int v0_3, .int v0_4, .ref a0_5, .int v0_6, .ref a0_7, .ref a0_8, .ref a0_9, .int v0_10, .ref a0_11, .ref a0_12, .ref a0_13, .ref a0_14, .int v0_15, .ref a0_16])), (a0_7, .inl (cyI, 1000, .inl g0_7)), (a0_8, .inl (cyI, 1000, .inl g0_8)), (a0_9, .inl (cyI, 1000, .inl g0_9)), (o5, .inr (5, [.ref o7, .ref a5_1, .int v5_2, .int (r_22.1), .int v5_4, .int v5_5, .int (r_22.2.1), .int v5_7, .int (r_22.2.2), .int v5_9])), (a5_1, .inl (cyI, 400, .inl g5_1)), (o6, .inr (6, [.ref o7, .ref o4, .ref o0, .ref o5]))]) [11, 12, 13, 0, 1, 2, 3, 4, 5, 6, 7, 14, 8, 9, 10, 15, 16, 17] (by decide) rfl
                      exact W.vret hx hb hr (fun t ht hW => ⟨⟨(), rfl, trivial, by rw [ht]; exact hP9, va_K.moved hW.alike hK, hD9⟩, hS.F ht⟩) hS.2.2 dX6_step_250
                  · replace hf := x_in c_11 hf
                    refine lv_aload_n hx hb dX6_step_163 rfl (lv_at hl 2 rfl) ?_
                    refine lv_iload_n hx hb dX6_step_164 rfl (lv_at hl 3 rfl) ?_
                    obtain ⟨r_23, h_23, hf⟩ := x_bi hf
                    have hPc := hP.sub (ws' := [(o0, .inr (0, [.int v0_0, .int v0_1, .int v0_2, .int v0_3, .int v0_4, .ref a0_5, .int v0_6, .ref a0_7, .ref a0_8, .ref a0_9, .int v0_10, .ref a0_11, .ref a0_12, .ref a0_13, .ref a0_14, .int v0_15, .ref a0_16])), (a0_7, .inl (cyI, 1000, .inl g0_7)), (o5, .inr (5, [.ref o7, .ref a5_1, .int v5_2, .int v5_3, .int v5_4, .int v5_5, .int v5_6, .int v5_7, .int v5_8, .int v5_9])), (a5_1, .inl (cyI, 400, .inl g5_1)), (o6, .inr (6, [.ref o7, .ref o4, .ref o0, .ref o5]))]) [11, 12, 15, 16, 17] rfl
                    have hDc := hD.sub (ws' := [(o0, .inr (0, [.int v0_0, .int v0_1, .int v0_2, .int v0_3, .int v0_4, .ref a0_5, .int v0_6, .ref a0_7, .ref a0_8, .ref a0_9, .int v0_10, .ref a0_11, .ref a0_12, .ref a0_13, .ref a0_14, .int v0_15, .ref a0_16])), (a0_7, .inl (cyI, 1000, .inl g0_7)), (o5, .inr (5, [.ref o7, .ref a5_1, .int v5_2, .int v5_3, .int v5_4, .int v5_5, .int v5_6, .int v5_7, .int v5_8, .int v5_9])), (a5_1, .inl (cyI, 400, .inl g5_1)), (o6, .inr (6, [.ref o7, .ref o4, .ref o0, .ref o5]))]) [11, 12, 15, 16, 17] (by decide) rfl
                    have hFc := va_free (wc := [(o0, .inr (0, [.int v0_0, .int v0_1, .int v0_2, .int v0_3, .int v0_4, .ref a0_5, .int v0_6, .ref a0_7, .ref a0_8, .ref a0_9, .int v0_10, .ref a0_11, .ref a0_12, .ref a0_13, .ref a0_14, .int v0_15, .ref a0_16])), (a0_7, .inl (cyI, 1000, .inl g0_7)), (o5, .inr (5, [.ref o7, .ref a5_1, .int v5_2, .int v5_3, .int v5_4, .int v5_5, .int v5_6, .int v5_7, .int v5_8, .int v5_9])), (a5_1, .inl (cyI, 400, .inl g5_1)), (o6, .inr (6, [.ref o7, .ref o4, .ref o0, .ref o5]))]) hD hS hA [11, 12, 15, 16, 17] rfl
                    refine va_callv (va_runV (As := [.int p1]) (rest := []) ⟨hx, hb, hml, hown, hts⟩ (c_X6_branch l dC dI cyI cyZ cyJ H.size o0 v0_0 v0_1 v0_2 v0_3 v0_4 a0_5 v0_6 a0_7 a0_8 a0_9 v0_10 a0_11 a0_12 a0_13 a0_14 v0_15 a0_16 g0_7 o5 o7 a5_1 v5_2 v5_3 v5_4 v5_5 v5_6 v5_7 v5_8 v5_9 g5_1 o6 o4 p1 r_23 h_23) (cwV 1 hts gX6_step_X6_branch rfl rfl rfl (by decide +kernel) ⟨Nat.le_of_ble_eq_true rfl, Nat.le_of_ble_eq_true rfl⟩) (x_pVD hN hK hPc hDc (ci := 6) (q0 := 4) rfl rfl) rfl rfl hl.1 rfl (lv_room (Nat.le_of_ble_eq_true rfl)) dX6_step_165 ⟨Nat.le_of_ble_eq_true rfl, Nat.le_of_ble_eq_true rfl⟩) hS (fun q _ h => hFc q h) hFc (fun u t H1 locs ht hvm hw hB hz1 hk1 hS => ?_)
                    obtain ⟨hP1, hK1, hD1⟩ := hB
                    rw [ht] at hP1
                    obtain ⟨hP, hD⟩ := va_join (wr := [(o7, .inr (7, [.ref a7_0, .ref a7_1, .int v7_2])), (a7_0, .inl (cyI, 200, .inl g7_0)), (a7_1, .inl (cyZ, 200, .inl g7_1)), (o4, .inr (4, [.ref a4_0, .ref a4_1, .int v4_2, .ref a4_3, .ref a4_4, .ref a4_5, .ref a4_6, .ref a4_7, .int v4_8])), (a4_0, .inl (cyI, 100, .inl g4_0)), (a4_1, .inl (cyI, 100, .inl g4_1)), (a4_3, .inl (cyI, 100, .inl g4_3)), (a4_4, .inl (cyI, 100, .inl g4_4)), (a4_5, .inl (cyZ, 100, .inl g4_5)), (a4_6, .inl (cyI, 2000, .inl g4_6)), (a4_7, .inl (cyI, 100, .inl g4_7)), (a0_8, .inl (cyI, 1000, .inl g0_8)), (a0_9, .inl (cyI, 1000, .inl g0_9))]) (w1 := [(o0, .inr (0, [.int v0_0, .int v0_1, .int v0_2, .int v0_3, .int v0_4, .ref a0_5, .int v0_6, .ref a0_7, .ref a0_8, .ref a0_9, .int v0_10, .ref a0_11, .ref a0_12, .ref a0_13, .ref a0_14, .int v0_15, .ref a0_16])), (a0_7, .inl (cyI, 1000, .inl g0_7)), (o5, .inr (5, [.ref o7, .ref a5_1, .int v5_2, .int (r_23.1), .int v5_4, .int v5_5, .int (r_23.2.1), .int v5_7, .int v5_8, .int v5_9])), (a5_1, .inl (cyI, 400, .inl r_23.2.2)), (o6, .inr (6, [.ref o7, .ref o4, .ref o0, .ref o5]))]) hP hD [11, 12, 15, 16, 17] [0, 1, 2, 3, 4, 5, 6, 7, 8, 9, 10, 13, 14] rfl rfl (by decide) (by decide) hk1 hFc hP1 hD1
                    clear hz1 hk1 hPc hDc hFc hP1 hK1 hD1 ht hvm t u
                    generalize H1 = H at hP hS ⊢
                    have hP : va_P (dC, dI) vwCl [(o7, .inr (7, [.ref a7_0, .ref a7_1, .int v7_2])), (a7_0, .inl (cyI, 200, .inl g7_0)), (a7_1, .inl (cyZ, 200, .inl g7_1)), (o4, .inr (4, [.ref a4_0, .ref a4_1, .int v4_2, .ref a4_3, .ref a4_4, .ref a4_5, .ref a4_6, .ref a4_7, .int v4_8])), (a4_0, .inl (cyI, 100, .inl g4_0)), (a4_1, .inl (cyI, 100, .inl g4_1)), (a4_3, .inl (cyI, 100, .inl g4_3)), (a4_4, .inl (cyI, 100, .inl g4_4)), (a4_5, .inl (cyZ, 100, .inl g4_5)), (a4_6, .inl (cyI, 2000, .inl g4_6)), (a4_7, .inl (cyI, 100, .inl g4_7)), (a0_8, .inl (cyI, 1000, .inl g0_8)), (a0_9, .inl (cyI, 1000, .inl g0_9)), (o0, .inr (0, [.int v0_0, .int v0_1, .int v0_2, .int v0_3, .int v0_4, .ref a0_5, .int v0_6, .ref a0_7, .ref a0_8, .ref a0_9, .int v0_10, .ref a0_11, .ref a0_12, .ref a0_13, .ref a0_14, .int v0_15, .ref a0_16])), (a0_7, .inl (cyI, 1000, .inl g0_7)), (o5, .inr (5, [.ref o7, .ref a5_1, .int v5_2, .int (r_23.1), .int v5_4, .int v5_5, .int (r_23.2.1), .int v5_7, .int v5_8, .int v5_9])), (a5_1, .inl (cyI, 400, .inl r_23.2.2)), (o6, .inr (6, [.ref o7, .ref o4, .ref o0, .ref o5]))] H := hP
                    have hD : va_D A [(o7, .inr (7, [.ref a7_0, .ref a7_1, .int v7_2])), (a7_0, .inl (cyI, 200, .inl g7_0)), (a7_1, .inl (cyZ, 200, .inl g7_1)), (o4, .inr (4, [.ref a4_0, .ref a4_1, .int v4_2, .ref a4_3, .ref a4_4, .ref a4_5, .ref a4_6, .ref a4_7, .int v4_8])), (a4_0, .inl (cyI, 100, .inl g4_0)), (a4_1, .inl (cyI, 100, .inl g4_1)), (a4_3, .inl (cyI, 100, .inl g4_3)), (a4_4, .inl (cyI, 100, .inl g4_4)), (a4_5, .inl (cyZ, 100, .inl g4_5)), (a4_6, .inl (cyI, 2000, .inl g4_6)), (a4_7, .inl (cyI, 100, .inl g4_7)), (a0_8, .inl (cyI, 1000, .inl g0_8)), (a0_9, .inl (cyI, 1000, .inl g0_9)), (o0, .inr (0, [.int v0_0, .int v0_1, .int v0_2, .int v0_3, .int v0_4, .ref a0_5, .int v0_6, .ref a0_7, .ref a0_8, .ref a0_9, .int v0_10, .ref a0_11, .ref a0_12, .ref a0_13, .ref a0_14, .int v0_15, .ref a0_16])), (a0_7, .inl (cyI, 1000, .inl g0_7)), (o5, .inr (5, [.ref o7, .ref a5_1, .int v5_2, .int (r_23.1), .int v5_4, .int v5_5, .int (r_23.2.1), .int v5_7, .int v5_8, .int v5_9])), (a5_1, .inl (cyI, 400, .inl r_23.2.2)), (o6, .inr (6, [.ref o7, .ref o4, .ref o0, .ref o5]))] := hD
                    refine lv_goto (tgt := 250) hx hb dX6_step_168 (by decide) ?_
                    obtain rfl := Option.some.inj hf
                    have hP9 := hP.sub (ws' := [(o7, .inr (7, [.ref a7_0, .ref a7_1, .int v7_2])), (a7_0, .inl (cyI, 200, .inl g7_0)), (a7_1, .inl (cyZ, 200, .inl g7_1)), (o4, .inr (4, [.ref a4_0, .ref a4_1, .int v4_2, .ref a4_3, .ref a4_4, .ref a4_5, .ref a4_6, .ref a4_7, .int v4_8])), (a4_0, .inl (cyI, 100, .inl g4_0)), (a4_1, .inl (cyI, 100, .inl g4_1)), (a4_3, .inl (cyI, 100, .inl g4_3)), (a4_4, .inl (cyI, 100, .inl g4_4)), (a4_5, .inl (cyZ, 100, .inl g4_5)), (a4_6, .inl (cyI, 2000, .inl g4_6)), (a4_7, .inl (cyI, 100, .inl g4_7)), (o0, .inr (0, [.int v0_0, .int v0_1, .int v0_2, .int v0_3, .int v0_4, .ref a0_5, .int v0_6, .ref a0_7, .ref a0_8, .ref a0_9, .int v0_10, .ref a0_11, .ref a0_12, .ref a0_13, .ref a0_14, .int v0_15, .ref a0_16])), (a0_7, .inl (cyI, 1000, .inl g0_7)), (a0_8, .inl (cyI, 1000, .inl g0_8)), (a0_9, .inl (cyI, 1000, .inl g0_9)), (o5, .inr (5, [.ref o7, .ref a5_1, .int v5_2, .int (r_23.1), .int v5_4, .int v5_5, .int (r_23.2.1), .int v5_7, .int v5_8, .int v5_9])), (a5_1, .inl (cyI, 400, .inl r_23.2.2)), (o6, .inr (6, [.ref o7, .ref o4, .ref o0, .ref o5]))]) [0, 1, 2, 3, 4, 5, 6, 7, 8, 9, 10, 13, 14, 11, 12, 15, 16, 17] rfl
                    have hD9 := hD.sub (ws' := [(o7, .inr (7, [.ref a7_0, .ref a7_1, .int v7_2])), (a7_0, .inl (cyI, 200, .inl g7_0)), (a7_1, .inl (cyZ, 200, .inl g7_1)), (o4, .inr (4, [.ref a4_0, .ref a4_1, .int v4_2, .ref a4_3, .ref a4_4, .ref a4_5, .ref a4_6, .ref a4_7, .int v4_8])), (a4_0, .inl (cyI, 100, .inl g4_0)), (a4_1, .inl (cyI, 100, .inl g4_1)), (a4_3, .inl (cyI, 100, .inl g4_3)), (a4_4, .inl (cyI, 100, .inl g4_4)), (a4_5, .inl (cyZ, 100, .inl g4_5)), (a4_6, .inl (cyI, 2000, .inl g4_6)), (a4_7, .inl (cyI, 100, .inl g4_7)), (o0, .inr (0, [.int v0_0, .int v0_1, .int v0_2, .int v0_3, .int v0_4, .ref a0_5, .int v0_6, .ref a0_7, .ref a0_8, .ref a0_9, .int v0_10, .ref a0_11, .ref a0_12, .ref a0_13, .ref a0_14, .int v0_15, .ref a0_16])), (a0_7, .inl (cyI, 1000, .inl g0_7)), (a0_8, .inl (cyI, 1000, .inl g0_8)), (a0_9, .inl (cyI, 1000, .inl g0_9)), (o5, .inr (5, [.ref o7, .ref a5_1, .int v5_2, .int (r_23.1), .int v5_4, .int v5_5, .int (r_23.2.1), .int v5_7, .int v5_8, .int v5_9])), (a5_1, .inl (cyI, 400, .inl r_23.2.2)), (o6, .inr (6, [.ref o7, .ref o4, .ref o0, .ref o5]))]) [0, 1, 2, 3, 4, 5, 6, 7, 8, 9, 10, 13, 14, 11, 12, 15, 16, 17] (by decide) rfl
                    exact W.vret hx hb hr (fun t ht hW => ⟨⟨(), rfl, trivial, by rw [ht]; exact hP9, va_K.moved hW.alike hK, hD9⟩, hS.F ht⟩) hS.2.2 dX6_step_250
                · replace hf := x_in c_10 hf
                  refine lv_aload_n hx hb dX6_step_141 rfl (lv_at hl 2 rfl) ?_
                  obtain ⟨b_24, hZ_24, hX_24, hb_24⟩ := hT _ (List.mem_of_getElem? (i := 2) rfl)
                  refine va_gets hx hb (hZ_24.narrow hAb) hS hown k_2 (fun _ h9 => h9) dX6_step_142 ?_
                  refine lv_iload_n hx hb dX6_step_145 rfl (lv_at hl 1 rfl) ?_
                  refine lv_bipush (v := 96) hx hb dX6_step_146 (by decide) ?_
                  refine lv_isub hx hb dX6_step_148 ?_
                  obtain ⟨g_25, hf⟩ := x_gu hf
                  refine va_sld hx hb hX_24 (Nat.lt_of_lt_of_le hb_24 hbz) (fun h9 => absurd (hAb _ h9) (Nat.not_le.mpr hb_24)) hS (x_gdin g_25) dX6_step_149 ?_
                  obtain ⟨r_26, h_26, hf⟩ := x_bi hf
                  have hPc := hP.sub (ws' := [(o5, .inr (5, [.ref o7, .ref a5_1, .int v5_2, .int v5_3, .int v5_4, .int v5_5, .int v5_6, .int v5_7, .int v5_8, .int v5_9])), (a5_1, .inl (cyI, 400, .inl g5_1)), (o6, .inr (6, [.ref o7, .ref o4, .ref o0, .ref o5]))]) [15, 16, 17] rfl
                  have hDc := hD.sub (ws' := [(o5, .inr (5, [.ref o7, .ref a5_1, .int v5_2, .int v5_3, .int v5_4, .int v5_5, .int v5_6, .int v5_7, .int v5_8, .int v5_9])), (a5_1, .inl (cyI, 400, .inl g5_1)), (o6, .inr (6, [.ref o7, .ref o4, .ref o0, .ref o5]))]) [15, 16, 17] (by decide) rfl
                  have hFc := va_free (wc := [(o5, .inr (5, [.ref o7, .ref a5_1, .int v5_2, .int v5_3, .int v5_4, .int v5_5, .int v5_6, .int v5_7, .int v5_8, .int v5_9])), (a5_1, .inl (cyI, 400, .inl g5_1)), (o6, .inr (6, [.ref o7, .ref o4, .ref o0, .ref o5]))]) hD hS hA [15, 16, 17] rfl
                  refine va_callv (va_runV (As := [.int (x_st2 (Int32.toNatClampNeg ((g0_7 (Int32.toNatClampNeg p1)) - (96 : Int32))))]) (rest := []) ⟨hx, hb, hml, hown, hts⟩ (c_X6_reckon l dC dI cyI cyZ cyJ H.size o5 o7 a5_1 v5_2 v5_3 v5_4 v5_5 v5_6 v5_7 v5_8 v5_9 g5_1 o6 o4 o0 (x_st2 (Int32.toNatClampNeg ((g0_7 (Int32.toNatClampNeg p1)) - (96 : Int32)))) r_26 h_26) (cwV 1 hts gX6_step_X6_reckon rfl rfl rfl (by decide +kernel) ⟨Nat.le_of_ble_eq_true rfl, Nat.le_of_ble_eq_true rfl⟩) (x_pVD hN hK hPc hDc (ci := 6) (q0 := 2) rfl rfl) rfl rfl hl.1 rfl (lv_room (Nat.le_of_ble_eq_true rfl)) dX6_step_150 ⟨Nat.le_of_ble_eq_true rfl, Nat.le_of_ble_eq_true rfl⟩) hS (fun q _ h => hFc q h) hFc (fun u t H1 locs ht hvm hw hB hz1 hk1 hS => ?_)
                  obtain ⟨hP1, hK1, hD1⟩ := hB
                  rw [ht] at hP1
                  obtain ⟨hP, hD⟩ := va_join (wr := [(o7, .inr (7, [.ref a7_0, .ref a7_1, .int v7_2])), (a7_0, .inl (cyI, 200, .inl g7_0)), (a7_1, .inl (cyZ, 200, .inl g7_1)), (o4, .inr (4, [.ref a4_0, .ref a4_1, .int v4_2, .ref a4_3, .ref a4_4, .ref a4_5, .ref a4_6, .ref a4_7, .int v4_8])), (a4_0, .inl (cyI, 100, .inl g4_0)), (a4_1, .inl (cyI, 100, .inl g4_1)), (a4_3, .inl (cyI, 100, .inl g4_3)), (a4_4, .inl (cyI, 100, .inl g4_4)), (a4_5, .inl (cyZ, 100, .inl g4_5)), (a4_6, .inl (cyI, 2000, .inl g4_6)), (a4_7, .inl (cyI, 100, .inl g4_7)), (o0, .inr (0, [.int v0_0, .int v0_1, .int v0_2, .int v0_3, .int v0_4, .ref a0_5, .int v0_6, .ref a0_7, .ref a0_8, .ref a0_9, .int v0_10, .ref a0_11, .ref a0_12, .ref a0_13, .ref a0_14, .int v0_15, .ref a0_16])), (a0_7, .inl (cyI, 1000, .inl g0_7)), (a0_8, .inl (cyI, 1000, .inl g0_8)), (a0_9, .inl (cyI, 1000, .inl g0_9))]) (w1 := [(o5, .inr (5, [.ref o7, .ref a5_1, .int v5_2, .int (r_26.1), .int v5_4, .int v5_5, .int (r_26.2.1), .int v5_7, .int v5_8, .int v5_9])), (a5_1, .inl (cyI, 400, .inl r_26.2.2)), (o6, .inr (6, [.ref o7, .ref o4, .ref o0, .ref o5]))]) hP hD [15, 16, 17] [0, 1, 2, 3, 4, 5, 6, 7, 8, 9, 10, 11, 12, 13, 14] rfl rfl (by decide) (by decide) hk1 hFc hP1 hD1
                  clear hz1 hk1 hPc hDc hFc hP1 hK1 hD1 ht hvm t u
                  generalize H1 = H at hP hS ⊢
                  have hP : va_P (dC, dI) vwCl [(o7, .inr (7, [.ref a7_0, .ref a7_1, .int v7_2])), (a7_0, .inl (cyI, 200, .inl g7_0)), (a7_1, .inl (cyZ, 200, .inl g7_1)), (o4, .inr (4, [.ref a4_0, .ref a4_1, .int v4_2, .ref a4_3, .ref a4_4, .ref a4_5, .ref a4_6, .ref a4_7, .int v4_8])), (a4_0, .inl (cyI, 100, .inl g4_0)), (a4_1, .inl (cyI, 100, .inl g4_1)), (a4_3, .inl (cyI, 100, .inl g4_3)), (a4_4, .inl (cyI, 100, .inl g4_4)), (a4_5, .inl (cyZ, 100, .inl g4_5)), (a4_6, .inl (cyI, 2000, .inl g4_6)), (a4_7, .inl (cyI, 100, .inl g4_7)), (o0, .inr (0, [.int v0_0, .int v0_1, .int v0_2, .int v0_3, .int v0_4, .ref a0_5, .int v0_6, .ref a0_7, .ref a0_8, .ref a0_9, .int v0_10, .ref a0_11, .ref a0_12, .ref a0_13, .ref a0_14, .int v0_15, .ref a0_16])), (a0_7, .inl (cyI, 1000, .inl g0_7)), (a0_8, .inl (cyI, 1000, .inl g0_8)), (a0_9, .inl (cyI, 1000, .inl g0_9)), (o5, .inr (5, [.ref o7, .ref a5_1, .int v5_2, .int (r_26.1), .int v5_4, .int v5_5, .int (r_26.2.1), .int v5_7, .int v5_8, .int v5_9])), (a5_1, .inl (cyI, 400, .inl r_26.2.2)), (o6, .inr (6, [.ref o7, .ref o4, .ref o0, .ref o5]))] H := hP
                  have hD : va_D A [(o7, .inr (7, [.ref a7_0, .ref a7_1, .int v7_2])), (a7_0, .inl (cyI, 200, .inl g7_0)), (a7_1, .inl (cyZ, 200, .inl g7_1)), (o4, .inr (4, [.ref a4_0, .ref a4_1, .int v4_2, .ref a4_3, .ref a4_4, .ref a4_5, .ref a4_6, .ref a4_7, .int v4_8])), (a4_0, .inl (cyI, 100, .inl g4_0)), (a4_1, .inl (cyI, 100, .inl g4_1)), (a4_3, .inl (cyI, 100, .inl g4_3)), (a4_4, .inl (cyI, 100, .inl g4_4)), (a4_5, .inl (cyZ, 100, .inl g4_5)), (a4_6, .inl (cyI, 2000, .inl g4_6)), (a4_7, .inl (cyI, 100, .inl g4_7)), (o0, .inr (0, [.int v0_0, .int v0_1, .int v0_2, .int v0_3, .int v0_4, .ref a0_5, .int v0_6, .ref a0_7, .ref a0_8, .ref a0_9, .int v0_10, .ref a0_11, .ref a0_12, .ref a0_13, .ref a0_14, .int v0_15, .ref a0_16])), (a0_7, .inl (cyI, 1000, .inl g0_7)), (a0_8, .inl (cyI, 1000, .inl g0_8)), (a0_9, .inl (cyI, 1000, .inl g0_9)), (o5, .inr (5, [.ref o7, .ref a5_1, .int v5_2, .int (r_26.1), .int v5_4, .int v5_5, .int (r_26.2.1), .int v5_7, .int v5_8, .int v5_9])), (a5_1, .inl (cyI, 400, .inl r_26.2.2)), (o6, .inr (6, [.ref o7, .ref o4, .ref o0, .ref o5]))] := hD
                  refine lv_goto (tgt := 250) hx hb dX6_step_153 (by decide) ?_
                  obtain rfl := Option.some.inj hf
                  have hP9 := hP.sub (ws' := [(o7, .inr (7, [.ref a7_0, .ref a7_1, .int v7_2])), (a7_0, .inl (cyI, 200, .inl g7_0)), (a7_1, .inl (cyZ, 200, .inl g7_1)), (o4, .inr (4, [.ref a4_0, .ref a4_1, .int v4_2, .ref a4_3, .ref a4_4, .ref a4_5, .ref a4_6, .ref a4_7, .int v4_8])), (a4_0, .inl (cyI, 100, .inl g4_0)), (a4_1, .inl (cyI, 100, .inl g4_1)), (a4_3, .inl (cyI, 100, .inl g4_3)), (a4_4, .inl (cyI, 100, .inl g4_4)), (a4_5, .inl (cyZ, 100, .inl g4_5)), (a4_6, .inl (cyI, 2000, .inl g4_6)), (a4_7, .inl (cyI, 100, .inl g4_7)), (o0, .inr (0, [.int v0_0, .int v0_1, .int v0_2, .int v0_3, .int v0_4, .ref a0_5, .int v0_6, .ref a0_7, .ref a0_8, .ref a0_9, .int v0_10, .ref a0_11, .ref a0_12, .ref a0_13, .ref a0_14, .int v0_15, .ref a0_16])), (a0_7, .inl (cyI, 1000, .inl g0_7)), (a0_8, .inl (cyI, 1000, .inl g0_8)), (a0_9, .inl (cyI, 1000, .inl g0_9)), (o5, .inr (5, [.ref o7, .ref a5_1, .int v5_2, .int (r_26.1), .int v5_4, .int v5_5, .int (r_26.2.1), .int v5_7, .int v5_8, .int v5_9])), (a5_1, .inl (cyI, 400, .inl r_26.2.2)), (o6, .inr (6, [.ref o7, .ref o4, .ref o0, .ref o5]))]) [0, 1, 2, 3, 4, 5, 6, 7, 8, 9, 10, 11, 12, 13, 14, 15, 16, 17] rfl
                  have hD9 := hD.sub (ws' := [(o7, .inr (7, [.ref a7_0, .ref a7_1, .int v7_2])), (a7_0, .inl (cyI, 200, .inl g7_0)), (a7_1, .inl (cyZ, 200, .inl g7_1)), (o4, .inr (4, [.ref a4_0, .ref a4_1, .int v4_2, .ref a4_3, .ref a4_4, .ref a4_5, .ref a4_6, .ref a4_7, .int v4_8])), (a4_0, .inl (cyI, 100, .inl g4_0)), (a4_1, .inl (cyI, 100, .inl g4_1)), (a4_3, .inl (cyI, 100, .inl g4_3)), (a4_4, .inl (cyI, 100, .inl g4_4)), (a4_5, .inl (cyZ, 100, .inl g4_5)), (a4_6, .inl (cyI, 2000, .inl g4_6)), (a4_7, .inl (cyI, 100, .inl g4_7)), (o0, .inr (0, [.int v0_0, .int v0_1, .int v0_2, .int v0_3, .int v0_4, .ref a0_5, .int v0_6, .ref a0_7, .ref a0_8, .ref a0_9, .int v0_10, .ref a0_11, .ref a0_12, .ref a0_13, .ref a0_14, .int v0_15, .ref a0_16])), (a0_7, .inl (cyI, 1000, .inl g0_7)), (a0_8, .inl (cyI, 1000, .inl g0_8)), (a0_9, .inl (cyI, 1000, .inl g0_9)), (o5, .inr (5, [.ref o7, .ref a5_1, .int v5_2, .int (r_26.1), .int v5_4, .int v5_5, .int (r_26.2.1), .int v5_7, .int v5_8, .int v5_9])), (a5_1, .inl (cyI, 400, .inl r_26.2.2)), (o6, .inr (6, [.ref o7, .ref o4, .ref o0, .ref o5]))]) [0, 1, 2, 3, 4, 5, 6, 7, 8, 9, 10, 11, 12, 13, 14, 15, 16, 17] (by decide) rfl
                  exact W.vret hx hb hr (fun t ht hW => ⟨⟨(), rfl, trivial, by rw [ht]; exact hP9, va_K.moved hW.alike hK, hD9⟩, hS.F ht⟩) hS.2.2 dX6_step_250
              · replace hf := x_ip c_9 hf
                refine lv_aload_n hx hb dX6_step_126 rfl (lv_at hl 2 rfl) ?_
                refine lv_iload_n hx hb dX6_step_127 rfl (lv_at hl 0 rfl) ?_
                obtain ⟨r_27, h_27, hf⟩ := x_bi hf
                have hPc := hP.sub (ws' := [(o5, .inr (5, [.ref o7, .ref a5_1, .int v5_2, .int v5_3, .int v5_4, .int v5_5, .int v5_6, .int v5_7, .int v5_8, .int v5_9])), (a5_1, .inl (cyI, 400, .inl g5_1)), (o6, .inr (6, [.ref o7, .ref o4, .ref o0, .ref o5]))]) [15, 16, 17] rfl
                have hDc := hD.sub (ws' := [(o5, .inr (5, [.ref o7, .ref a5_1, .int v5_2, .int v5_3, .int v5_4, .int v5_5, .int v5_6, .int v5_7, .int v5_8, .int v5_9])), (a5_1, .inl (cyI, 400, .inl g5_1)), (o6, .inr (6, [.ref o7, .ref o4, .ref o0, .ref o5]))]) [15, 16, 17] (by decide) rfl
                have hFc := va_free (wc := [(o5, .inr (5, [.ref o7, .ref a5_1, .int v5_2, .int v5_3, .int v5_4, .int v5_5, .int v5_6, .int v5_7, .int v5_8, .int v5_9])), (a5_1, .inl (cyI, 400, .inl g5_1)), (o6, .inr (6, [.ref o7, .ref o4, .ref o0, .ref o5]))]) hD hS hA [15, 16, 17] rfl
                refine va_callv (va_runV (As := [.int (g0_8 (Int32.toNatClampNeg p1))]) (rest := []) ⟨hx, hb, hml, hown, hts⟩ (c_X6_increase l dC dI cyI cyZ cyJ H.size o5 o7 a5_1 v5_2 v5_3 v5_4 v5_5 v5_6 v5_7 v5_8 v5_9 g5_1 o6 o4 o0 (g0_8 (Int32.toNatClampNeg p1)) r_27 h_27) (cwV 1 hts gX6_step_X6_increase rfl rfl rfl (by decide +kernel) ⟨Nat.le_of_ble_eq_true rfl, Nat.le_of_ble_eq_true rfl⟩) (x_pVD hN hK hPc hDc (ci := 6) (q0 := 2) rfl rfl) rfl rfl hl.1 rfl (lv_room (Nat.le_of_ble_eq_true rfl)) dX6_step_128 ⟨Nat.le_of_ble_eq_true rfl, Nat.le_of_ble_eq_true rfl⟩) hS (fun q _ h => hFc q h) hFc (fun u t H1 locs ht hvm hw hB hz1 hk1 hS => ?_)
                obtain ⟨hP1, hK1, hD1⟩ := hB
                rw [ht] at hP1
                obtain ⟨hP, hD⟩ := va_join (wr := [(o7, .inr (7, [.ref a7_0, .ref a7_1, .int v7_2])), (a7_0, .inl (cyI, 200, .inl g7_0)), (a7_1, .inl (cyZ, 200, .inl g7_1)), (o4, .inr (4, [.ref a4_0, .ref a4_1, .int v4_2, .ref a4_3, .ref a4_4, .ref a4_5, .ref a4_6, .ref a4_7, .int v4_8])), (a4_0, .inl (cyI, 100, .inl g4_0)), (a4_1, .inl (cyI, 100, .inl g4_1)), (a4_3, .inl (cyI, 100, .inl g4_3)), (a4_4, .inl (cyI, 100, .inl g4_4)), (a4_5, .inl (cyZ, 100, .inl g4_5)), (a4_6, .inl (cyI, 2000, .inl g4_6)), (a4_7, .inl (cyI, 100, .inl g4_7)), (o0, .inr (0, [.int v0_0, .int v0_1, .int v0_2, .int v0_3, .int v0_4, .ref a0_5, .int v0_6, .ref a0_7, .ref a0_8, .ref a0_9, .int v0_10, .ref a0_11, .ref a0_12, .ref a0_13, .ref a0_14, .int v0_15, .ref a0_16])), (a0_7, .inl (cyI, 1000, .inl g0_7)), (a0_8, .inl (cyI, 1000, .inl g0_8)), (a0_9, .inl (cyI, 1000, .inl g0_9))]) (w1 := [(o5, .inr (5, [.ref o7, .ref a5_1, .int v5_2, .int v5_3, .int v5_4, .int v5_5, .int r_27, .int v5_7, .int v5_8, .int v5_9])), (a5_1, .inl (cyI, 400, .inl g5_1)), (o6, .inr (6, [.ref o7, .ref o4, .ref o0, .ref o5]))]) hP hD [15, 16, 17] [0, 1, 2, 3, 4, 5, 6, 7, 8, 9, 10, 11, 12, 13, 14] rfl rfl (by decide) (by decide) hk1 hFc hP1 hD1
                clear hz1 hk1 hPc hDc hFc hP1 hK1 hD1 ht hvm t u
                generalize H1 = H at hP hS ⊢
                have hP : va_P (dC, dI) vwCl [(o7, .inr (7, [.ref a7_0, .ref a7_1, .int v7_2])), (a7_0, .inl (cyI, 200, .inl g7_0)), (a7_1, .inl (cyZ, 200, .inl g7_1)), (o4, .inr (4, [.ref a4_0, .ref a4_1, .int v4_2, .ref a4_3, .ref a4_4, .ref a4_5, .ref a4_6, .ref a4_7, .int v4_8])), (a4_0, .inl (cyI, 100, .inl g4_0)), (a4_1, .inl (cyI, 100, .inl g4_1)), (a4_3, .inl (cyI, 100, .inl g4_3)), (a4_4, .inl (cyI, 100, .inl g4_4)), (a4_5, .inl (cyZ, 100, .inl g4_5)), (a4_6, .inl (cyI, 2000, .inl g4_6)), (a4_7, .inl (cyI, 100, .inl g4_7)), (o0, .inr (0, [.int v0_0, .int v0_1, .int v0_2, .int v0_3, .int v0_4, .ref a0_5, .int v0_6, .ref a0_7, .ref a0_8, .ref a0_9, .int v0_10, .ref a0_11, .ref a0_12, .ref a0_13, .ref a0_14, .int v0_15, .ref a0_16])), (a0_7, .inl (cyI, 1000, .inl g0_7)), (a0_8, .inl (cyI, 1000, .inl g0_8)), (a0_9, .inl (cyI, 1000, .inl g0_9)), (o5, .inr (5, [.ref o7, .ref a5_1, .int v5_2, .int v5_3, .int v5_4, .int v5_5, .int r_27, .int v5_7, .int v5_8, .int v5_9])), (a5_1, .inl (cyI, 400, .inl g5_1)), (o6, .inr (6, [.ref o7, .ref o4, .ref o0, .ref o5]))] H := hP
                have hD : va_D A [(o7, .inr (7, [.ref a7_0, .ref a7_1, .int v7_2])), (a7_0, .inl (cyI, 200, .inl g7_0)), (a7_1, .inl (cyZ, 200, .inl g7_1)), (o4, .inr (4, [.ref a4_0, .ref a4_1, .int v4_2, .ref a4_3, .ref a4_4, .ref a4_5, .ref a4_6, .ref a4_7, .int v4_8])), (a4_0, .inl (cyI, 100, .inl g4_0)), (a4_1, .inl (cyI, 100, .inl g4_1)), (a4_3, .inl (cyI, 100, .inl g4_3)), (a4_4, .inl (cyI, 100, .inl g4_4)), (a4_5, .inl (cyZ, 100, .inl g4_5)), (a4_6, .inl (cyI, 2000, .inl g4_6)), (a4_7, .inl (cyI, 100, .inl g4_7)), (o0, .inr (0, [.int v0_0, .int v0_1, .int v0_2, .int v0_3, .int v0_4, .ref a0_5, .int v0_6, .ref a0_7, .ref a0_8, .ref a0_9, .int v0_10, .ref a0_11, .ref a0_12, .ref a0_13, .ref a0_14, .int v0_15, .ref a0_16])), (a0_7, .inl (cyI, 1000, .inl g0_7)), (a0_8, .inl (cyI, 1000, .inl g0_8)), (a0_9, .inl (cyI, 1000, .inl g0_9)), (o5, .inr (5, [.ref o7, .ref a5_1, .int v5_2, .int v5_3, .int v5_4, .int v5_5, .int r_27, .int v5_7, .int v5_8, .int v5_9])), (a5_1, .inl (cyI, 400, .inl g5_1)), (o6, .inr (6, [.ref o7, .ref o4, .ref o0, .ref o5]))] := hD
                refine lv_goto (tgt := 250) hx hb dX6_step_131 (by decide) ?_
                obtain rfl := Option.some.inj hf
                have hP9 := hP.sub (ws' := [(o7, .inr (7, [.ref a7_0, .ref a7_1, .int v7_2])), (a7_0, .inl (cyI, 200, .inl g7_0)), (a7_1, .inl (cyZ, 200, .inl g7_1)), (o4, .inr (4, [.ref a4_0, .ref a4_1, .int v4_2, .ref a4_3, .ref a4_4, .ref a4_5, .ref a4_6, .ref a4_7, .int v4_8])), (a4_0, .inl (cyI, 100, .inl g4_0)), (a4_1, .inl (cyI, 100, .inl g4_1)), (a4_3, .inl (cyI, 100, .inl g4_3)), (a4_4, .inl (cyI, 100, .inl g4_4)), (a4_5, .inl (cyZ, 100, .inl g4_5)), (a4_6, .inl (cyI, 2000, .inl g4_6)), (a4_7, .inl (cyI, 100, .inl g4_7)), (o0, .inr (0, [.int v0_0, .int v0_1, .int v0_2, .int v0_3, .int v0_4, .ref a0_5, .int v0_6, .ref a0_7, .ref a0_8, .ref a0_9, .int v0_10, .ref a0_11, .ref a0_12, .ref a0_13, .ref a0_14, .int v0_15, .ref a0_16])), (a0_7, .inl (cyI, 1000, .inl g0_7)), (a0_8, .inl (cyI, 1000, .inl g0_8)), (a0_9, .inl (cyI, 1000, .inl g0_9)), (o5, .inr (5, [.ref o7, .ref a5_1, .int v5_2, .int v5_3, .int v5_4, .int v5_5, .int r_27, .int v5_7, .int v5_8, .int v5_9])), (a5_1, .inl (cyI, 400, .inl g5_1)), (o6, .inr (6, [.ref o7, .ref o4, .ref o0, .ref o5]))]) [0, 1, 2, 3, 4, 5, 6, 7, 8, 9, 10, 11, 12, 13, 14, 15, 16, 17] rfl
                have hD9 := hD.sub (ws' := [(o7, .inr (7, [.ref a7_0, .ref a7_1, .int v7_2])), (a7_0, .inl (cyI, 200, .inl g7_0)), (a7_1, .inl (cyZ, 200, .inl g7_1)), (o4, .inr (4, [.ref a4_0, .ref a4_1, .int v4_2, .ref a4_3, .ref a4_4, .ref a4_5, .ref a4_6, .ref a4_7, .int v4_8])), (a4_0, .inl (cyI, 100, .inl g4_0)), (a4_1, .inl (cyI, 100, .inl g4_1)), (a4_3, .inl (cyI, 100, .inl g4_3)), (a4_4, .inl (cyI, 100, .inl g4_4)), (a4_5, .inl (cyZ, 100, .inl g4_5)), (a4_6, .inl (cyI, 2000, .inl g4_6)), (a4_7, .inl (cyI, 100, .inl g4_7)), (o0, .inr (0, [.int v0_0, .int v0_1, .int v0_2, .int v0_3, .int v0_4, .ref a0_5, .int v0_6, .ref a0_7, .ref a0_8, .ref a0_9, .int v0_10, .ref a0_11, .ref a0_12, .ref a0_13, .ref a0_14, .int v0_15, .ref a0_16])), (a0_7, .inl (cyI, 1000, .inl g0_7)), (a0_8, .inl (cyI, 1000, .inl g0_8)), (a0_9, .inl (cyI, 1000, .inl g0_9)), (o5, .inr (5, [.ref o7, .ref a5_1, .int v5_2, .int v5_3, .int v5_4, .int v5_5, .int r_27, .int v5_7, .int v5_8, .int v5_9])), (a5_1, .inl (cyI, 400, .inl g5_1)), (o6, .inr (6, [.ref o7, .ref o4, .ref o0, .ref o5]))]) [0, 1, 2, 3, 4, 5, 6, 7, 8, 9, 10, 11, 12, 13, 14, 15, 16, 17] (by decide) rfl
                exact W.vret hx hb hr (fun t ht hW => ⟨⟨(), rfl, trivial, by rw [ht]; exact hP9, va_K.moved hW.alike hK, hD9⟩, hS.F ht⟩) hS.2.2 dX6_step_250
            · replace hf := x_in c_8 hf
              refine lv_aload_n hx hb dX6_step_111 rfl (lv_at hl 2 rfl) ?_
              refine lv_iload_n hx hb dX6_step_112 rfl (lv_at hl 1 rfl) ?_
              obtain ⟨r_28, h_28, hf⟩ := x_bi hf
              have hPc := hP.sub (ws' := [(o5, .inr (5, [.ref o7, .ref a5_1, .int v5_2, .int v5_3, .int v5_4, .int v5_5, .int v5_6, .int v5_7, .int v5_8, .int v5_9])), (a5_1, .inl (cyI, 400, .inl g5_1)), (o6, .inr (6, [.ref o7, .ref o4, .ref o0, .ref o5]))]) [15, 16, 17] rfl
              have hDc := hD.sub (ws' := [(o5, .inr (5, [.ref o7, .ref a5_1, .int v5_2, .int v5_3, .int v5_4, .int v5_5, .int v5_6, .int v5_7, .int v5_8, .int v5_9])), (a5_1, .inl (cyI, 400, .inl g5_1)), (o6, .inr (6, [.ref o7, .ref o4, .ref o0, .ref o5]))]) [15, 16, 17] (by decide) rfl
              have hFc := va_free (wc := [(o5, .inr (5, [.ref o7, .ref a5_1, .int v5_2, .int v5_3, .int v5_4, .int v5_5, .int v5_6, .int v5_7, .int v5_8, .int v5_9])), (a5_1, .inl (cyI, 400, .inl g5_1)), (o6, .inr (6, [.ref o7, .ref o4, .ref o0, .ref o5]))]) hD hS hA [15, 16, 17] rfl
              refine va_callv (va_runV (As := [.int (g0_7 (Int32.toNatClampNeg p1))]) (rest := []) ⟨hx, hb, hml, hown, hts⟩ (c_X6_shuffle l dC dI cyI cyZ cyJ H.size base o5 o7 a5_1 v5_2 v5_3 v5_4 v5_5 v5_6 v5_7 v5_8 v5_9 g5_1 o6 o4 o0 (g0_7 (Int32.toNatClampNeg p1)) r_28 h_28) (cwV 1 hts gX6_step_X6_shuffle rfl rfl rfl (by decide +kernel) ⟨Nat.le_of_ble_eq_true rfl, Nat.le_of_ble_eq_true rfl⟩) (x_pVT hT hN hK hPc (hDc.weaken (fun _ _ _ h8 => hAb _ h8)) hbz hS.1 (fun q h1 h2 => hS.2.1 q h1 (fun h9 => h2 (hAb q h9))) (ci := 6) (q0 := 2) rfl rfl) rfl rfl hl.1 rfl (lv_room (Nat.le_of_ble_eq_true rfl)) dX6_step_113 ⟨Nat.le_of_ble_eq_true rfl, Nat.le_of_ble_eq_true rfl⟩) hS (fun q _ h => hFc q h) hFc (fun u t H1 locs ht hvm hw hB hz1 hk1 hS => ?_)
              obtain ⟨hP1, hK1, hD1⟩ := hB
              rw [ht] at hP1
              obtain ⟨hP, hD⟩ := va_join (wr := [(o7, .inr (7, [.ref a7_0, .ref a7_1, .int v7_2])), (a7_0, .inl (cyI, 200, .inl g7_0)), (a7_1, .inl (cyZ, 200, .inl g7_1)), (o4, .inr (4, [.ref a4_0, .ref a4_1, .int v4_2, .ref a4_3, .ref a4_4, .ref a4_5, .ref a4_6, .ref a4_7, .int v4_8])), (a4_0, .inl (cyI, 100, .inl g4_0)), (a4_1, .inl (cyI, 100, .inl g4_1)), (a4_3, .inl (cyI, 100, .inl g4_3)), (a4_4, .inl (cyI, 100, .inl g4_4)), (a4_5, .inl (cyZ, 100, .inl g4_5)), (a4_6, .inl (cyI, 2000, .inl g4_6)), (a4_7, .inl (cyI, 100, .inl g4_7)), (o0, .inr (0, [.int v0_0, .int v0_1, .int v0_2, .int v0_3, .int v0_4, .ref a0_5, .int v0_6, .ref a0_7, .ref a0_8, .ref a0_9, .int v0_10, .ref a0_11, .ref a0_12, .ref a0_13, .ref a0_14, .int v0_15, .ref a0_16])), (a0_7, .inl (cyI, 1000, .inl g0_7)), (a0_8, .inl (cyI, 1000, .inl g0_8)), (a0_9, .inl (cyI, 1000, .inl g0_9))]) (w1 := [(o5, .inr (5, [.ref o7, .ref a5_1, .int v5_2, .int (r_28.1), .int v5_4, .int v5_5, .int (r_28.2.1), .int v5_7, .int v5_8, .int v5_9])), (a5_1, .inl (cyI, 400, .inl r_28.2.2)), (o6, .inr (6, [.ref o7, .ref o4, .ref o0, .ref o5]))]) hP hD [15, 16, 17] [0, 1, 2, 3, 4, 5, 6, 7, 8, 9, 10, 11, 12, 13, 14] rfl rfl (by decide) (by decide) hk1 hFc hP1 hD1
              clear hz1 hk1 hPc hDc hFc hP1 hK1 hD1 ht hvm t u
              generalize H1 = H at hP hS ⊢
              have hP : va_P (dC, dI) vwCl [(o7, .inr (7, [.ref a7_0, .ref a7_1, .int v7_2])), (a7_0, .inl (cyI, 200, .inl g7_0)), (a7_1, .inl (cyZ, 200, .inl g7_1)), (o4, .inr (4, [.ref a4_0, .ref a4_1, .int v4_2, .ref a4_3, .ref a4_4, .ref a4_5, .ref a4_6, .ref a4_7, .int v4_8])), (a4_0, .inl (cyI, 100, .inl g4_0)), (a4_1, .inl (cyI, 100, .inl g4_1)), (a4_3, .inl (cyI, 100, .inl g4_3)), (a4_4, .inl (cyI, 100, .inl g4_4)), (a4_5, .inl (cyZ, 100, .inl g4_5)), (a4_6, .inl (cyI, 2000, .inl g4_6)), (a4_7, .inl (cyI, 100, .inl g4_7)), (o0, .inr (0, [.int v0_0, .int v0_1, .int v0_2, .int v0_3, .int v0_4, .ref a0_5, .int v0_6, .ref a0_7, .ref a0_8, .ref a0_9, .int v0_10, .ref a0_11, .ref a0_12, .ref a0_13, .ref a0_14, .int v0_15, .ref a0_16])), (a0_7, .inl (cyI, 1000, .inl g0_7)), (a0_8, .inl (cyI, 1000, .inl g0_8)), (a0_9, .inl (cyI, 1000, .inl g0_9)), (o5, .inr (5, [.ref o7, .ref a5_1, .int v5_2, .int (r_28.1), .int v5_4, .int v5_5, .int (r_28.2.1), .int v5_7, .int v5_8, .int v5_9])), (a5_1, .inl (cyI, 400, .inl r_28.2.2)), (o6, .inr (6, [.ref o7, .ref o4, .ref o0, .ref o5]))] H := hP
              have hD : va_D A [(o7, .inr (7, [.ref a7_0, .ref a7_1, .int v7_2])), (a7_0, .inl (cyI, 200, .inl g7_0)), (a7_1, .inl (cyZ, 200, .inl g7_1)), (o4, .inr (4, [.ref a4_0, .ref a4_1, .int v4_2, .ref a4_3, .ref a4_4, .ref a4_5, .ref a4_6, .ref a4_7, .int v4_8])), (a4_0, .inl (cyI, 100, .inl g4_0)), (a4_1, .inl (cyI, 100, .inl g4_1)), (a4_3, .inl (cyI, 100, .inl g4_3)), (a4_4, .inl (cyI, 100, .inl g4_4)), (a4_5, .inl (cyZ, 100, .inl g4_5)), (a4_6, .inl (cyI, 2000, .inl g4_6)), (a4_7, .inl (cyI, 100, .inl g4_7)), (o0, .inr (0, [.int v0_0, .int v0_1, .int v0_2, .int v0_3, .int v0_4, .ref a0_5, .int v0_6, .ref a0_7, .ref a0_8, .ref a0_9, .int v0_10, .ref a0_11, .ref a0_12, .ref a0_13, .ref a0_14, .int v0_15, .ref a0_16])), (a0_7, .inl (cyI, 1000, .inl g0_7)), (a0_8, .inl (cyI, 1000, .inl g0_8)), (a0_9, .inl (cyI, 1000, .inl g0_9)), (o5, .inr (5, [.ref o7, .ref a5_1, .int v5_2, .int (r_28.1), .int v5_4, .int v5_5, .int (r_28.2.1), .int v5_7, .int v5_8, .int v5_9])), (a5_1, .inl (cyI, 400, .inl r_28.2.2)), (o6, .inr (6, [.ref o7, .ref o4, .ref o0, .ref o5]))] := hD
              refine lv_goto (tgt := 250) hx hb dX6_step_116 (by decide) ?_
              obtain rfl := Option.some.inj hf
              have hP9 := hP.sub (ws' := [(o7, .inr (7, [.ref a7_0, .ref a7_1, .int v7_2])), (a7_0, .inl (cyI, 200, .inl g7_0)), (a7_1, .inl (cyZ, 200, .inl g7_1)), (o4, .inr (4, [.ref a4_0, .ref a4_1, .int v4_2, .ref a4_3, .ref a4_4, .ref a4_5, .ref a4_6, .ref a4_7, .int v4_8])), (a4_0, .inl (cyI, 100, .inl g4_0)), (a4_1, .inl (cyI, 100, .inl g4_1)), (a4_3, .inl (cyI, 100, .inl g4_3)), (a4_4, .inl (cyI, 100, .inl g4_4)), (a4_5, .inl (cyZ, 100, .inl g4_5)), (a4_6, .inl (cyI, 2000, .inl g4_6)), (a4_7, .inl (cyI, 100, .inl g4_7)), (o0, .inr (0, [.int v0_0, .int v0_1, .int v0_2, .int v0_3, .int v0_4, .ref a0_5, .int v0_6, .ref a0_7, .ref a0_8, .ref a0_9, .int v0_10, .ref a0_11, .ref a0_12, .ref a0_13, .ref a0_14, .int v0_15, .ref a0_16])), (a0_7, .inl (cyI, 1000, .inl g0_7)), (a0_8, .inl (cyI, 1000, .inl g0_8)), (a0_9, .inl (cyI, 1000, .inl g0_9)), (o5, .inr (5, [.ref o7, .ref a5_1, .int v5_2, .int (r_28.1), .int v5_4, .int v5_5, .int (r_28.2.1), .int v5_7, .int v5_8, .int v5_9])), (a5_1, .inl (cyI, 400, .inl r_28.2.2)), (o6, .inr (6, [.ref o7, .ref o4, .ref o0, .ref o5]))]) [0, 1, 2, 3, 4, 5, 6, 7, 8, 9, 10, 11, 12, 13, 14, 15, 16, 17] rfl
              have hD9 := hD.sub (ws' := [(o7, .inr (7, [.ref a7_0, .ref a7_1, .int v7_2])), (a7_0, .inl (cyI, 200, .inl g7_0)), (a7_1, .inl (cyZ, 200, .inl g7_1)), (o4, .inr (4, [.ref a4_0, .ref a4_1, .int v4_2, .ref a4_3, .ref a4_4, .ref a4_5, .ref a4_6, .ref a4_7, .int v4_8])), (a4_0, .inl (cyI, 100, .inl g4_0)), (a4_1, .inl (cyI, 100, .inl g4_1)), (a4_3, .inl (cyI, 100, .inl g4_3)), (a4_4, .inl (cyI, 100, .inl g4_4)), (a4_5, .inl (cyZ, 100, .inl g4_5)), (a4_6, .inl (cyI, 2000, .inl g4_6)), (a4_7, .inl (cyI, 100, .inl g4_7)), (o0, .inr (0, [.int v0_0, .int v0_1, .int v0_2, .int v0_3, .int v0_4, .ref a0_5, .int v0_6, .ref a0_7, .ref a0_8, .ref a0_9, .int v0_10, .ref a0_11, .ref a0_12, .ref a0_13, .ref a0_14, .int v0_15, .ref a0_16])), (a0_7, .inl (cyI, 1000, .inl g0_7)), (a0_8, .inl (cyI, 1000, .inl g0_8)), (a0_9, .inl (cyI, 1000, .inl g0_9)), (o5, .inr (5, [.ref o7, .ref a5_1, .int v5_2, .int (r_28.1), .int v5_4, .int v5_5, .int (r_28.2.1), .int v5_7, .int v5_8, .int v5_9])), (a5_1, .inl (cyI, 400, .inl r_28.2.2)), (o6, .inr (6, [.ref o7, .ref o4, .ref o0, .ref o5]))]) [0, 1, 2, 3, 4, 5, 6, 7, 8, 9, 10, 11, 12, 13, 14, 15, 16, 17] (by decide) rfl
              exact W.vret hx hb hr (fun t ht hW => ⟨⟨(), rfl, trivial, by rw [ht]; exact hP9, va_K.moved hW.alike hK, hD9⟩, hS.F ht⟩) hS.2.2 dX6_step_250
          · replace hf := x_in c_7 hf
            refine lv_aload_n hx hb dX6_step_94 rfl (lv_at hl 2 rfl) ?_
            refine lv_iload_n hx hb dX6_step_95 rfl (lv_at hl 1 rfl) ?_
            refine lv_bipush (v := 79) hx hb dX6_step_96 (by decide) ?_
            refine lv_isub hx hb dX6_step_98 ?_
            obtain ⟨r_29, h_29, hf⟩ := x_bi hf
            have hPc := hP.sub (ws' := [(o7, .inr (7, [.ref a7_0, .ref a7_1, .int v7_2])), (a7_0, .inl (cyI, 200, .inl g7_0)), (a7_1, .inl (cyZ, 200, .inl g7_1)), (o5, .inr (5, [.ref o7, .ref a5_1, .int v5_2, .int v5_3, .int v5_4, .int v5_5, .int v5_6, .int v5_7, .int v5_8, .int v5_9])), (a5_1, .inl (cyI, 400, .inl g5_1)), (o6, .inr (6, [.ref o7, .ref o4, .ref o0, .ref o5]))]) [0, 1, 2, 15, 16, 17] rfl
            have hDc := hD.sub (ws' := [(o7, .inr (7, [.ref a7_0, .ref a7_1, .int v7_2])), (a7_0, .inl (cyI, 200, .inl g7_0)), (a7_1, .inl (cyZ, 200, .inl g7_1)), (o5, .inr (5, [.ref o7, .ref a5_1, .int v5_2, .int v5_3, .int v5_4, .int v5_5, .int v5_6, .int v5_7, .int v5_8, .int v5_9])), (a5_1, .inl (cyI, 400, .inl g5_1)), (o6, .inr (6, [.ref o7, .ref o4, .ref o0, .ref o5]))]) [0, 1, 2, 15, 16, 17] (by decide) rfl
            have hFc := va_free (wc := [(o7, .inr (7, [.ref a7_0, .ref a7_1, .int v7_2])), (a7_0, .inl (cyI, 200, .inl g7_0)), (a7_1, .inl (cyZ, 200, .inl g7_1)), (o5, .inr (5, [.ref o7, .ref a5_1, .int v5_2, .int v5_3, .int v5_4, .int v5_5, .int v5_6, .int v5_7, .int v5_8, .int v5_9])), (a5_1, .inl (cyI, 400, .inl g5_1)), (o6, .inr (6, [.ref o7, .ref o4, .ref o0, .ref o5]))]) hD hS hA [0, 1, 2, 15, 16, 17] rfl
            refine va_callv (va_runV (As := [.int ((g0_7 (Int32.toNatClampNeg p1)) - (79 : Int32))]) (rest := []) ⟨hx, hb, hml, hown, hts⟩ (c_X6_storeElement l dC dI cyI cyZ cyJ H.size base o7 a7_0 a7_1 v7_2 g7_0 g7_1 o5 a5_1 v5_2 v5_3 v5_4 v5_5 v5_6 v5_7 v5_8 v5_9 g5_1 o6 o4 o0 ((g0_7 (Int32.toNatClampNeg p1)) - (79 : Int32)) r_29 h_29) (cwV 1 hts gX6_step_X6_storeElement rfl rfl rfl (by decide +kernel) ⟨Nat.le_of_ble_eq_true rfl, Nat.le_of_ble_eq_true rfl⟩) (x_pVT hT hN hK hPc (hDc.weaken (fun _ _ _ h8 => hAb _ h8)) hbz hS.1 (fun q h1 h2 => hS.2.1 q h1 (fun h9 => h2 (hAb q h9))) (ci := 6) (q0 := 5) rfl rfl) rfl rfl hl.1 rfl (lv_room (Nat.le_of_ble_eq_true rfl)) dX6_step_99 ⟨Nat.le_of_ble_eq_true rfl, Nat.le_of_ble_eq_true rfl⟩) hS (fun q _ h => hFc q h) hFc (fun u t H1 locs ht hvm hw hB hz1 hk1 hS => ?_)
            obtain ⟨hP1, hK1, hD1⟩ := hB
            rw [ht] at hP1
            obtain ⟨hP, hD⟩ := va_join (wr := [(o4, .inr (4, [.ref a4_0, .ref a4_1, .int v4_2, .ref a4_3, .ref a4_4, .ref a4_5, .ref a4_6, .ref a4_7, .int v4_8])), (a4_0, .inl (cyI, 100, .inl g4_0)), (a4_1, .inl (cyI, 100, .inl g4_1)), (a4_3, .inl (cyI, 100, .inl g4_3)), (a4_4, .inl (cyI, 100, .inl g4_4)), (a4_5, .inl (cyZ, 100, .inl g4_5)), (a4_6, .inl (cyI, 2000, .inl g4_6)), (a4_7, .inl (cyI, 100, .inl g4_7)), (o0, .inr (0, [.int v0_0, .int v0_1, .int v0_2, .int v0_3, .int v0_4, .ref a0_5, .int v0_6, .ref a0_7, .ref a0_8, .ref a0_9, .int v0_10, .ref a0_11, .ref a0_12, .ref a0_13, .ref a0_14, .int v0_15, .ref a0_16])), (a0_7, .inl (cyI, 1000, .inl g0_7)), (a0_8, .inl (cyI, 1000, .inl g0_8)), (a0_9, .inl (cyI, 1000, .inl g0_9))]) (w1 := [(o7, .inr (7, [.ref a7_0, .ref a7_1, .int v7_2])), (a7_0, .inl (cyI, 200, .inl g7_0)), (a7_1, .inl (cyZ, 200, .inl g7_1)), (o5, .inr (5, [.ref o7, .ref a5_1, .int v5_2, .int (r_29.1), .int v5_4, .int v5_5, .int (r_29.2.1), .int v5_7, .int (r_29.2.2), .int v5_9])), (a5_1, .inl (cyI, 400, .inl g5_1)), (o6, .inr (6, [.ref o7, .ref o4, .ref o0, .ref o5]))]) hP hD [0, 1, 2, 15, 16, 17] [3, 4, 5, 6, 7, 8, 9, 10, 11, 12, 13, 14] rfl rfl (by decide) (by decide) hk1 hFc hP1 hD1
            clear hz1 hk1 hPc hDc hFc hP1 hK1 hD1 ht hvm t u
            generalize H1 = H at hP hS ⊢
            have hP : va_P (dC, dI) vwCl [(o4, .inr (4, [.ref a4_0, .ref a4_1, .int v4_2, .ref a4_3, .ref a4_4, .ref a4_5, .ref a4_6, .ref a4_7, .int v4_8])), (a4_0, .inl (cyI, 100, .inl g4_0)), (a4_1, .inl (cyI, 100, .inl g4_1)), (a4_3, .inl (cyI, 100, .inl g4_3)), (a4_4, .inl (cyI, 100, .inl g4_4)), (a4_5, .inl (cyZ, 100, .inl g4_5)), (a4_6, .inl (cyI, 2000, .inl g4_6)), (a4_7, .inl (cyI, 100, .inl g4_7)), (o0, .inr (0, [.int v0_0, .int v0_1, .int v0_2, .int v0_3, .int v0_4, .ref a0_5, .int v0_6, .ref a0_7, .ref a0_8, .ref a0_9, .int v0_10, .ref a0_11, .ref a0_12, .ref a0_13, .ref a0_14, .int v0_15, .ref a0_16])), (a0_7, .inl (cyI, 1000, .inl g0_7)), (a0_8, .inl (cyI, 1000, .inl g0_8)), (a0_9, .inl (cyI, 1000, .inl g0_9)), (o7, .inr (7, [.ref a7_0, .ref a7_1, .int v7_2])), (a7_0, .inl (cyI, 200, .inl g7_0)), (a7_1, .inl (cyZ, 200, .inl g7_1)), (o5, .inr (5, [.ref o7, .ref a5_1, .int v5_2, .int (r_29.1), .int v5_4, .int v5_5, .int (r_29.2.1), .int v5_7, .int (r_29.2.2), .int v5_9])), (a5_1, .inl (cyI, 400, .inl g5_1)), (o6, .inr (6, [.ref o7, .ref o4, .ref o0, .ref o5]))] H := hP
            have hD : va_D A [(o4, .inr (4, [.ref a4_0, .ref a4_1, .int v4_2, .ref a4_3, .ref a4_4, .ref a4_5, .ref a4_6, .ref a4_7, .int v4_8])), (a4_0, .inl (cyI, 100, .inl g4_0)), (a4_1, .inl (cyI, 100, .inl g4_1)), (a4_3, .inl (cyI, 100, .inl g4_3)), (a4_4, .inl (cyI, 100, .inl g4_4)), (a4_5, .inl (cyZ, 100, .inl g4_5)), (a4_6, .inl (cyI, 2000, .inl g4_6)), (a4_7, .inl (cyI, 100, .inl g4_7)), (o0, .inr (0, [.int v0_0, .int v0_1, .int v0_2, .int v0_3, .int v0_4, .ref a0_5, .int v0_6, .ref a0_7, .ref a0_8, .ref a0_9, .int v0_10, .ref a0_11, .ref a0_12, .ref a0_13, .ref a0_14, .int v0_15, .ref a0_16])), (a0_7, .inl (cyI, 1000, .inl g0_7)), (a0_8, .inl (cyI, 1000, .inl g0_8)), (a0_9, .inl (cyI, 1000, .inl g0_9)), (o7, .inr (7, [.ref a7_0, .ref a7_1, .int v7_2])), (a7_0, .inl (cyI, 200, .inl g7_0)), (a7_1, .inl (cyZ, 200, .inl g7_1)), (o5, .inr (5, [.ref o7, .ref a5_1, .int v5_2, .int (r_29.1), .int v5_4, .int v5_5, .int (r_29.2.1), .int v5_7, .int (r_29.2.2), .int v5_9])), (a5_1, .inl (cyI, 400, .inl g5_1)), (o6, .inr (6, [.ref o7, .ref o4, .ref o0, .ref o5]))] := hD
            refine lv_goto (tgt := 250) hx hb dX6_step_102 (by decide) ?_
            obtain rfl := Option.some.inj hf
            have hP9 := hP.sub (ws' := [(o7, .inr (7, [.ref a7_0, .ref a7_1, .int v7_2])), (a7_0, .inl (cyI, 200, .inl g7_0)), (a7_1, .inl (cyZ, 200, .inl g7_1)), (o4, .inr (4, [.ref a4_0, .ref a4_1, .int v4_2, .ref a4_3, .ref a4_4, .ref a4_5, .ref a4_6, .ref a4_7, .int v4_8])), (a4_0, .inl (cyI, 100, .inl g4_0)), (a4_1, .inl (cyI, 100, .inl g4_1)), (a4_3, .inl (cyI, 100, .inl g4_3)), (a4_4, .inl (cyI, 100, .inl g4_4)), (a4_5, .inl (cyZ, 100, .inl g4_5)), (a4_6, .inl (cyI, 2000, .inl g4_6)), (a4_7, .inl (cyI, 100, .inl g4_7)), (o0, .inr (0, [.int v0_0, .int v0_1, .int v0_2, .int v0_3, .int v0_4, .ref a0_5, .int v0_6, .ref a0_7, .ref a0_8, .ref a0_9, .int v0_10, .ref a0_11, .ref a0_12, .ref a0_13, .ref a0_14, .int v0_15, .ref a0_16])), (a0_7, .inl (cyI, 1000, .inl g0_7)), (a0_8, .inl (cyI, 1000, .inl g0_8)), (a0_9, .inl (cyI, 1000, .inl g0_9)), (o5, .inr (5, [.ref o7, .ref a5_1, .int v5_2, .int (r_29.1), .int v5_4, .int v5_5, .int (r_29.2.1), .int v5_7, .int (r_29.2.2), .int v5_9])), (a5_1, .inl (cyI, 400, .inl g5_1)), (o6, .inr (6, [.ref o7, .ref o4, .ref o0, .ref o5]))]) [12, 13, 14, 0, 1, 2, 3, 4, 5, 6, 7, 8, 9, 10, 11, 15, 16, 17] rfl
            have hD9 := hD.sub (ws' := [(o7, .inr (7, [.ref a7_0, .ref a7_1, .int v7_2])), (a7_0, .inl (cyI, 200, .inl g7_0)), (a7_1, .inl (cyZ, 200, .inl g7_1)), (o4, .inr (4, [.ref a4_0, .ref a4_1, .int v4_2, .ref a4_3, .ref a4_4, .ref a4_5, .ref a4_6, .ref a4_7, .int v4_8])), (a4_0, .inl (cyI, 100, .inl g4_0)), (a4_1, .inl (cyI, 100, .inl g4_1)), (a4_3, .inl (cyI, 100, .inl g4_3)), (a4_4, .inl (cyI, 100, .inl g4_4)), (a4_5, .inl (cyZ, 100, .inl g4_5)), (a4_6, .inl (cyI, 2000, .inl g4_6)), (a4_7, .inl (cyI, 100, .inl g4_7)), (o0, .inr (0, [.int v0_0, .int v0_1, .int v0_2, .int v0_3, .int v0_4, .ref a0_5, .int v0_6, .ref a0_7, .ref a0_8, .ref a0_9, .int v0_10, .ref a0_11, .ref a0_12, .ref a0_13, .ref a0_14, .int v0_15, .ref a0_16])), (a0_7, .inl (cyI, 1000, .inl g0_7)), (a0_8, .inl (cyI, 1000, .inl g0_8)), (a0_9, .inl (cyI, 1000, .inl g0_9)), (o5, .inr (5, [.ref o7, .ref a5_1, .int v5_2, .int (r_29.1), .int v5_4, .int v5_5, .int (r_29.2.1), .int v5_7, .int (r_29.2.2), .int v5_9])), (a5_1, .inl (cyI, 400, .inl g5_1)), (o6, .inr (6, [.ref o7, .ref o4, .ref o0, .ref o5]))]) [12, 13, 14, 0, 1, 2, 3, 4, 5, 6, 7, 8, 9, 10, 11, 15, 16, 17] (by decide) rfl
            exact W.vret hx hb hr (fun t ht hW => ⟨⟨(), rfl, trivial, by rw [ht]; exact hP9, va_K.moved hW.alike hK, hD9⟩, hS.F ht⟩) hS.2.2 dX6_step_250
        · replace hf := x_in c_6 hf
          refine lv_aload_n hx hb dX6_step_76 rfl (lv_at hl 2 rfl) ?_
          refine lv_iload_n hx hb dX6_step_77 rfl (lv_at hl 1 rfl) ?_
          refine lv_bipush (v := 54) hx hb dX6_step_78 (by decide) ?_
          refine lv_isub hx hb dX6_step_80 ?_
          refine lv_iload_n hx hb dX6_step_81 rfl (lv_at hl 0 rfl) ?_
          obtain ⟨r_30, h_30, hf⟩ := x_bi hf
          have hPc := hP.sub (ws' := [(o5, .inr (5, [.ref o7, .ref a5_1, .int v5_2, .int v5_3, .int v5_4, .int v5_5, .int v5_6, .int v5_7, .int v5_8, .int v5_9])), (a5_1, .inl (cyI, 400, .inl g5_1)), (o6, .inr (6, [.ref o7, .ref o4, .ref o0, .ref o5]))]) [15, 16, 17] rfl
          have hDc := hD.sub (ws' := [(o5, .inr (5, [.ref o7, .ref a5_1, .int v5_2, .int v5_3, .int v5_4, .int v5_5, .int v5_6, .int v5_7, .int v5_8, .int v5_9])), (a5_1, .inl (cyI, 400, .inl g5_1)), (o6, .inr (6, [.ref o7, .ref o4, .ref o0, .ref o5]))]) [15, 16, 17] (by decide) rfl
          have hFc := va_free (wc := [(o5, .inr (5, [.ref o7, .ref a5_1, .int v5_2, .int v5_3, .int v5_4, .int v5_5, .int v5_6, .int v5_7, .int v5_8, .int v5_9])), (a5_1, .inl (cyI, 400, .inl g5_1)), (o6, .inr (6, [.ref o7, .ref o4, .ref o0, .ref o5]))]) hD hS hA [15, 16, 17] rfl
          refine va_callv (va_runV (As := [.int ((g0_7 (Int32.toNatClampNeg p1)) - (54 : Int32)), .int (g0_8 (Int32.toNatClampNeg p1))]) (rest := []) ⟨hx, hb, hml, hown, hts⟩ (c_X6_store l dC dI cyI cyZ cyJ H.size base o5 o7 a5_1 v5_2 v5_3 v5_4 v5_5 v5_6 v5_7 v5_8 v5_9 g5_1 o6 o4 o0 ((g0_7 (Int32.toNatClampNeg p1)) - (54 : Int32)) (g0_8 (Int32.toNatClampNeg p1)) r_30 h_30) (cwV 2 hts gX6_step_X6_store rfl rfl rfl (by decide +kernel) ⟨Nat.le_of_ble_eq_true rfl, Nat.le_of_ble_eq_true rfl⟩) (x_pVT hT hN hK hPc (hDc.weaken (fun _ _ _ h8 => hAb _ h8)) hbz hS.1 (fun q h1 h2 => hS.2.1 q h1 (fun h9 => h2 (hAb q h9))) (ci := 6) (q0 := 2) rfl rfl) rfl rfl hl.1 rfl (lv_room (Nat.le_of_ble_eq_true rfl)) dX6_step_82 ⟨Nat.le_of_ble_eq_true rfl, Nat.le_of_ble_eq_true rfl⟩) hS (fun q _ h => hFc q h) hFc (fun u t H1 locs ht hvm hw hB hz1 hk1 hS => ?_)
          obtain ⟨hP1, hK1, hD1⟩ := hB
          rw [ht] at hP1
          obtain ⟨hP, hD⟩ := va_join (wr := [(o7, .inr (7, [.ref a7_0, .ref a7_1, .int v7_2])), (a7_0, .inl (cyI, 200, .inl g7_0)), (a7_1, .inl (cyZ, 200, .inl g7_1)), (o4, .inr (4, [.ref a4_0, .ref a4_1, .int v4_2, .ref a4_3, .ref a4_4, .ref a4_5, .ref a4_6, .ref a4_7, .int v4_8])), (a4_0, .inl (cyI, 100, .inl g4_0)), (a4_1, .inl (cyI, 100, .inl g4_1)), (a4_3, .inl (cyI, 100, .inl g4_3)), (a4_4, .inl (cyI, 100, .inl g4_4)), (a4_5, .inl (cyZ, 100, .inl g4_5)), (a4_6, .inl (cyI, 2000, .inl g4_6)), (a4_7, .inl (cyI, 100, .inl g4_7)), (o0, .inr (0, [.int v0_0, .int v0_1, .int v0_2, .int v0_3, .int v0_4, .ref a0_5, .int v0_6, .ref a0_7, .ref a0_8, .ref a0_9, .int v0_10, .ref a0_11, .ref a0_12, .ref a0_13, .ref a0_14, .int v0_15, .ref a0_16])), (a0_7, .inl (cyI, 1000, .inl g0_7)), (a0_8, .inl (cyI, 1000, .inl g0_8)), (a0_9, .inl (cyI, 1000, .inl g0_9))]) (w1 := [(o5, .inr (5, [.ref o7, .ref a5_1, .int v5_2, .int (r_30.1), .int v5_4, .int v5_5, .int (r_30.2.1), .int (r_30.2.2.1), .int v5_8, .int v5_9])), (a5_1, .inl (cyI, 400, .inl r_30.2.2.2)), (o6, .inr (6, [.ref o7, .ref o4, .ref o0, .ref o5]))]) hP hD [15, 16, 17] [0, 1, 2, 3, 4, 5, 6, 7, 8, 9, 10, 11, 12, 13, 14] rfl rfl (by decide) (by decide) hk1 hFc hP1 hD1
          clear hz1 hk1 hPc hDc hFc hP1 hK1 hD1 ht hvm t u
          generalize H1 = H at hP hS ⊢
          have hP : va_P (dC, dI) vwCl [(o7, .inr (7, [.ref a7_0, .ref a7_1, .int v7_2])), (a7_0, .inl (cyI, 200, .inl g7_0)), (a7_1, .inl (cyZ, 200, .inl g7_1)), (o4, .inr (4, [.ref a4_0, .ref a4_1, .int v4_2, .ref a4_3, .ref a4_4, .ref a4_5, .ref a4_6, .ref a4_7, .int v4_8])), (a4_0, .inl (cyI, 100, .inl g4_0)), (a4_1, .inl (cyI, 100, .inl g4_1)), (a4_3, .inl (cyI, 100, .inl g4_3)), (a4_4, .inl (cyI, 100, .inl g4_4)), (a4_5, .inl (cyZ, 100, .inl g4_5)), (a4_6, .inl (cyI, 2000, .inl g4_6)), (a4_7, .inl (cyI, 100, .inl g4_7)), (o0, .inr (0, [.int v0_0, .int v0_1, .int v0_2, .int v0_3, .int v0_4, .ref a0_5, .int v0_6, .ref a0_7, .ref a0_8, .ref a0_9, .int v0_10, .ref a0_11, .ref a0_12, .ref a0_13, .ref a0_14, .int v0_15, .ref a0_16])), (a0_7, .inl (cyI, 1000, .inl g0_7)), (a0_8, .inl (cyI, 1000, .inl g0_8)), (a0_9, .inl (cyI, 1000, .inl g0_9)), (o5, .inr (5, [.ref o7, .ref a5_1, .int v5_2, .int (r_30.1), .int v5_4, .int v5_5, .int (r_30.2.1), .int (r_30.2.2.1), .int v5_8, .int v5_9])), (a5_1, .inl (cyI, 400, .inl r_30.2.2.2)), (o6, .inr (6, [.ref o7, .ref o4, .ref o0, .ref o5]))] H := hP
          have hD : va_D A [(o7, .inr (7, [.ref a7_0, .ref a7_1, .int v7_2])), (a7_0, .inl (cyI, 200, .inl g7_0)), (a7_1, .inl (cyZ, 200, .inl g7_1)), (o4, .inr (4, [.ref a4_0, .ref a4_1, .int v4_2, .ref a4_3, .ref a4_4, .ref a4_5, .ref a4_6, .ref a4_7, .int v4_8])), (a4_0, .inl (cyI, 100, .inl g4_0)), (a4_1, .inl (cyI, 100, .inl g4_1)), (a4_3, .inl (cyI, 100, .inl g4_3)), (a4_4, .inl (cyI, 100, .inl g4_4)), (a4_5, .inl (cyZ, 100, .inl g4_5)), (a4_6, .inl (cyI, 2000, .inl g4_6)), (a4_7, .inl (cyI, 100, .inl g4_7)), (o0, .inr (0, [.int v0_0, .int v0_1, .int v0_2, .int v0_3, .int v0_4, .ref a0_5, .int v0_6, .ref a0_7, .ref a0_8, .ref a0_9, .int v0_10, .ref a0_11, .ref a0_12, .ref a0_13, .ref a0_14, .int v0_15, .ref a0_16])), (a0_7, .inl (cyI, 1000, .inl g0_7)), (a0_8, .inl (cyI, 1000, .inl g0_8)), (a0_9, .inl (cyI, 1000, .inl g0_9)), (o5, .inr (5, [.ref o7, .ref a5_1, .int v5_2, .int (r_30.1), .int v5_4, .int v5_5, .int (r_30.2.1), .int (r_30.2.2.1), .int v5_8, .int v5_9])), (a5_1, .inl (cyI, 400, .inl r_30.2.2.2)), (o6, .inr (6, [.ref o7, .ref o4, .ref o0, .ref o5]))] := hD
          refine lv_goto (tgt := 250) hx hb dX6_step_85 (by decide) ?_
          obtain rfl := Option.some.inj hf
          have hP9 := hP.sub (ws' := [(o7, .inr (7, [.ref a7_0, .ref a7_1, .int v7_2])), (a7_0, .inl (cyI, 200, .inl g7_0)), (a7_1, .inl (cyZ, 200, .inl g7_1)), (o4, .inr (4, [.ref a4_0, .ref a4_1, .int v4_2, .ref a4_3, .ref a4_4, .ref a4_5, .ref a4_6, .ref a4_7, .int v4_8])), (a4_0, .inl (cyI, 100, .inl g4_0)), (a4_1, .inl (cyI, 100, .inl g4_1)), (a4_3, .inl (cyI, 100, .inl g4_3)), (a4_4, .inl (cyI, 100, .inl g4_4)), (a4_5, .inl (cyZ, 100, .inl g4_5)), (a4_6, .inl (cyI, 2000, .inl g4_6)), (a4_7, .inl (cyI, 100, .inl g4_7)), (o0, .inr (0, [.int v0_0, .int v0_1, .int v0_2, .int v0_3, .int v0_4, .ref a0_5, .int v0_6, .ref a0_7, .ref a0_8, .ref a0_9, .int v0_10, .ref a0_11, .ref a0_12, .ref a0_13, .ref a0_14, .int v0_15, .ref a0_16])), (a0_7, .inl (cyI, 1000, .inl g0_7)), (a0_8, .inl (cyI, 1000, .inl g0_8)), (a0_9, .inl (cyI, 1000, .inl g0_9)), (o5, .inr (5, [.ref o7, .ref a5_1, .int v5_2, .int (r_30.1), .int v5_4, .int v5_5, .int (r_30.2.1), .int (r_30.2.2.1), .int v5_8, .int v5_9])), (a5_1, .inl (cyI, 400, .inl r_30.2.2.2)), (o6, .inr (6, [.ref o7, .ref o4, .ref o0, .ref o5]))]) [0, 1, 2, 3, 4, 5, 6, 7, 8, 9, 10, 11, 12, 13, 14, 15, 16, 17] rfl
          have hD9 := hD.sub (ws' := [(o7, .inr (7, [.ref a7_0, .ref a7_1, .int v7_2])), (a7_0, .inl (cyI, 200, .inl g7_0)), (a7_1, .inl (cyZ, 200, .inl g7_1)), (o4, .inr (4, [.ref a4_0, .ref a4_1, .int v4_2, .ref a4_3, .ref a4_4, .ref a4_5, .ref a4_6, .ref a4_7, .int v4_8])), (a4_0, .inl (cyI, 100, .inl g4_0)), (a4_1, .inl (cyI, 100, .inl g4_1)), (a4_3, .inl (cyI, 100, .inl g4_3)), (a4_4, .inl (cyI, 100, .inl g4_4)), (a4_5, .inl (cyZ, 100, .inl g4_5)), (a4_6, .inl (cyI, 2000, .inl g4_6)), (a4_7, .inl (cyI, 100, .inl g4_7)), (o0, .inr (0, [.int v0_0, .int v0_1, .int v0_2, .int v0_3, .int v0_4, .ref a0_5, .int v0_6, .ref a0_7, .ref a0_8, .ref a0_9, .int v0_10, .ref a0_11, .ref a0_12, .ref a0_13, .ref a0_14, .int v0_15, .ref a0_16])), (a0_7, .inl (cyI, 1000, .inl g0_7)), (a0_8, .inl (cyI, 1000, .inl g0_8)), (a0_9, .inl (cyI, 1000, .inl g0_9)), (o5, .inr (5, [.ref o7, .ref a5_1, .int v5_2, .int (r_30.1), .int v5_4, .int v5_5, .int (r_30.2.1), .int (r_30.2.2.1), .int v5_8, .int v5_9])), (a5_1, .inl (cyI, 400, .inl r_30.2.2.2)), (o6, .inr (6, [.ref o7, .ref o4, .ref o0, .ref o5]))]) [0, 1, 2, 3, 4, 5, 6, 7, 8, 9, 10, 11, 12, 13, 14, 15, 16, 17] (by decide) rfl
          exact W.vret hx hb hr (fun t ht hW => ⟨⟨(), rfl, trivial, by rw [ht]; exact hP9, va_K.moved hW.alike hK, hD9⟩, hS.F ht⟩) hS.2.2 dX6_step_250
      · replace hf := x_in c_5 hf
        refine lv_aload_n hx hb dX6_step_59 rfl (lv_at hl 2 rfl) ?_
        refine lv_iload_n hx hb dX6_step_60 rfl (lv_at hl 1 rfl) ?_
        refine lv_bipush (v := 46) hx hb dX6_step_61 (by decide) ?_
        refine lv_isub hx hb dX6_step_63 ?_
        obtain ⟨r_31, h_31, hf⟩ := x_bi hf
        have hPc := hP.sub (ws' := [(o5, .inr (5, [.ref o7, .ref a5_1, .int v5_2, .int v5_3, .int v5_4, .int v5_5, .int v5_6, .int v5_7, .int v5_8, .int v5_9])), (a5_1, .inl (cyI, 400, .inl g5_1)), (o6, .inr (6, [.ref o7, .ref o4, .ref o0, .ref o5]))]) [15, 16, 17] rfl
        have hDc := hD.sub (ws' := [(o5, .inr (5, [.ref o7, .ref a5_1, .int v5_2, .int v5_3, .int v5_4, .int v5_5, .int v5_6, .int v5_7, .int v5_8, .int v5_9])), (a5_1, .inl (cyI, 400, .inl g5_1)), (o6, .inr (6, [.ref o7, .ref o4, .ref o0, .ref o5]))]) [15, 16, 17] (by decide) rfl
        have hFc := va_free (wc := [(o5, .inr (5, [.ref o7, .ref a5_1, .int v5_2, .int v5_3, .int v5_4, .int v5_5, .int v5_6, .int v5_7, .int v5_8, .int v5_9])), (a5_1, .inl (cyI, 400, .inl g5_1)), (o6, .inr (6, [.ref o7, .ref o4, .ref o0, .ref o5]))]) hD hS hA [15, 16, 17] rfl
        refine va_callv (va_runV (As := [.int ((g0_7 (Int32.toNatClampNeg p1)) - (46 : Int32))]) (rest := []) ⟨hx, hb, hml, hown, hts⟩ (c_X6_loadElement l dC dI cyI cyZ cyJ H.size base o5 o7 a5_1 v5_2 v5_3 v5_4 v5_5 v5_6 v5_7 v5_8 v5_9 g5_1 o6 o4 o0 ((g0_7 (Int32.toNatClampNeg p1)) - (46 : Int32)) r_31 h_31) (cwV 1 hts gX6_step_X6_loadElement rfl rfl rfl (by decide +kernel) ⟨Nat.le_of_ble_eq_true rfl, Nat.le_of_ble_eq_true rfl⟩) (x_pVT hT hN hK hPc (hDc.weaken (fun _ _ _ h8 => hAb _ h8)) hbz hS.1 (fun q h1 h2 => hS.2.1 q h1 (fun h9 => h2 (hAb q h9))) (ci := 6) (q0 := 2) rfl rfl) rfl rfl hl.1 rfl (lv_room (Nat.le_of_ble_eq_true rfl)) dX6_step_64 ⟨Nat.le_of_ble_eq_true rfl, Nat.le_of_ble_eq_true rfl⟩) hS (fun q _ h => hFc q h) hFc (fun u t H1 locs ht hvm hw hB hz1 hk1 hS => ?_)
        obtain ⟨hP1, hK1, hD1⟩ := hB
        rw [ht] at hP1
        obtain ⟨hP, hD⟩ := va_join (wr := [(o7, .inr (7, [.ref a7_0, .ref a7_1, .int v7_2])), (a7_0, .inl (cyI, 200, .inl g7_0)), (a7_1, .inl (cyZ, 200, .inl g7_1)), (o4, .inr (4, [.ref a4_0, .ref a4_1, .int v4_2, .ref a4_3, .ref a4_4, .ref a4_5, .ref a4_6, .ref a4_7, .int v4_8])), (a4_0, .inl (cyI, 100, .inl g4_0)), (a4_1, .inl (cyI, 100, .inl g4_1)), (a4_3, .inl (cyI, 100, .inl g4_3)), (a4_4, .inl (cyI, 100, .inl g4_4)), (a4_5, .inl (cyZ, 100, .inl g4_5)), (a4_6, .inl (cyI, 2000, .inl g4_6)), (a4_7, .inl (cyI, 100, .inl g4_7)), (o0, .inr (0, [.int v0_0, .int v0_1, .int v0_2, .int v0_3, .int v0_4, .ref a0_5, .int v0_6, .ref a0_7, .ref a0_8, .ref a0_9, .int v0_10, .ref a0_11, .ref a0_12, .ref a0_13, .ref a0_14, .int v0_15, .ref a0_16])), (a0_7, .inl (cyI, 1000, .inl g0_7)), (a0_8, .inl (cyI, 1000, .inl g0_8)), (a0_9, .inl (cyI, 1000, .inl g0_9))]) (w1 := [(o5, .inr (5, [.ref o7, .ref a5_1, .int v5_2, .int (r_31.1), .int v5_4, .int v5_5, .int (r_31.2.1), .int v5_7, .int v5_8, .int v5_9])), (a5_1, .inl (cyI, 400, .inl r_31.2.2)), (o6, .inr (6, [.ref o7, .ref o4, .ref o0, .ref o5]))]) hP hD [15, 16, 17] [0, 1, 2, 3, 4, 5, 6, 7, 8, 9, 10, 11, 12, 13, 14] rfl rfl (by decide) (by decide) hk1 hFc hP1 hD1
        clear hz1 hk1 hPc hDc hFc hP1 hK1 hD1 ht hvm t u
        generalize H1 = H at hP hS ⊢
        have hP : va_P (dC, dI) vwCl [(o7, .inr (7, [.ref a7_0, .ref a7_1, .int v7_2])), (a7_0, .inl (cyI, 200, .inl g7_0)), (a7_1, .inl (cyZ, 200, .inl g7_1)), (o4, .inr (4, [.ref a4_0, .ref a4_1, .int v4_2, .ref a4_3, .ref a4_4, .ref a4_5, .ref a4_6, .ref a4_7, .int v4_8])), (a4_0, .inl (cyI, 100, .inl g4_0)), (a4_1, .inl (cyI, 100, .inl g4_1)), (a4_3, .inl (cyI, 100, .inl g4_3)), (a4_4, .inl (cyI, 100, .inl g4_4)), (a4_5, .inl (cyZ, 100, .inl g4_5)), (a4_6, .inl (cyI, 2000, .inl g4_6)), (a4_7, .inl (cyI, 100, .inl g4_7)), (o0, .inr (0, [.int v0_0, .int v0_1, .int v0_2, .int v0_3, .int v0_4, .ref a0_5, .int v0_6, .ref a0_7, .ref a0_8, .ref a0_9, .int v0_10, .ref a0_11, .ref a0_12, .ref a0_13, .ref a0_14, .int v0_15, .ref a0_16])), (a0_7, .inl (cyI, 1000, .inl g0_7)), (a0_8, .inl (cyI, 1000, .inl g0_8)), (a0_9, .inl (cyI, 1000, .inl g0_9)), (o5, .inr (5, [.ref o7, .ref a5_1, .int v5_2, .int (r_31.1), .int v5_4, .int v5_5, .int (r_31.2.1), .int v5_7, .int v5_8, .int v5_9])), (a5_1, .inl (cyI, 400, .inl r_31.2.2)), (o6, .inr (6, [.ref o7, .ref o4, .ref o0, .ref o5]))] H := hP
        have hD : va_D A [(o7, .inr (7, [.ref a7_0, .ref a7_1, .int v7_2])), (a7_0, .inl (cyI, 200, .inl g7_0)), (a7_1, .inl (cyZ, 200, .inl g7_1)), (o4, .inr (4, [.ref a4_0, .ref a4_1, .int v4_2, .ref a4_3, .ref a4_4, .ref a4_5, .ref a4_6, .ref a4_7, .int v4_8])), (a4_0, .inl (cyI, 100, .inl g4_0)), (a4_1, .inl (cyI, 100, .inl g4_1)), (a4_3, .inl (cyI, 100, .inl g4_3)), (a4_4, .inl (cyI, 100, .inl g4_4)), (a4_5, .inl (cyZ, 100, .inl g4_5)), (a4_6, .inl (cyI, 2000, .inl g4_6)), (a4_7, .inl (cyI, 100, .inl g4_7)), (o0, .inr (0, [.int v0_0, .int v0_1, .int v0_2, .int v0_3, .int v0_4, .ref a0_5, .int v0_6, .ref a0_7, .ref a0_8, .ref a0_9, .int v0_10, .ref a0_11, .ref a0_12, .ref a0_13, .ref a0_14, .int v0_15, .ref a0_16])), (a0_7, .inl (cyI, 1000, .inl g0_7)), (a0_8, .inl (cyI, 1000, .inl g0_8)), (a0_9, .inl (cyI, 1000, .inl g0_9)), (o5, .inr (5, [.ref o7, .ref a5_1, .int v5_2, .int (r_31.1), .int v5_4, .int v5_5, .int (r_31.2.1), .int v5_7, .int v5_8, .int v5_9])), (a5_1, .inl (cyI, 400, .inl r_31.2.2)), (o6, .inr (6, [.ref o7, .ref o4, .ref o0, .ref o5]))] := hD
        refine lv_goto (tgt := 250) hx hb dX6_step_67 (by decide) ?_
        obtain rfl := Option.some.inj hf
        have hP9 := hP.sub (ws' := [(o7, .inr (7, [.ref a7_0, .ref a7_1, .int v7_2])), (a7_0, .inl (cyI, 200, .inl g7_0)), (a7_1, .inl (cyZ, 200, .inl g7_1)), (o4, .inr (4, [.ref a4_0, .ref a4_1, .int v4_2, .ref a4_3, .ref a4_4, .ref a4_5, .ref a4_6, .ref a4_7, .int v4_8])), (a4_0, .inl (cyI, 100, .inl g4_0)), (a4_1, .inl (cyI, 100, .inl g4_1)), (a4_3, .inl (cyI, 100, .inl g4_3)), (a4_4, .inl (cyI, 100, .inl g4_4)), (a4_5, .inl (cyZ, 100, .inl g4_5)), (a4_6, .inl (cyI, 2000, .inl g4_6)), (a4_7, .inl (cyI, 100, .inl g4_7)), (o0, .inr (0, [.int v0_0, .int v0_1, .int v0_2, .int v0_3, .int v0_4, .ref a0_5, .int v0_6, .ref a0_7, .ref a0_8, .ref a0_9, .int v0_10, .ref a0_11, .ref a0_12, .ref a0_13, .ref a0_14, .int v0_15, .ref a0_16])), (a0_7, .inl (cyI, 1000, .inl g0_7)), (a0_8, .inl (cyI, 1000, .inl g0_8)), (a0_9, .inl (cyI, 1000, .inl g0_9)), (o5, .inr (5, [.ref o7, .ref a5_1, .int v5_2, .int (r_31.1), .int v5_4, .int v5_5, .int (r_31.2.1), .int v5_7, .int v5_8, .int v5_9])), (a5_1, .inl (cyI, 400, .inl r_31.2.2)), (o6, .inr (6, [.ref o7, .ref o4, .ref o0, .ref o5]))]) [0, 1, 2, 3, 4, 5, 6, 7, 8, 9, 10, 11, 12, 13, 14, 15, 16, 17] rfl
        have hD9 := hD.sub (ws' := [(o7, .inr (7, [.ref a7_0, .ref a7_1, .int v7_2])), (a7_0, .inl (cyI, 200, .inl g7_0)), (a7_1, .inl (cyZ, 200, .inl g7_1)), (o4, .inr (4, [.ref a4_0, .ref a4_1, .int v4_2, .ref a4_3, .ref a4_4, .ref a4_5, .ref a4_6, .ref a4_7, .int v4_8])), (a4_0, .inl (cyI, 100, .inl g4_0)), (a4_1, .inl (cyI, 100, .inl g4_1)), (a4_3, .inl (cyI, 100, .inl g4_3)), (a4_4, .inl (cyI, 100, .inl g4_4)), (a4_5, .inl (cyZ, 100, .inl g4_5)), (a4_6, .inl (cyI, 2000, .inl g4_6)), (a4_7, .inl (cyI, 100, .inl g4_7)), (o0, .inr (0, [.int v0_0, .int v0_1, .int v0_2, .int v0_3, .int v0_4, .ref a0_5, .int v0_6, .ref a0_7, .ref a0_8, .ref a0_9, .int v0_10, .ref a0_11, .ref a0_12, .ref a0_13, .ref a0_14, .int v0_15, .ref a0_16])), (a0_7, .inl (cyI, 1000, .inl g0_7)), (a0_8, .inl (cyI, 1000, .inl g0_8)), (a0_9, .inl (cyI, 1000, .inl g0_9)), (o5, .inr (5, [.ref o7, .ref a5_1, .int v5_2, .int (r_31.1), .int v5_4, .int v5_5, .int (r_31.2.1), .int v5_7, .int v5_8, .int v5_9])), (a5_1, .inl (cyI, 400, .inl r_31.2.2)), (o6, .inr (6, [.ref o7, .ref o4, .ref o0, .ref o5]))]) [0, 1, 2, 3, 4, 5, 6, 7, 8, 9, 10, 11, 12, 13, 14, 15, 16, 17] (by decide) rfl
        exact W.vret hx hb hr (fun t ht hW => ⟨⟨(), rfl, trivial, by rw [ht]; exact hP9, va_K.moved hW.alike hK, hD9⟩, hS.F ht⟩) hS.2.2 dX6_step_250
    · replace hf := x_in c_4 hf
      refine lv_aload_n hx hb dX6_step_41 rfl (lv_at hl 2 rfl) ?_
      refine lv_iload_n hx hb dX6_step_42 rfl (lv_at hl 1 rfl) ?_
      refine lv_bipush (v := 21) hx hb dX6_step_43 (by decide) ?_
      refine lv_isub hx hb dX6_step_45 ?_
      refine lv_iload_n hx hb dX6_step_46 rfl (lv_at hl 0 rfl) ?_
      obtain ⟨r_32, h_32, hf⟩ := x_bi hf
      have hPc := hP.sub (ws' := [(o5, .inr (5, [.ref o7, .ref a5_1, .int v5_2, .int v5_3, .int v5_4, .int v5_5, .int v5_6, .int v5_7, .int v5_8, .int v5_9])), (a5_1, .inl (cyI, 400, .inl g5_1)), (o6, .inr (6, [.ref o7, .ref o4, .ref o0, .ref o5]))]) [15, 16, 17] rfl
      have hDc := hD.sub (ws' := [(o5, .inr (5, [.ref o7, .ref a5_1, .int v5_2, .int v5_3, .int v5_4, .int v5_5, .int v5_6, .int v5_7, .int v5_8, .int v5_9])), (a5_1, .inl (cyI, 400, .inl g5_1)), (o6, .inr (6, [.ref o7, .ref o4, .ref o0, .ref o5]))]) [15, 16, 17] (by decide) rfl
      have hFc := va_free (wc := [(o5, .inr (5, [.ref o7, .ref a5_1, .int v5_2, .int v5_3, .int v5_4, .int v5_5, .int v5_6, .int v5_7, .int v5_8, .int v5_9])), (a5_1, .inl (cyI, 400, .inl g5_1)), (o6, .inr (6, [.ref o7, .ref o4, .ref o0, .ref o5]))]) hD hS hA [15, 16, 17] rfl
      refine va_callv (va_runV (As := [.int ((g0_7 (Int32.toNatClampNeg p1)) - (21 : Int32)), .int (g0_8 (Int32.toNatClampNeg p1))]) (rest := []) ⟨hx, hb, hml, hown, hts⟩ (c_X6_load l dC dI cyI cyZ cyJ H.size base o5 o7 a5_1 v5_2 v5_3 v5_4 v5_5 v5_6 v5_7 v5_8 v5_9 g5_1 o6 o4 o0 ((g0_7 (Int32.toNatClampNeg p1)) - (21 : Int32)) (g0_8 (Int32.toNatClampNeg p1)) r_32 h_32) (cwV 2 hts gX6_step_X6_load rfl rfl rfl (by decide +kernel) ⟨Nat.le_of_ble_eq_true rfl, Nat.le_of_ble_eq_true rfl⟩) (x_pVT hT hN hK hPc (hDc.weaken (fun _ _ _ h8 => hAb _ h8)) hbz hS.1 (fun q h1 h2 => hS.2.1 q h1 (fun h9 => h2 (hAb q h9))) (ci := 6) (q0 := 2) rfl rfl) rfl rfl hl.1 rfl (lv_room (Nat.le_of_ble_eq_true rfl)) dX6_step_47 ⟨Nat.le_of_ble_eq_true rfl, Nat.le_of_ble_eq_true rfl⟩) hS (fun q _ h => hFc q h) hFc (fun u t H1 locs ht hvm hw hB hz1 hk1 hS => ?_)
      obtain ⟨hP1, hK1, hD1⟩ := hB
      rw [ht] at hP1
      obtain ⟨hP, hD⟩ := va_join (wr := [(o7, .inr (7, [.ref a7_0, .ref a7_1, .int v7_2])), (a7_0, .inl (cyI, 200, .inl g7_0)), (a7_1, .inl (cyZ, 200, .inl g7_1)), (o4, .inr (4, [.ref a4_0, .ref a4_1, .int v4_2, .ref a4_3, .ref a4_4, .ref a4_5, .ref a4_6, .ref a4_7, .int v4_8])), (a4_0, .inl (cyI, 100, .inl g4_0)), (a4_1, .inl (cyI, 100, .inl g4_1)), (a4_3, .inl (cyI, 100, .inl g4_3)), (a4_4, .inl (cyI, 100, .inl g4_4)), (a4_5, .inl (cyZ, 100, .inl g4_5)), (a4_6, .inl (cyI, 2000, .inl g4_6)), (a4_7, .inl (cyI, 100, .inl g4_7)), (o0, .inr (0, [.int v0_0, .int v0_1, .int v0_2, .int v0_3, .int v0_4, .ref a0_5, .int v0_6, .ref a0_7, .ref a0_8, .ref a0_9, .int v0_10, .ref a0_11, .ref a0_12, .ref a0_13, .ref a0_14, .int v0_15, .ref a0_16])), (a0_7, .inl (cyI, 1000, .inl g0_7)), (a0_8, .inl (cyI, 1000, .inl g0_8)), (a0_9, .inl (cyI, 1000, .inl g0_9))]) (w1 := [(o5, .inr (5, [.ref o7, .ref a5_1, .int v5_2, .int (r_32.1), .int v5_4, .int v5_5, .int (r_32.2.1), .int v5_7, .int v5_8, .int v5_9])), (a5_1, .inl (cyI, 400, .inl r_32.2.2)), (o6, .inr (6, [.ref o7, .ref o4, .ref o0, .ref o5]))]) hP hD [15, 16, 17] [0, 1, 2, 3, 4, 5, 6, 7, 8, 9, 10, 11, 12, 13, 14] rfl rfl (by decide) (by decide) hk1 hFc hP1 hD1
      clear hz1 hk1 hPc hDc hFc hP1 hK1 hD1 ht hvm t u
      generalize H1 = H at hP hS ⊢
      have hP : va_P (dC, dI) vwCl [(o7, .inr (7, [.ref a7_0, .ref a7_1, .int v7_2])), (a7_0, .inl (cyI, 200, .inl g7_0)), (a7_1, .inl (cyZ, 200, .inl g7_1)), (o4, .inr (4, [.ref a4_0, .ref a4_1, .int v4_2, .ref a4_3, .ref a4_4, .ref a4_5, .ref a4_6, .ref a4_7, .int v4_8])), (a4_0, .inl (cyI, 100, .inl g4_0)), (a4_1, .inl (cyI, 100, .inl g4_1)), (a4_3, .inl (cyI, 100, .inl g4_3)), (a4_4, .inl (cyI, 100, .inl g4_4)), (a4_5, .inl (cyZ, 100, .inl g4_5)), (a4_6, .inl (cyI, 2000, .inl g4_6)), (a4_7, .inl (cyI, 100, .inl g4_7)), (o0, .inr (0, [.int v0_0, .int v0_1, .int v0_2, .int v0_3, .int v0_4, .ref a0_5, .int v0_6, .ref a0_7, .ref a0_8, .ref a0_9, .int v0_10, .ref a0_11, .ref a0_12, .ref a0_13, .ref a0_14, .int v0_15, .ref a0_16])), (a0_7, .inl (cyI, 1000, .inl g0_7)), (a0_8, .inl (cyI, 1000, .inl g0_8)), (a0_9, .inl (cyI, 1000, .inl g0_9)), (o5, .inr (5, [.ref o7, .ref a5_1, .int v5_2, .int (r_32.1), .int v5_4, .int v5_5, .int (r_32.2.1), .int v5_7, .int v5_8, .int v5_9])), (a5_1, .inl (cyI, 400, .inl r_32.2.2)), (o6, .inr (6, [.ref o7, .ref o4, .ref o0, .ref o5]))] H := hP
      have hD : va_D A [(o7, .inr (7, [.ref a7_0, .ref a7_1, .int v7_2])), (a7_0, .inl (cyI, 200, .inl g7_0)), (a7_1, .inl (cyZ, 200, .inl g7_1)), (o4, .inr (4, [.ref a4_0, .ref a4_1, .int v4_2, .ref a4_3, .ref a4_4, .ref a4_5, .ref a4_6, .ref a4_7, .int v4_8])), (a4_0, .inl (cyI, 100, .inl g4_0)), (a4_1, .inl (cyI, 100, .inl g4_1)), (a4_3, .inl (cyI, 100, .inl g4_3)), (a4_4, .inl (cyI, 100, .inl g4_4)), (a4_5, .inl (cyZ, 100, .inl g4_5)), (a4_6, .inl (cyI, 2000, .inl g4_6)), (a4_7, .inl (cyI, 100, .inl g4_7)), (o0, .inr (0, [.int v0_0, .int v0_1, .int v0_2, .int v0_3, .int v0_4, .ref a0_5, .int v0_6, .ref a0_7, .ref a0_8, .ref a0_9, .int v0_10, .ref a0_11, .ref a0_12, .ref a0_13, .ref a0_14, .int v0_15, .ref a0_16])), (a0_7, .inl (cyI, 1000, .inl g0_7)), (a0_8, .inl (cyI, 1000, .inl g0_8)), (a0_9, .inl (cyI, 1000, .inl g0_9)), (o5, .inr (5, [.ref o7, .ref a5_1, .int v5_2, .int (r_32.1), .int v5_4, .int v5_5, .int (r_32.2.1), .int v5_7, .int v5_8, .int v5_9])), (a5_1, .inl (cyI, 400, .inl r_32.2.2)), (o6, .inr (6, [.ref o7, .ref o4, .ref o0, .ref o5]))] := hD
      refine lv_goto (tgt := 250) hx hb dX6_step_50 (by decide) ?_
      obtain rfl := Option.some.inj hf
      have hP9 := hP.sub (ws' := [(o7, .inr (7, [.ref a7_0, .ref a7_1, .int v7_2])), (a7_0, .inl (cyI, 200, .inl g7_0)), (a7_1, .inl (cyZ, 200, .inl g7_1)), (o4, .inr (4, [.ref a4_0, .ref a4_1, .int v4_2, .ref a4_3, .ref a4_4, .ref a4_5, .ref a4_6, .ref a4_7, .int v4_8])), (a4_0, .inl (cyI, 100, .inl g4_0)), (a4_1, .inl (cyI, 100, .inl g4_1)), (a4_3, .inl (cyI, 100, .inl g4_3)), (a4_4, .inl (cyI, 100, .inl g4_4)), (a4_5, .inl (cyZ, 100, .inl g4_5)), (a4_6, .inl (cyI, 2000, .inl g4_6)), (a4_7, .inl (cyI, 100, .inl g4_7)), (o0, .inr (0, [.int v0_0, .int v0_1, .int v0_2, .int v0_3, .int v0_4, .ref a0_5, .int v0_6, .ref a0_7, .ref a0_8, .ref a0_9, .int v0_10, .ref a0_11, .ref a0_12, .ref a0_13, .ref a0_14, .int v0_15, .ref a0_16])), (a0_7, .inl (cyI, 1000, .inl g0_7)), (a0_8, .inl (cyI, 1000, .inl g0_8)), (a0_9, .inl (cyI, 1000, .inl g0_9)), (o5, .inr (5, [.ref o7, .ref a5_1, .int v5_2, .int (r_32.1), .int v5_4, .int v5_5, .int (r_32.2.1), .int v5_7, .int v5_8, .int v5_9])), (a5_1, .inl (cyI, 400, .inl r_32.2.2)), (o6, .inr (6, [.ref o7, .ref o4, .ref o0, .ref o5]))]) [0, 1, 2, 3, 4, 5, 6, 7, 8, 9, 10, 11, 12, 13, 14, 15, 16, 17] rfl
      have hD9 := hD.sub (ws' := [(o7, .inr (7, [.ref a7_0, .ref a7_1, .int v7_2])), (a7_0, .inl (cyI, 200, .inl g7_0)), (a7_1, .inl (cyZ, 200, .inl g7_1)), (o4, .inr (4, [.ref a4_0, .ref a4_1, .int v4_2, .ref a4_3, .ref a4_4, .ref a4_5, .ref a4_6, .ref a4_7, .int v4_8])), (a4_0, .inl (cyI, 100, .inl g4_0)), (a4_1, .inl (cyI, 100, .inl g4_1)), (a4_3, .inl (cyI, 100, .inl g4_3)), (a4_4, .inl (cyI, 100, .inl g4_4)), (a4_5, .inl (cyZ, 100, .inl g4_5)), (a4_6, .inl (cyI, 2000, .inl g4_6)), (a4_7, .inl (cyI, 100, .inl g4_7)), (o0, .inr (0, [.int v0_0, .int v0_1, .int v0_2, .int v0_3, .int v0_4, .ref a0_5, .int v0_6, .ref a0_7, .ref a0_8, .ref a0_9, .int v0_10, .ref a0_11, .ref a0_12, .ref a0_13, .ref a0_14, .int v0_15, .ref a0_16])), (a0_7, .inl (cyI, 1000, .inl g0_7)), (a0_8, .inl (cyI, 1000, .inl g0_8)), (a0_9, .inl (cyI, 1000, .inl g0_9)), (o5, .inr (5, [.ref o7, .ref a5_1, .int v5_2, .int (r_32.1), .int v5_4, .int v5_5, .int (r_32.2.1), .int v5_7, .int v5_8, .int v5_9])), (a5_1, .inl (cyI, 400, .inl r_32.2.2)), (o6, .inr (6, [.ref o7, .ref o4, .ref o0, .ref o5]))]) [0, 1, 2, 3, 4, 5, 6, 7, 8, 9, 10, 11, 12, 13, 14, 15, 16, 17] (by decide) rfl
      exact W.vret hx hb hr (fun t ht hW => ⟨⟨(), rfl, trivial, by rw [ht]; exact hP9, va_K.moved hW.alike hK, hD9⟩, hS.F ht⟩) hS.2.2 dX6_step_250
  · replace hf := x_in c_3 hf
    refine lv_aload_n hx hb dX6_step_26 rfl (lv_at hl 2 rfl) ?_
    refine lv_iload_n hx hb dX6_step_27 rfl (lv_at hl 1 rfl) ?_
    refine lv_iload_n hx hb dX6_step_28 rfl (lv_at hl 0 rfl) ?_
    obtain ⟨r_33, h_33, hf⟩ := x_bi hf
    have hPc := hP.sub (ws' := [(o5, .inr (5, [.ref o7, .ref a5_1, .int v5_2, .int v5_3, .int v5_4, .int v5_5, .int v5_6, .int v5_7, .int v5_8, .int v5_9])), (a5_1, .inl (cyI, 400, .inl g5_1)), (o6, .inr (6, [.ref o7, .ref o4, .ref o0, .ref o5]))]) [15, 16, 17] rfl
    have hDc := hD.sub (ws' := [(o5, .inr (5, [.ref o7, .ref a5_1, .int v5_2, .int v5_3, .int v5_4, .int v5_5, .int v5_6, .int v5_7, .int v5_8, .int v5_9])), (a5_1, .inl (cyI, 400, .inl g5_1)), (o6, .inr (6, [.ref o7, .ref o4, .ref o0, .ref o5]))]) [15, 16, 17] (by decide) rfl
    have hFc := va_free (wc := [(o5, .inr (5, [.ref o7, .ref a5_1, .int v5_2, .int v5_3, .int v5_4, .int v5_5, .int v5_6, .int v5_7, .int v5_8, .int v5_9])), (a5_1, .inl (cyI, 400, .inl g5_1)), (o6, .inr (6, [.ref o7, .ref o4, .ref o0, .ref o5]))]) hD hS hA [15, 16, 17] rfl
    refine va_callv (va_runV (As := [.int (g0_7 (Int32.toNatClampNeg p1)), .int (g0_8 (Int32.toNatClampNeg p1))]) (rest := []) ⟨hx, hb, hml, hown, hts⟩ (c_X6_pushConstant l dC dI cyI cyZ cyJ H.size base o5 o7 a5_1 v5_2 v5_3 v5_4 v5_5 v5_6 v5_7 v5_8 v5_9 g5_1 o6 o4 o0 (g0_7 (Int32.toNatClampNeg p1)) (g0_8 (Int32.toNatClampNeg p1)) r_33 h_33) (cwV 2 hts gX6_step_X6_pushConstant rfl rfl rfl (by decide +kernel) ⟨Nat.le_of_ble_eq_true rfl, Nat.le_of_ble_eq_true rfl⟩) (x_pVT hT hN hK hPc (hDc.weaken (fun _ _ _ h8 => hAb _ h8)) hbz hS.1 (fun q h1 h2 => hS.2.1 q h1 (fun h9 => h2 (hAb q h9))) (ci := 6) (q0 := 2) rfl rfl) rfl rfl hl.1 rfl (lv_room (Nat.le_of_ble_eq_true rfl)) dX6_step_29 ⟨Nat.le_of_ble_eq_true rfl, Nat.le_of_ble_eq_true rfl⟩) hS (fun q _ h => hFc q h) hFc (fun u t H1 locs ht hvm hw hB hz1 hk1 hS => ?_)
    obtain ⟨hP1, hK1, hD1⟩ := hB
    rw [ht] at hP1
    obtain ⟨hP, hD⟩ := va_join (wr := [(o7, .inr (7, [.ref a7_0, .ref a7_1, .int v7_2])), (a7_0, .inl (cyI, 200, .inl g7_0)), (a7_1, .inl (cyZ, 200, .inl g7_1)), (o4, .inr (4, [.ref a4_0, .ref a4_1, .int v4_2, .ref a4_3, .ref a4_4, .ref a4_5, .ref a4_6, .ref a4_7, .int v4_8])), (a4_0, .inl (cyI, 100, .inl g4_0)), (a4_1, .inl (cyI, 100, .inl g4_1)), (a4_3, .inl (cyI, 100, .inl g4_3)), (a4_4, .inl (cyI, 100, .inl g4_4)), (a4_5, .inl (cyZ, 100, .inl g4_5)), (a4_6, .inl (cyI, 2000, .inl g4_6)), (a4_7, .inl (cyI, 100, .inl g4_7)), (o0, .inr (0, [.int v0_0, .int v0_1, .int v0_2, .int v0_3, .int v0_4, .ref a0_5, .int v0_6, .ref a0_7, .ref a0_8, .ref a0_9, .int v0_10, .ref a0_11, .ref a0_12, .ref a0_13, .ref a0_14, .int v0_15, .ref a0_16])), (a0_7, .inl (cyI, 1000, .inl g0_7)), (a0_8, .inl (cyI, 1000, .inl g0_8)), (a0_9, .inl (cyI, 1000, .inl g0_9))]) (w1 := [(o5, .inr (5, [.ref o7, .ref a5_1, .int v5_2, .int (r_33.1), .int v5_4, .int v5_5, .int (r_33.2.1), .int v5_7, .int v5_8, .int v5_9])), (a5_1, .inl (cyI, 400, .inl r_33.2.2)), (o6, .inr (6, [.ref o7, .ref o4, .ref o0, .ref o5]))]) hP hD [15, 16, 17] [0, 1, 2, 3, 4, 5, 6, 7, 8, 9, 10, 11, 12, 13, 14] rfl rfl (by decide) (by decide) hk1 hFc hP1 hD1
    clear hz1 hk1 hPc hDc hFc hP1 hK1 hD1 ht hvm t u
    generalize H1 = H at hP hS ⊢
    have hP : va_P (dC, dI) vwCl [(o7, .inr (7, [.ref a7_0, .ref a7_1, .int v7_2])), (a7_0, .inl (cyI, 200, .inl g7_0)), (a7_1, .inl (cyZ, 200, .inl g7_1)), (o4, .inr (4, [.ref a4_0, .ref a4_1, .int v4_2, .ref a4_3, .ref a4_4, .ref a4_5, .ref a4_6, .ref a4_7, .int v4_8])), (a4_0, .inl (cyI, 100, .inl g4_0)), (a4_1, .inl (cyI, 100, .inl g4_1)), (a4_3, .inl (cyI, 100, .inl g4_3)), (a4_4, .inl (cyI, 100, .inl g4_4)), (a4_5, .inl (cyZ, 100, .inl g4_5)), (a4_6, .inl (cyI, 2000, .inl g4_6)), (a4_7, .inl (cyI, 100, .inl g4_7)), (o0, .inr (0, [.int v0_0, .int v0_1, .int v0_2, .int v0_3, .int v0_4, .ref a0_5, .int v0_6, .ref a0_7, .ref a0_8, .ref a0_9, .int v0_10, .ref a0_11, .ref a0_12, .ref a0_13, .ref a0_14, .int v0_15, .ref a0_16])), (a0_7, .inl (cyI, 1000, .inl g0_7)), (a0_8, .inl (cyI, 1000, .inl g0_8)), (a0_9, .inl (cyI, 1000, .inl g0_9)), (o5, .inr (5, [.ref o7, .ref a5_1, .int v5_2, .int (r_33.1), .int v5_4, .int v5_5, .int (r_33.2.1), .int v5_7, .int v5_8, .int v5_9])), (a5_1, .inl (cyI, 400, .inl r_33.2.2)), (o6, .inr (6, [.ref o7, .ref o4, .ref o0, .ref o5]))] H := hP
    have hD : va_D A [(o7, .inr (7, [.ref a7_0, .ref a7_1, .int v7_2])), (a7_0, .inl (cyI, 200, .inl g7_0)), (a7_1, .inl (cyZ, 200, .inl g7_1)), (o4, .inr (4, [.ref a4_0, .ref a4_1, .int v4_2, .ref a4_3, .ref a4_4, .ref a4_5, .ref a4_6, .ref a4_7, .int v4_8])), (a4_0, .inl (cyI, 100, .inl g4_0)), (a4_1, .inl (cyI, 100, .inl g4_1)), (a4_3, .inl (cyI, 100, .inl g4_3)), (a4_4, .inl (cyI, 100, .inl g4_4)), (a4_5, .inl (cyZ, 100, .inl g4_5)), (a4_6, .inl (cyI, 2000, .inl g4_6)), (a4_7, .inl (cyI, 100, .inl g4_7)), (o0, .inr (0, [.int v0_0, .int v0_1, .int v0_2, .int v0_3, .int v0_4, .ref a0_5, .int v0_6, .ref a0_7, .ref a0_8, .ref a0_9, .int v0_10, .ref a0_11, .ref a0_12, .ref a0_13, .ref a0_14, .int v0_15, .ref a0_16])), (a0_7, .inl (cyI, 1000, .inl g0_7)), (a0_8, .inl (cyI, 1000, .inl g0_8)), (a0_9, .inl (cyI, 1000, .inl g0_9)), (o5, .inr (5, [.ref o7, .ref a5_1, .int v5_2, .int (r_33.1), .int v5_4, .int v5_5, .int (r_33.2.1), .int v5_7, .int v5_8, .int v5_9])), (a5_1, .inl (cyI, 400, .inl r_33.2.2)), (o6, .inr (6, [.ref o7, .ref o4, .ref o0, .ref o5]))] := hD
    refine lv_goto (tgt := 250) hx hb dX6_step_32 (by decide) ?_
    obtain rfl := Option.some.inj hf
    have hP9 := hP.sub (ws' := [(o7, .inr (7, [.ref a7_0, .ref a7_1, .int v7_2])), (a7_0, .inl (cyI, 200, .inl g7_0)), (a7_1, .inl (cyZ, 200, .inl g7_1)), (o4, .inr (4, [.ref a4_0, .ref a4_1, .int v4_2, .ref a4_3, .ref a4_4, .ref a4_5, .ref a4_6, .ref a4_7, .int v4_8])), (a4_0, .inl (cyI, 100, .inl g4_0)), (a4_1, .inl (cyI, 100, .inl g4_1)), (a4_3, .inl (cyI, 100, .inl g4_3)), (a4_4, .inl (cyI, 100, .inl g4_4)), (a4_5, .inl (cyZ, 100, .inl g4_5)), (a4_6, .inl (cyI, 2000, .inl g4_6)), (a4_7, .inl (cyI, 100, .inl g4_7)), (o0, .inr (0, [.int v0_0, .int v0_1, .int v0_2, .int v0_3, .int v0_4, .ref a0_5, .int v0_6, .ref a0_7, .ref a0_8, .ref a0_9, .int v0_10, .ref a0_11, .ref a0_12, .ref a0_13, .ref a0_14, .int v0_15, .ref a0_16])), (a0_7, .inl (cyI, 1000, .inl g0_7)), (a0_8, .inl (cyI, 1000, .inl g0_8)), (a0_9, .inl (cyI, 1000, .inl g0_9)), (o5, .inr (5, [.ref o7, .ref a5_1, .int v5_2, .int (r_33.1), .int v5_4, .int v5_5, .int (r_33.2.1), .int v5_7, .int v5_8, .int v5_9])), (a5_1, .inl (cyI, 400, .inl r_33.2.2)), (o6, .inr (6, [.ref o7, .ref o4, .ref o0, .ref o5]))]) [0, 1, 2, 3, 4, 5, 6, 7, 8, 9, 10, 11, 12, 13, 14, 15, 16, 17] rfl
    have hD9 := hD.sub (ws' := [(o7, .inr (7, [.ref a7_0, .ref a7_1, .int v7_2])), (a7_0, .inl (cyI, 200, .inl g7_0)), (a7_1, .inl (cyZ, 200, .inl g7_1)), (o4, .inr (4, [.ref a4_0, .ref a4_1, .int v4_2, .ref a4_3, .ref a4_4, .ref a4_5, .ref a4_6, .ref a4_7, .int v4_8])), (a4_0, .inl (cyI, 100, .inl g4_0)), (a4_1, .inl (cyI, 100, .inl g4_1)), (a4_3, .inl (cyI, 100, .inl g4_3)), (a4_4, .inl (cyI, 100, .inl g4_4)), (a4_5, .inl (cyZ, 100, .inl g4_5)), (a4_6, .inl (cyI, 2000, .inl g4_6)), (a4_7, .inl (cyI, 100, .inl g4_7)), (o0, .inr (0, [.int v0_0, .int v0_1, .int v0_2, .int v0_3, .int v0_4, .ref a0_5, .int v0_6, .ref a0_7, .ref a0_8, .ref a0_9, .int v0_10, .ref a0_11, .ref a0_12, .ref a0_13, .ref a0_14, .int v0_15, .ref a0_16])), (a0_7, .inl (cyI, 1000, .inl g0_7)), (a0_8, .inl (cyI, 1000, .inl g0_8)), (a0_9, .inl (cyI, 1000, .inl g0_9)), (o5, .inr (5, [.ref o7, .ref a5_1, .int v5_2, .int (r_33.1), .int v5_4, .int v5_5, .int (r_33.2.1), .int v5_7, .int v5_8, .int v5_9])), (a5_1, .inl (cyI, 400, .inl r_33.2.2)), (o6, .inr (6, [.ref o7, .ref o4, .ref o0, .ref o5]))]) [0, 1, 2, 3, 4, 5, 6, 7, 8, 9, 10, 11, 12, 13, 14, 15, 16, 17] (by decide) rfl
    exact W.vret hx hb hr (fun t ht hW => ⟨⟨(), rfl, trivial, by rw [ht]; exact hP9, va_K.moved hW.alike hK, hD9⟩, hS.F ht⟩) hS.2.2 dX6_step_250

def f_X2_isInDoubt (v5_8 : Int32) (v5_9 : Int32) : Option (Int32 × Int32) := if x_01 v5_8 = true then some (v5_8, 1) else none
theorem i_X2_isInDoubt_X2 : ∀ w ∈ wsX20, w ∈ wsX2_isInDoubt := by decide +kernel
theorem i_X2_isInDoubt_X5 : ∀ w ∈ wsX50, w ∈ wsX2_isInDoubt := by decide +kernel
set_option maxHeartbeats 4000000 in
set_option maxRecDepth 100000 in
theorem c_X2_isInDoubt (l : Launch) (dC : Nat → ClassId) (dI : Nat → Nat → Nat) (cyI cyZ cyJ : ClassId) (sz : Nat) (o2 : Nat) (o7 : Nat) (o0 : Nat) (o1 : Nat) (o3 : Nat) (o5 : Nat) (o6 : Nat) (a5_1 : Nat) (v5_2 : Int32) (v5_3 : Int32) (v5_4 : Int32) (v5_5 : Int32) (v5_6 : Int32) (v5_7 : Int32) (v5_8 : Int32) (v5_9 : Int32) (R : Int32 × Int32) (hf : f_X2_isInDoubt v5_8 v5_9 = some R) : Met l yX2_isInDoubt wsX2_isInDoubt ({ frames := 0, cells := 0, slots := 0, locals := 0 }) (va_Pc [.ref o2] (x_PreD (dC, dI) (x_T cyI cyZ cyJ) [(o2, .inr (2, [.ref o7, .ref o0, .ref o1, .ref o3, .ref o5, .ref o6])), (o5, .inr (5, [.ref o7, .ref a5_1, .int v5_2, .int v5_3, .int v5_4, .int v5_5, .int v5_6, .int v5_7, .int v5_8, .int v5_9]))] sz)) (va_Qi (fun (r : Int32) (_ : Unit) => r = R.1 ∧ x_nb r) (fun (_ : Unit) (t : State) => va_P (dC, dI) vwCl [(o2, .inr (2, [.ref o7, .ref o0, .ref o1, .ref o3, .ref o5, .ref o6])), (o5, .inr (5, [.ref o7, .ref a5_1, .int v5_2, .int v5_3, .int v5_4, .int v5_5, .int v5_6, .int v5_7, .int v5_8, .int (R.2)]))] t.heap ∧ va_K (dC, dI) vwCl (x_T cyI cyZ cyJ) t ∧ va_D (va_A [(o2, .inr (2, [.ref o7, .ref o0, .ref o1, .ref o3, .ref o5, .ref o6])), (o5, .inr (5, [.ref o7, .ref a5_1, .int v5_2, .int v5_3, .int v5_4, .int v5_5, .int v5_6, .int v5_7, .int v5_8, .int v5_9]))] sz) [(o2, .inr (2, [.ref o7, .ref o0, .ref o1, .ref o3, .ref o5, .ref o6])), (o5, .inr (5, [.ref o7, .ref a5_1, .int v5_2, .int v5_3, .int v5_4, .int v5_5, .int v5_6, .int v5_7, .int v5_8, .int (R.2)]))]) (va_A [(o2, .inr (2, [.ref o7, .ref o0, .ref o1, .ref o3, .ref o5, .ref o6])), (o5, .inr (5, [.ref o7, .ref a5_1, .int v5_2, .int v5_3, .int v5_4, .int v5_5, .int v5_6, .int v5_7, .int v5_8, .int v5_9]))] sz)) 0 0 (va_A [(o2, .inr (2, [.ref o7, .ref o0, .ref o1, .ref o3, .ref o5, .ref o6])), (o5, .inr (5, [.ref o7, .ref a5_1, .int v5_2, .int v5_3, .int v5_4, .int v5_5, .int v5_6, .int v5_7, .int v5_8, .int v5_9]))] sz) := by
  refine Met.ofW (cc := cX2_isInDoubt) (maxL := 1) (ret := (some .boolean)) (by decide) rfl ?_
  intro p e s m args below meth c s₁ B hml hv
  obtain ⟨rfl, ⟨hsz, hP, hK, hN⟩, hD0⟩ := hv
  have hx := B.exec
  have hb := B.bytes
  have hr := B.returns
  have hts := atoms_spec (ws := wsX2_isInDoubt) B.pre
  have hown : s.vm.findClass RX2 = some m.cls := findClass_of_methodNamed B.named
  have k_1 := hts (.fieldLink RX2 32 "FlowJudge$Flow" "places" "LFlowJudge$Places;") (by decide +kernel)
  subst hsz
  have hD := hD0.self (sz := s.heap.size)
  generalize hAe : va_A [(o2, .inr (2, [.ref o7, .ref o0, .ref o1, .ref o3, .ref o5, .ref o6])), (o5, .inr (5, [.ref o7, .ref a5_1, .int v5_2, .int v5_3, .int v5_4, .int v5_5, .int v5_6, .int v5_7, .int v5_8, .int v5_9]))] s.heap.size = A at hD ⊢
  have hA : ∀ q : Nat, s.heap.size ≤ q → A q := fun q h => by rw [← hAe]; exact Or.inr h
  have hP : va_P (dC, dI) vwCl [(o2, .inr (2, [.ref o7, .ref o0, .ref o1, .ref o3, .ref o5, .ref o6])), (o5, .inr (5, [.ref o7, .ref a5_1, .int v5_2, .int v5_3, .int v5_4, .int v5_5, .int v5_6, .int v5_7, .int v5_8, .int v5_9]))] s.heap := hP
  have hl := lv_entry ([.ref o2]) (n := 1) (Nat.le_of_ble_eq_true rfl)
  rw [lg_entry_eq]
  generalize (lg_sl ([.ref o2]) ++ List.replicate (1 - (lg_sl ([.ref o2])).length) Slot.unset).toArray = ls at hl ⊢
  have hl : lv_has ls 1 [(0, .ref o2)] := hl
  obtain ⟨H, hH⟩ : ∃ z, z = s.heap := ⟨_, rfl⟩
  refine x_here hH ?_
  have hP : va_P (dC, dI) vwCl [(o2, .inr (2, [.ref o7, .ref o0, .ref o1, .ref o3, .ref o5, .ref o6])), (o5, .inr (5, [.ref o7, .ref a5_1, .int v5_2, .int v5_3, .int v5_4, .int v5_5, .int v5_6, .int v5_7, .int v5_8, .int v5_9]))] H := by rw [hH]; exact hP
  have hS : va_S A s.heap H [] := by rw [hH]; exact va_S.rf
  clear hH
  obtain ⟨locs, hlo⟩ : ∃ z : List Loc, z = [] := ⟨_, rfl⟩
  refine x_herl hlo ?_
  have hS : va_S A s.heap H locs := by rw [hlo]; exact hS
  clear hlo
  unfold f_X2_isInDoubt at hf
  refine lv_aload_n hx hb dX2_isInDoubt_0 rfl (lv_at hl 0 rfl) ?_
  refine va_get (D := (dC, dI)) (ci := 2) (v := .ref o5) (C := RX2) (T := TX2) (N := 6) hx hb hts i_X2_isInDoubt_X2 hown hK hP 0 rfl rfl 4 (by decide) k_1 (fun _ h9 => h9) rfl dX2_isInDoubt_1 ?_
  refine lv_iconst (v := 1) hx hb dX2_isInDoubt_4 (by decide) ?_
  refine va_putN (D := (dC, dI)) (ci := 5) (v := .int 1) (ty := .boolean) (C := RX5) (T := TX5) (N := 10) hx hb hts i_X2_isInDoubt_X5 tyX5 tyX5_ok nmX5 hown hK hP hD hS 1 rfl rfl 9 (by decide) ((hN.1 ("FlowJudge$Flow", 98, "FlowJudge$Places", "isFinal", "Z") (List.mem_of_getElem? (i := 17) rfl)).use rfl) (fun _ h9 => h9) rfl (by decide +kernel) rfl rfl (Nat.le_of_ble_eq_true rfl) dX2_isInDoubt_5 (fun H locs hP hD hS => ?_)
  have hP : va_P (dC, dI) vwCl [(o2, .inr (2, [.ref o7, .ref o0, .ref o1, .ref o3, .ref o5, .ref o6])), (o5, .inr (5, [.ref o7, .ref a5_1, .int v5_2, .int v5_3, .int v5_4, .int v5_5, .int v5_6, .int v5_7, .int v5_8, .int 1]))] H := hP
  have hD : va_D A [(o2, .inr (2, [.ref o7, .ref o0, .ref o1, .ref o3, .ref o5, .ref o6])), (o5, .inr (5, [.ref o7, .ref a5_1, .int v5_2, .int v5_3, .int v5_4, .int v5_5, .int v5_6, .int v5_7, .int v5_8, .int 1]))] := hD
  refine lv_aload_n hx hb dX2_isInDoubt_8 rfl (lv_at hl 0 rfl) ?_
  refine va_get (D := (dC, dI)) (ci := 2) (v := .ref o5) (C := RX2) (T := TX2) (N := 6) hx hb hts i_X2_isInDoubt_X2 hown hK hP 0 rfl rfl 4 (by decide) k_1 (fun _ h9 => h9) rfl dX2_isInDoubt_9 ?_
  refine va_getN (D := (dC, dI)) (ci := 5) (v := .int v5_8) (C := RX5) (T := TX5) (N := 10) hx hb hts i_X2_isInDoubt_X5 hown hK hP 1 rfl rfl 8 (by decide) ((hN.1 ("FlowJudge$Flow", 101, "FlowJudge$Places", "doubtful", "Z") (List.mem_of_getElem? (i := 18) rfl)).use rfl) (fun _ h9 => h9) rfl dX2_isInDoubt_12 ?_
  obtain ⟨g_1, hf⟩ := x_gu hf
  obtain rfl := Option.some.inj hf
  have hP9 := hP.sub (ws' := [(o2, .inr (2, [.ref o7, .ref o0, .ref o1, .ref o3, .ref o5, .ref o6])), (o5, .inr (5, [.ref o7, .ref a5_1, .int v5_2, .int v5_3, .int v5_4, .int v5_5, .int v5_6, .int v5_7, .int v5_8, .int 1]))]) [0, 1] rfl
  have hD9 := hD.sub (ws' := [(o2, .inr (2, [.ref o7, .ref o0, .ref o1, .ref o3, .ref o5, .ref o6])), (o5, .inr (5, [.ref o7, .ref a5_1, .int v5_2, .int v5_3, .int v5_4, .int v5_5, .int v5_6, .int v5_7, .int v5_8, .int 1]))]) [0, 1] (by decide) rfl
  exact W.zret (ty := .boolean) hx hb hr (x_01n g_1) (fun t ht hW => ⟨⟨_, (), rfl, ⟨rfl, (x_01n g_1)⟩, by rw [ht]; exact hP9, va_K.moved hW.alike hK, hD9⟩, hS.F ht⟩) hS.2.2 dX2_isInDoubt_15

def f_X2_isHandlerNext (g0_14 : Nat → Int32) (v5_7 : Int32) (p1 : Int32) (p2 : Int32) : Option (Int32) := if x_gd ((4 : Int32) * p1) 200 = true then if p2 < (g0_14 (Int32.toNatClampNeg ((4 : Int32) * p1))) then some 0 else if x_gd (((4 : Int32) * p1) + (1 : Int32)) 200 = true then if (g0_14 (Int32.toNatClampNeg (((4 : Int32) * p1) + (1 : Int32)))) ≤ p2 then some 0 else if v5_7 = (0 : Int32) then if (g0_14 (Int32.toNatClampNeg ((4 : Int32) * p1))) = p2 then some 1 else some 0 else some 1 else none else none
theorem i_X2_isHandlerNext_X0 : ∀ w ∈ wsX00, w ∈ wsX2_isHandlerNext := by decide +kernel
theorem i_X2_isHandlerNext_X2 : ∀ w ∈ wsX20, w ∈ wsX2_isHandlerNext := by decide +kernel
theorem i_X2_isHandlerNext_X5 : ∀ w ∈ wsX50, w ∈ wsX2_isHandlerNext := by decide +kernel
set_option maxHeartbeats 4000000 in
set_option maxRecDepth 100000 in
theorem c_X2_isHandlerNext (l : Launch) (dC : Nat → ClassId) (dI : Nat → Nat → Nat) (cyI cyZ cyJ : ClassId) (sz : Nat) (o0 : Nat) (v0_0 : Int32) (v0_1 : Int32) (v0_2 : Int32) (v0_3 : Int32) (v0_4 : Int32) (a0_5 : Nat) (v0_6 : Int32) (a0_7 : Nat) (a0_8 : Nat) (a0_9 : Nat) (v0_10 : Int32) (a0_11 : Nat) (a0_12 : Nat) (a0_13 : Nat) (a0_14 : Nat) (v0_15 : Int32) (a0_16 : Nat) (g0_14 : Nat → Int32) (o2 : Nat) (o7 : Nat) (o1 : Nat) (o3 : Nat) (o5 : Nat) (o6 : Nat) (a5_1 : Nat) (v5_2 : Int32) (v5_3 : Int32) (v5_4 : Int32) (v5_5 : Int32) (v5_6 : Int32) (v5_7 : Int32) (v5_8 : Int32) (v5_9 : Int32) (p1 : Int32) (p2 : Int32) (R : Int32) (hf : f_X2_isHandlerNext g0_14 v5_7 p1 p2 = some R) : Met l yX2_isHandlerNext wsX2_isHandlerNext ({ frames := 0, cells := 0, slots := 0, locals := 0 }) (va_Pc [.ref o2, .int p1, .int p2] (x_Pre (dC, dI) (x_T cyI cyZ cyJ) [(o0, .inr (0, [.int v0_0, .int v0_1, .int v0_2, .int v0_3, .int v0_4, .ref a0_5, .int v0_6, .ref a0_7, .ref a0_8, .ref a0_9, .int v0_10, .ref a0_11, .ref a0_12, .ref a0_13, .ref a0_14, .int v0_15, .ref a0_16])), (a0_14, .inl (cyI, 200, .inl g0_14)), (o2, .inr (2, [.ref o7, .ref o0, .ref o1, .ref o3, .ref o5, .ref o6])), (o5, .inr (5, [.ref o7, .ref a5_1, .int v5_2, .int v5_3, .int v5_4, .int v5_5, .int v5_6, .int v5_7, .int v5_8, .int v5_9]))] sz)) (va_Qi (fun (r : Int32) (_ : Unit) => r = R ∧ x_nb r) (fun _ _ => True) (x_new sz)) 0 0 (x_new sz) := by
  refine Met.ofW (cc := cX2_isHandlerNext) (maxL := 4) (ret := (some .boolean)) (by decide) rfl ?_
  intro p e s m args below meth c s₁ B hml hv
  obtain ⟨rfl, hsz, hP, hK, hN⟩ := hv
  have hx := B.exec
  have hb := B.bytes
  have hr := B.returns
  have hts := atoms_spec (ws := wsX2_isHandlerNext) B.pre
  have hown : s.vm.findClass RX2 = some m.cls := findClass_of_methodNamed B.named
  have k_1 := hts (.fieldLink RX2 15 "FlowJudge$Flow" "code" "LFlowJudge$Code;") (by decide +kernel)
  have k_2 := hts (.fieldLink RX2 32 "FlowJudge$Flow" "places" "LFlowJudge$Places;") (by decide +kernel)
  subst hsz
  have hA : ∀ q : Nat, s.heap.size ≤ q → x_new s.heap.size q := fun _ h => h
  have hS : va_S (x_new s.heap.size) s.heap s.heap [] := va_S.rf
  have hP : va_P (dC, dI) vwCl [(o0, .inr (0, [.int v0_0, .int v0_1, .int v0_2, .int v0_3, .int v0_4, .ref a0_5, .int v0_6, .ref a0_7, .ref a0_8, .ref a0_9, .int v0_10, .ref a0_11, .ref a0_12, .ref a0_13, .ref a0_14, .int v0_15, .ref a0_16])), (a0_14, .inl (cyI, 200, .inl g0_14)), (o2, .inr (2, [.ref o7, .ref o0, .ref o1, .ref o3, .ref o5, .ref o6])), (o5, .inr (5, [.ref o7, .ref a5_1, .int v5_2, .int v5_3, .int v5_4, .int v5_5, .int v5_6, .int v5_7, .int v5_8, .int v5_9]))] s.heap := hP
  have hl := lv_entry ([.ref o2, .int p1, .int p2]) (n := 4) (Nat.le_of_ble_eq_true rfl)
  rw [lg_entry_eq]
  generalize (lg_sl ([.ref o2, .int p1, .int p2]) ++ List.replicate (4 - (lg_sl ([.ref o2, .int p1, .int p2])).length) Slot.unset).toArray = ls at hl ⊢
  have hl : lv_has ls 4 [(0, .ref o2), (1, .int p1), (2, .int p2)] := hl
  obtain ⟨H, hH⟩ : ∃ z, z = s.heap := ⟨_, rfl⟩
  refine x_here hH ?_
  have hP : va_P (dC, dI) vwCl [(o0, .inr (0, [.int v0_0, .int v0_1, .int v0_2, .int v0_3, .int v0_4, .ref a0_5, .int v0_6, .ref a0_7, .ref a0_8, .ref a0_9, .int v0_10, .ref a0_11, .ref a0_12, .ref a0_13, .ref a0_14, .int v0_15, .ref a0_16])), (a0_14, .inl (cyI, 200, .inl g0_14)), (o2, .inr (2, [.ref o7, .ref o0, .ref o1, .ref o3, .ref o5, .ref o6])), (o5, .inr (5, [.ref o7, .ref a5_1, .int v5_2, .int v5_3, .int v5_4, .int v5_5, .int v5_6, .int v5_7, .int v5_8, .int v5_9]))] H := by rw [hH]; exact hP
  have hS : va_S (x_new s.heap.size) s.heap H [] := by rw [hH]; exact va_S.rf
  clear hH
  obtain ⟨locs, hlo⟩ : ∃ z : List Loc, z = [] := ⟨_, rfl⟩
  refine x_herl hlo ?_
  have hS : va_S (x_new s.heap.size) s.heap H locs := by rw [hlo]; exact hS
  clear hlo
  unfold f_X2_isHandlerNext at hf
  refine lv_aload_n hx hb dX2_isHandlerNext_0 rfl (lv_at hl 0 rfl) ?_
  refine va_get (D := (dC, dI)) (ci := 2) (v := .ref o0) (C := RX2) (T := TX2) (N := 6) hx hb hts i_X2_isHandlerNext_X2 hown hK hP 2 rfl rfl 1 (by decide) k_1 (fun _ h9 => h9) rfl dX2_isHandlerNext_1 ?_
  refine va_getN (D := (dC, dI)) (ci := 0) (v := .ref a0_14) (C := RX0) (T := TX0) (N := 17) hx hb hts i_X2_isHandlerNext_X0 hown hK hP 0 rfl rfl 14 (by decide) ((hN.1 ("FlowJudge$Flow", 104, "FlowJudge$Code", "rows", "[I") (List.mem_of_getElem? (i := 19) rfl)).use rfl) (fun _ h9 => h9) rfl dX2_isHandlerNext_4 ?_
  refine lv_iconst (v := 4) hx hb dX2_isHandlerNext_7 (by decide) ?_
  refine lv_iload_n hx hb dX2_isHandlerNext_8 rfl (lv_at hl 1 rfl) ?_
  refine lv_imul hx hb dX2_isHandlerNext_9 ?_
  obtain ⟨g_1, hf⟩ := x_gu hf
  refine va_iald hx hb hK hP 1 0 rfl rfl (x_gdin g_1) dX2_isHandlerNext_10 ?_
  refine lv_istore_n (lv' := [(3, .int (g0_14 (Int32.toNatClampNeg ((4 : Int32) * p1)))), (0, .ref o2), (1, .int p1), (2, .int p2)]) hx hb dX2_isHandlerNext_11 rfl hl (by decide) rfl (fun ls hl => ?_)
  refine lv_iload_n hx hb dX2_isHandlerNext_12 rfl (lv_at hl 0 rfl) ?_
  refine lv_iload_n hx hb dX2_isHandlerNext_13 rfl (lv_at hl 3 rfl) ?_
  refine lv_icmp_gt (tgt := 53) hx hb dX2_isHandlerNext_14 (by decide) (fun c_2 => ?_) (fun c_2 => ?_)
  · replace hf := x_ip c_2 hf
    refine lv_iconst (v := 0) hx hb dX2_isHandlerNext_53 (by decide) ?_
    obtain rfl := Option.some.inj hf
    exact W.zret (ty := .boolean) hx hb hr rfl (fun t ht hW => ⟨⟨_, (), rfl, ⟨rfl, rfl⟩, trivial⟩, hS.F ht⟩) hS.2.2 dX2_isHandlerNext_54
  · replace hf := x_in c_2 hf
    refine lv_iload_n hx hb dX2_isHandlerNext_17 rfl (lv_at hl 3 rfl) ?_
    refine lv_aload_n hx hb dX2_isHandlerNext_18 rfl (lv_at hl 1 rfl) ?_
    refine va_get (D := (dC, dI)) (ci := 2) (v := .ref o0) (C := RX2) (T := TX2) (N := 6) hx hb hts i_X2_isHandlerNext_X2 hown hK hP 2 rfl rfl 1 (by decide) k_1 (fun _ h9 => h9) rfl dX2_isHandlerNext_19 ?_
    refine va_getN (D := (dC, dI)) (ci := 0) (v := .ref a0_14) (C := RX0) (T := TX0) (N := 17) hx hb hts i_X2_isHandlerNext_X0 hown hK hP 0 rfl rfl 14 (by decide) ((hN.1 ("FlowJudge$Flow", 104, "FlowJudge$Code", "rows", "[I") (List.mem_of_getElem? (i := 19) rfl)).use rfl) (fun _ h9 => h9) rfl dX2_isHandlerNext_22 ?_
    refine lv_iconst (v := 4) hx hb dX2_isHandlerNext_25 (by decide) ?_
    refine lv_iload_n hx hb dX2_isHandlerNext_26 rfl (lv_at hl 2 rfl) ?_
    refine lv_imul hx hb dX2_isHandlerNext_27 ?_
    refine lv_iconst (v := 1) hx hb dX2_isHandlerNext_28 (by decide) ?_
    refine lv_iadd hx hb dX2_isHandlerNext_29 ?_
    obtain ⟨g_3, hf⟩ := x_gu hf
    refine va_iald hx hb hK hP 1 0 rfl rfl (x_gdin g_3) dX2_isHandlerNext_30 ?_
    refine lv_icmp_ge (tgt := 53) hx hb dX2_isHandlerNext_31 (by decide) (fun c_4 => ?_) (fun c_4 => ?_)
    · replace hf := x_ip c_4 hf
      refine lv_iconst (v := 0) hx hb dX2_isHandlerNext_53 (by decide) ?_
      obtain rfl := Option.some.inj hf
      exact W.zret (ty := .boolean) hx hb hr rfl (fun t ht hW => ⟨⟨_, (), rfl, ⟨rfl, rfl⟩, trivial⟩, hS.F ht⟩) hS.2.2 dX2_isHandlerNext_54
    · replace hf := x_in c_4 hf
      refine lv_aload_n hx hb dX2_isHandlerNext_34 rfl (lv_at hl 1 rfl) ?_
      refine va_get (D := (dC, dI)) (ci := 2) (v := .ref o5) (C := RX2) (T := TX2) (N := 6) hx hb hts i_X2_isHandlerNext_X2 hown hK hP 2 rfl rfl 4 (by decide) k_2 (fun _ h9 => h9) rfl dX2_isHandlerNext_35 ?_
      refine va_getN (D := (dC, dI)) (ci := 5) (v := .int v5_7) (C := RX5) (T := TX5) (N := 10) hx hb hts i_X2_isHandlerNext_X5 hown hK hP 3 rfl rfl 7 (by decide) ((hN.1 ("FlowJudge$Flow", 88, "FlowJudge$Places", "moved", "Z") (List.mem_of_getElem? (i := 16) rfl)).use rfl) (fun _ h9 => h9) rfl dX2_isHandlerNext_38 ?_
      refine lv_if_ne (tgt := 49) hx hb dX2_isHandlerNext_41 (by decide) (fun c_5 => ?_) (fun c_5 => ?_)
      · replace hf := x_in c_5 hf
        refine lv_iconst (v := 1) hx hb dX2_isHandlerNext_49 (by decide) ?_
        refine lv_goto (tgt := 54) hx hb dX2_isHandlerNext_50 (by decide) ?_
        obtain rfl := Option.some.inj hf
        exact W.zret (ty := .boolean) hx hb hr rfl (fun t ht hW => ⟨⟨_, (), rfl, ⟨rfl, rfl⟩, trivial⟩, hS.F ht⟩) hS.2.2 dX2_isHandlerNext_54
      · replace hf := x_ip c_5 hf
        refine lv_iload_n hx hb dX2_isHandlerNext_44 rfl (lv_at hl 0 rfl) ?_
        refine lv_iload_n hx hb dX2_isHandlerNext_45 rfl (lv_at hl 3 rfl) ?_
        refine lv_icmp_ne (tgt := 53) hx hb dX2_isHandlerNext_46 (by decide) (fun c_6 => ?_) (fun c_6 => ?_)
        · replace hf := x_in c_6 hf
          refine lv_iconst (v := 0) hx hb dX2_isHandlerNext_53 (by decide) ?_
          obtain rfl := Option.some.inj hf
          exact W.zret (ty := .boolean) hx hb hr rfl (fun t ht hW => ⟨⟨_, (), rfl, ⟨rfl, rfl⟩, trivial⟩, hS.F ht⟩) hS.2.2 dX2_isHandlerNext_54
        · replace hf := x_ip c_6 hf
          refine lv_iconst (v := 1) hx hb dX2_isHandlerNext_49 (by decide) ?_
          refine lv_goto (tgt := 54) hx hb dX2_isHandlerNext_50 (by decide) ?_
          obtain rfl := Option.some.inj hf
          exact W.zret (ty := .boolean) hx hb hr rfl (fun t ht hW => ⟨⟨_, (), rfl, ⟨rfl, rfl⟩, trivial⟩, hS.F ht⟩) hS.2.2 dX2_isHandlerNext_54

def f_X2_wayBack (g1_0 : Nat → Int32) (n1_0 : Nat) (g1_1 : Nat → Int32) (n1_1 : Nat) (g1_2 : Nat → Int32) (n1_2 : Nat) (v5_2 : Int32) (g5_1 : Nat → Int32) (p1 : Int32) (p2 : Int32) : Option (Int32) := (f_X5_localAt v5_2 g5_1 p1) >>= (fun r_1 => if (r_1 &&& 15) = (10 : Int32) then (f_X1_before g1_0 n1_0 g1_1 n1_1 g1_2 n1_2 p2 (r_1 >>> (4 &&& 31))) >>= (fun r_3 => some r_3) else some (-1))
theorem i_X2_wayBack_X2 : ∀ w ∈ wsX20, w ∈ wsX2_wayBack := by decide +kernel
set_option maxHeartbeats 4000000 in
set_option maxRecDepth 100000 in
theorem c_X2_wayBack (l : Launch) (dC : Nat → ClassId) (dI : Nat → Nat → Nat) (cyI cyZ cyJ : ClassId) (sz : Nat) (o1 : Nat) (a1_0 : Nat) (a1_1 : Nat) (a1_2 : Nat) (a1_3 : Nat) (a1_4 : Nat) (v1_5 : Int32) (g1_0 : Nat → Int32) (n1_0 : Nat) (g1_1 : Nat → Int32) (n1_1 : Nat) (g1_2 : Nat → Int32) (n1_2 : Nat) (o2 : Nat) (o7 : Nat) (o0 : Nat) (o3 : Nat) (o5 : Nat) (o6 : Nat) (a5_1 : Nat) (v5_2 : Int32) (v5_3 : Int32) (v5_4 : Int32) (v5_5 : Int32) (v5_6 : Int32) (v5_7 : Int32) (v5_8 : Int32) (v5_9 : Int32) (g5_1 : Nat → Int32) (p1 : Int32) (p2 : Int32) (R : Int32) (hf : f_X2_wayBack g1_0 n1_0 g1_1 n1_1 g1_2 n1_2 v5_2 g5_1 p1 p2 = some R) : Met l yX2_wayBack wsX2_wayBack ({ frames := 1, cells := 0, slots := 0, locals := 24 }) (va_Pc [.ref o2, .int p1, .int p2] (x_Pre (dC, dI) (x_T cyI cyZ cyJ) [(o1, .inr (1, [.ref a1_0, .ref a1_1, .ref a1_2, .ref a1_3, .ref a1_4, .int v1_5])), (a1_0, .inl (cyI, n1_0, .inl g1_0)), (a1_1, .inl (cyI, n1_1, .inl g1_1)), (a1_2, .inl (cyI, n1_2, .inl g1_2)), (o2, .inr (2, [.ref o7, .ref o0, .ref o1, .ref o3, .ref o5, .ref o6])), (o5, .inr (5, [.ref o7, .ref a5_1, .int v5_2, .int v5_3, .int v5_4, .int v5_5, .int v5_6, .int v5_7, .int v5_8, .int v5_9])), (a5_1, .inl (cyI, 400, .inl g5_1))] sz)) (va_Qi (fun (r : Int32) (_ : Unit) => r = R) (fun _ _ => True) (x_new sz)) 0 0 (x_new sz) := by
  refine Met.ofW (cc := cX2_wayBack) (maxL := 4) (ret := (some .int)) (by decide) rfl ?_
  intro p e s m args below meth c s₁ B hml hv
  obtain ⟨rfl, hsz, hP, hK, hN⟩ := hv
  have hx := B.exec
  have hb := B.bytes
  have hr := B.returns
  have hts := atoms_spec (ws := wsX2_wayBack) B.pre
  have hown : s.vm.findClass RX2 = some m.cls := findClass_of_methodNamed B.named
  have k_1 := hts (.fieldLink RX2 32 "FlowJudge$Flow" "places" "LFlowJudge$Places;") (by decide +kernel)
  have k_2 := hts (.fieldLink RX2 19 "FlowJudge$Flow" "contexts" "LFlowJudge$Contexts;") (by decide +kernel)
  subst hsz
  have hA : ∀ q : Nat, s.heap.size ≤ q → x_new s.heap.size q := fun _ h => h
  have hS : va_S (x_new s.heap.size) s.heap s.heap [] := va_S.rf
  have hP : va_P (dC, dI) vwCl [(o1, .inr (1, [.ref a1_0, .ref a1_1, .ref a1_2, .ref a1_3, .ref a1_4, .int v1_5])), (a1_0, .inl (cyI, n1_0, .inl g1_0)), (a1_1, .inl (cyI, n1_1, .inl g1_1)), (a1_2, .inl (cyI, n1_2, .inl g1_2)), (o2, .inr (2, [.ref o7, .ref o0, .ref o1, .ref o3, .ref o5, .ref o6])), (o5, .inr (5, [.ref o7, .ref a5_1, .int v5_2, .int v5_3, .int v5_4, .int v5_5, .int v5_6, .int v5_7, .int v5_8, .int v5_9])), (a5_1, .inl (cyI, 400, .inl g5_1))] s.heap := hP
  have hl := lv_entry ([.ref o2, .int p1, .int p2]) (n := 4) (Nat.le_of_ble_eq_true rfl)
  rw [lg_entry_eq]
  generalize (lg_sl ([.ref o2, .int p1, .int p2]) ++ List.replicate (4 - (lg_sl ([.ref o2, .int p1, .int p2])).length) Slot.unset).toArray = ls at hl ⊢
  have hl : lv_has ls 4 [(0, .ref o2), (1, .int p1), (2, .int p2)] := hl
  obtain ⟨H, hH⟩ : ∃ z, z = s.heap := ⟨_, rfl⟩
  refine x_here hH ?_
  have hP : va_P (dC, dI) vwCl [(o1, .inr (1, [.ref a1_0, .ref a1_1, .ref a1_2, .ref a1_3, .ref a1_4, .int v1_5])), (a1_0, .inl (cyI, n1_0, .inl g1_0)), (a1_1, .inl (cyI, n1_1, .inl g1_1)), (a1_2, .inl (cyI, n1_2, .inl g1_2)), (o2, .inr (2, [.ref o7, .ref o0, .ref o1, .ref o3, .ref o5, .ref o6])), (o5, .inr (5, [.ref o7, .ref a5_1, .int v5_2, .int v5_3, .int v5_4, .int v5_5, .int v5_6, .int v5_7, .int v5_8, .int v5_9])), (a5_1, .inl (cyI, 400, .inl g5_1))] H := by rw [hH]; exact hP
  have hS : va_S (x_new s.heap.size) s.heap H [] := by rw [hH]; exact va_S.rf
  clear hH
  obtain ⟨locs, hlo⟩ : ∃ z : List Loc, z = [] := ⟨_, rfl⟩
  refine x_herl hlo ?_
  have hS : va_S (x_new s.heap.size) s.heap H locs := by rw [hlo]; exact hS
  clear hlo
  unfold f_X2_wayBack at hf
  refine lv_aload_n hx hb dX2_wayBack_0 rfl (lv_at hl 0 rfl) ?_
  refine va_get (D := (dC, dI)) (ci := 2) (v := .ref o5) (C := RX2) (T := TX2) (N := 6) hx hb hts i_X2_wayBack_X2 hown hK hP 4 rfl rfl 4 (by decide) k_1 (fun _ h9 => h9) rfl dX2_wayBack_1 ?_
  refine lv_iload_n hx hb dX2_wayBack_4 rfl (lv_at hl 1 rfl) ?_
  obtain ⟨r_1, h_1, hf⟩ := x_bi hf
  have hPc := hP.sub (ws' := [(o5, .inr (5, [.ref o7, .ref a5_1, .int v5_2, .int v5_3, .int v5_4, .int v5_5, .int v5_6, .int v5_7, .int v5_8, .int v5_9])), (a5_1, .inl (cyI, 400, .inl g5_1))]) [5, 6] rfl
  refine va_calli (va_runV (As := [.int p1]) (rest := []) ⟨hx, hb, hml, hown, hts⟩ (c_X5_localAt l dC dI cyI cyZ cyJ H.size o5 o7 a5_1 v5_2 v5_3 v5_4 v5_5 v5_6 v5_7 v5_8 v5_9 g5_1 p1 r_1 h_1) (cwV 1 hts gX2_wayBack_X5_localAt rfl rfl rfl (by decide +kernel) ⟨Nat.le_of_ble_eq_true rfl, Nat.le_of_ble_eq_true rfl⟩) (x_pV hN hK hPc (ci := 5) (q0 := 0) rfl rfl) rfl rfl hl.1 rfl (lv_room (Nat.le_of_ble_eq_true rfl)) dX2_wayBack_5 ⟨Nat.le_of_ble_eq_true rfl, Nat.le_of_ble_eq_true rfl⟩) hS x_nA (x_nf hA hS) (fun q_1 u t H1 locs ht hvm hw hB hz1 hk1 hS => ?_)
  have hP := x_kp hP hk1
  clear ht hvm hB hz1 hk1 t u hPc
  generalize H1 = H at hP hS ⊢
  obtain rfl := hw.symm
  refine lv_istore_n (lv' := [(3, .int r_1), (0, .ref o2), (1, .int p1), (2, .int p2)]) hx hb dX2_wayBack_8 rfl hl (by decide) rfl (fun ls hl => ?_)
  refine lv_iload_n hx hb dX2_wayBack_9 rfl (lv_at hl 0 rfl) ?_
  refine lv_bipush (v := 15) hx hb dX2_wayBack_10 (by decide) ?_
  refine lv_iand hx hb dX2_wayBack_12 ?_
  refine lv_bipush (v := 10) hx hb dX2_wayBack_13 (by decide) ?_
  refine lv_icmp_ne (tgt := 32) hx hb dX2_wayBack_15 (by decide) (fun c_2 => ?_) (fun c_2 => ?_)
  · replace hf := x_in c_2 hf
    refine lv_iconst (v := (-1)) hx hb dX2_wayBack_32 (by decide) ?_
    obtain rfl := Option.some.inj hf
    exact W.iret hx hb hr (fun t ht hW => ⟨⟨_, (), rfl, rfl, trivial⟩, hS.F ht⟩) hS.2.2 dX2_wayBack_33
  · replace hf := x_ip c_2 hf
    refine lv_aload_n hx hb dX2_wayBack_18 rfl (lv_at hl 1 rfl) ?_
    refine va_get (D := (dC, dI)) (ci := 2) (v := .ref o1) (C := RX2) (T := TX2) (N := 6) hx hb hts i_X2_wayBack_X2 hown hK hP 4 rfl rfl 2 (by decide) k_2 (fun _ h9 => h9) rfl dX2_wayBack_19 ?_
    refine lv_iload_n hx hb dX2_wayBack_22 rfl (lv_at hl 3 rfl) ?_
    refine lv_iload_n hx hb dX2_wayBack_23 rfl (lv_at hl 0 rfl) ?_
    refine lv_iconst (v := 4) hx hb dX2_wayBack_24 (by decide) ?_
    refine lv_ishr hx hb dX2_wayBack_25 ?_
    obtain ⟨r_3, h_3, hf⟩ := x_bi hf
    have hPc := hP.sub (ws' := [(o1, .inr (1, [.ref a1_0, .ref a1_1, .ref a1_2, .ref a1_3, .ref a1_4, .int v1_5])), (a1_0, .inl (cyI, n1_0, .inl g1_0)), (a1_1, .inl (cyI, n1_1, .inl g1_1)), (a1_2, .inl (cyI, n1_2, .inl g1_2))]) [0, 1, 2, 3] rfl
    refine va_calli (va_runV (As := [.int p2, .int (r_1 >>> (4 &&& 31))]) (rest := []) ⟨hx, hb, hml, hown, hts⟩ (c_X1_before l dC dI cyI cyZ cyJ H.size o1 a1_0 a1_1 a1_2 a1_3 a1_4 v1_5 g1_0 n1_0 g1_1 n1_1 g1_2 n1_2 p2 (r_1 >>> (4 &&& 31)) r_3 h_3) (cwV 2 hts gX2_wayBack_X1_before rfl rfl rfl (by decide +kernel) ⟨Nat.le_of_ble_eq_true rfl, Nat.le_of_ble_eq_true rfl⟩) (x_pV hN hK hPc (ci := 1) (q0 := 0) rfl rfl) rfl rfl hl.1 rfl (lv_room (Nat.le_of_ble_eq_true rfl)) dX2_wayBack_26 ⟨Nat.le_of_ble_eq_true rfl, Nat.le_of_ble_eq_true rfl⟩) hS x_nA (x_nf hA hS) (fun q_3 u t H1 locs ht hvm hw hB hz1 hk1 hS => ?_)
    have hP := x_kp hP hk1
    clear ht hvm hB hz1 hk1 t u hPc
    generalize H1 = H at hP hS ⊢
    obtain rfl := hw.symm
    refine lv_goto (tgt := 33) hx hb dX2_wayBack_29 (by decide) ?_
    obtain rfl := Option.some.inj hf
    exact W.iret hx hb hr (fun t ht hW => ⟨⟨_, (), rfl, rfl, trivial⟩, hS.F ht⟩) hS.2.2 dX2_wayBack_33

def f_X8_isOperand (v7_2 : Int32) (v4_2 : Int32) (v4_8 : Int32) (p1 : Int32) (p2 : Int32) : Option (Int32) := if p1 = (16 : Int32) then some 1 else if p1 = (17 : Int32) then some 1 else if p1 = (18 : Int32) then (f_X7_isType v7_2 p2) >>= (fun r_4 => if r_4 = (0 : Int32) then some 0 else (f_X7_widthOf p2) >>= (fun r_6 => if r_6 = (1 : Int32) then some 1 else some 0)) else if p1 = (20 : Int32) then (f_X7_isType v7_2 p2) >>= (fun r_9 => if r_9 = (0 : Int32) then some 0 else (f_X7_widthOf p2) >>= (fun r_11 => if r_11 = (2 : Int32) then some 1 else some 0)) else if p1 = (178 : Int32) then if p2 < (0 : Int32) then some 0 else if v4_2 ≤ p2 then some 0 else some 1 else if p1 = (179 : Int32) then if p2 < (0 : Int32) then some 0 else if v4_2 ≤ p2 then some 0 else some 1 else if p1 = (180 : Int32) then if p2 < (0 : Int32) then some 0 else if v4_2 ≤ p2 then some 0 else some 1 else if p1 = (181 : Int32) then if p2 < (0 : Int32) then some 0 else if v4_2 ≤ p2 then some 0 else some 1 else if p1 = (182 : Int32) then if p2 < (0 : Int32) then some 0 else if v4_8 ≤ p2 then some 0 else some 1 else if p1 = (183 : Int32) then if p2 < (0 : Int32) then some 0 else if v4_8 ≤ p2 then some 0 else some 1 else if p1 = (184 : Int32) then if p2 < (0 : Int32) then some 0 else if v4_8 ≤ p2 then some 0 else some 1 else if p1 = (185 : Int32) then if p2 < (0 : Int32) then some 0 else if v4_8 ≤ p2 then some 0 else some 1 else if p1 = (186 : Int32) then if p2 < (0 : Int32) then some 0 else if v4_8 ≤ p2 then some 0 else some 1 else if p1 = (187 : Int32) then (f_X7_isClass v7_2 p2) >>= (fun r_41 => some r_41) else if p1 = (188 : Int32) then if p2 < (0 : Int32) then some 0 else if (7 : Int32) < p2 then some 0 else some 1 else if p1 = (189 : Int32) then (f_X7_isReference v7_2 p2) >>= (fun r_46 => if r_46 = (0 : Int32) then some 0 else (f_X7_dimensionsOf p2) >>= (fun r_48 => if (255 : Int32) ≤ r_48 then some 0 else some 1)) else if p1 = (192 : Int32) then (f_X7_isReference v7_2 p2) >>= (fun r_51 => some r_51) else if p1 = (193 : Int32) then (f_X7_isReference v7_2 p2) >>= (fun r_53 => some r_53) else (f_X0_isOpcode p1) >>= (fun r_54 => if r_54 = (0 : Int32) then some 0 else if p2 = (0 : Int32) then some 1 else if p2 ≤ (0 : Int32) then some 0 else (f_X0_isOfLocal p1) >>= (fun r_58 => if r_58 = (0 : Int32) then (f_X0_isJump p1) >>= (fun r_60 => if r_60 = (0 : Int32) then some 0 else some 1) else some 1))
theorem i_X8_isOperand_X4 : ∀ w ∈ wsX40, w ∈ wsX8_isOperand := by decide +kernel
theorem i_X8_isOperand_X8 : ∀ w ∈ wsX80, w ∈ wsX8_isOperand := by decide +kernel
set_option maxHeartbeats 4000000 in
set_option maxRecDepth 100000 in
theorem c_X8_isOperand (l : Launch) (dC : Nat → ClassId) (dI : Nat → Nat → Nat) (cyI cyZ cyJ : ClassId) (sz : Nat) (o8 : Nat) (o7 : Nat) (o4 : Nat) (o0 : Nat) (o1 : Nat) (o3 : Nat) (o2 : Nat) (a7_0 : Nat) (a7_1 : Nat) (v7_2 : Int32) (a4_0 : Nat) (a4_1 : Nat) (v4_2 : Int32) (a4_3 : Nat) (a4_4 : Nat) (a4_5 : Nat) (a4_6 : Nat) (a4_7 : Nat) (v4_8 : Int32) (p1 : Int32) (p2 : Int32) (R : Int32) (hf : f_X8_isOperand v7_2 v4_2 v4_8 p1 p2 = some R) : Met l yX8_isOperand wsX8_isOperand ({ frames := 3, cells := 0, slots := 0, locals := 63 }) (va_Pc [.ref o8, .int p1, .int p2] (x_Pre (dC, dI) (x_T cyI cyZ cyJ) [(o8, .inr (8, [.ref o7, .ref o4, .ref o0, .ref o1, .ref o3, .ref o2])), (o7, .inr (7, [.ref a7_0, .ref a7_1, .int v7_2])), (o4, .inr (4, [.ref a4_0, .ref a4_1, .int v4_2, .ref a4_3, .ref a4_4, .ref a4_5, .ref a4_6, .ref a4_7, .int v4_8]))] sz)) (va_Qi (fun (r : Int32) (_ : Unit) => r = R ∧ x_nb r) (fun _ _ => True) (x_new sz)) 0 0 (x_new sz) := by
  refine Met.ofW (cc := cX8_isOperand) (maxL := 3) (ret := (some .boolean)) (by decide) rfl ?_
  intro p e s m args below meth c s₁ B hml hv
  obtain ⟨rfl, hsz, hP, hK, hN⟩ := hv
  have hx := B.exec
  have hb := B.bytes
  have hr := B.returns
  have hts := atoms_spec (ws := wsX8_isOperand) B.pre
  have hown : s.vm.findClass RX8 = some m.cls := findClass_of_methodNamed B.named
  have k_1 := hts (.fieldLink RX8 10 "FlowJudge" "types" "LFlowJudge$Types;") (by decide +kernel)
  have k_2 := hts (.fieldLink RX8 19 "FlowJudge" "members" "LFlowJudge$Members;") (by decide +kernel)
  subst hsz
  have hA : ∀ q : Nat, s.heap.size ≤ q → x_new s.heap.size q := fun _ h => h
  have hS : va_S (x_new s.heap.size) s.heap s.heap [] := va_S.rf
  have hP : va_P (dC, dI) vwCl [(o8, .inr (8, [.ref o7, .ref o4, .ref o0, .ref o1, .ref o3, .ref o2])), (o7, .inr (7, [.ref a7_0, .ref a7_1, .int v7_2])), (o4, .inr (4, [.ref a4_0, .ref a4_1, .int v4_2, .ref a4_3, .ref a4_4, .ref a4_5, .ref a4_6, .ref a4_7, .int v4_8]))] s.heap := hP
  have hl := lv_entry ([.ref o8, .int p1, .int p2]) (n := 3) (Nat.le_of_ble_eq_true rfl)
  rw [lg_entry_eq]
  generalize (lg_sl ([.ref o8, .int p1, .int p2]) ++ List.replicate (3 - (lg_sl ([.ref o8, .int p1, .int p2])).length) Slot.unset).toArray = ls at hl ⊢
  have hl : lv_has ls 3 [(0, .ref o8), (1, .int p1), (2, .int p2)] := hl
  obtain ⟨H, hH⟩ : ∃ z, z = s.heap := ⟨_, rfl⟩
  refine x_here hH ?_
  have hP : va_P (dC, dI) vwCl [(o8, .inr (8, [.ref o7, .ref o4, .ref o0, .ref o1, .ref o3, .ref o2])), (o7, .inr (7, [.ref a7_0, .ref a7_1, .int v7_2])), (o4, .inr (4, [.ref a4_0, .ref a4_1, .int v4_2, .ref a4_3, .ref a4_4, .ref a4_5, .ref a4_6, .ref a4_7, .int v4_8]))] H := by rw [hH]; exact hP
  have hS : va_S (x_new s.heap.size) s.heap H [] := by rw [hH]; exact va_S.rf
  clear hH
  obtain ⟨locs, hlo⟩ : ∃ z : List Loc, z = [] := ⟨_, rfl⟩
  refine x_herl hlo ?_
  have hS : va_S (x_new s.heap.size) s.heap H locs := by rw [hlo]; exact hS
  clear hlo
  unfold f_X8_isOperand at hf
  refine lv_iload_n hx hb dX8_isOperand_0 rfl (lv_at hl 1 rfl) ?_
  rcases Classical.em (p1 = 16) with c_1 | c_1
  · refine lv_lookup (off := 155) (tgt := 156) hx hb dX8_isOperand_1 (by decide) (by rw [c_1]; decide) (by decide) ?_
    replace hf := x_ip c_1 hf
    refine lv_iconst (v := 1) hx hb dX8_isOperand_156 (by decide) ?_
    obtain rfl := Option.some.inj hf
    exact W.zret (ty := .boolean) hx hb hr rfl (fun t ht hW => ⟨⟨_, (), rfl, ⟨rfl, rfl⟩, trivial⟩, hS.F ht⟩) hS.2.2 dX8_isOperand_157
  replace hf := x_in c_1 hf
  rcases Classical.em (p1 = 17) with c_2 | c_2
  · refine lv_lookup (off := 155) (tgt := 156) hx hb dX8_isOperand_1 (by decide) (by rw [c_2]; decide) (by decide) ?_
    replace hf := x_ip c_2 hf
    refine lv_iconst (v := 1) hx hb dX8_isOperand_156 (by decide) ?_
    obtain rfl := Option.some.inj hf
    exact W.zret (ty := .boolean) hx hb hr rfl (fun t ht hW => ⟨⟨_, (), rfl, ⟨rfl, rfl⟩, trivial⟩, hS.F ht⟩) hS.2.2 dX8_isOperand_157
  replace hf := x_in c_2 hf
  rcases Classical.em (p1 = 18) with c_3 | c_3
  · refine lv_lookup (off := 157) (tgt := 158) hx hb dX8_isOperand_1 (by decide) (by rw [c_3]; decide) (by decide) ?_
    replace hf := x_ip c_3 hf
    refine lv_aload_n hx hb dX8_isOperand_158 rfl (lv_at hl 0 rfl) ?_
    refine va_get (D := (dC, dI)) (ci := 8) (v := .ref o7) (C := RX8) (T := TX8) (N := 6) hx hb hts i_X8_isOperand_X8 hown hK hP 0 rfl rfl 0 (by decide) k_1 (fun _ h9 => h9) rfl dX8_isOperand_159 ?_
    refine lv_iload_n hx hb dX8_isOperand_162 rfl (lv_at hl 2 rfl) ?_
    obtain ⟨r_4, h_4, hf⟩ := x_bi hf
    have hPc := hP.sub (ws' := [(o7, .inr (7, [.ref a7_0, .ref a7_1, .int v7_2]))]) [1] rfl
    refine va_calli (va_runV (As := [.int p2]) (rest := []) ⟨hx, hb, hml, hown, hts⟩ (c_X7_isType l dC dI cyI cyZ cyJ H.size o7 a7_0 a7_1 v7_2 p2 r_4 h_4) (cwV 1 hts gX8_isOperand_X7_isType rfl rfl rfl (by decide +kernel) ⟨Nat.le_of_ble_eq_true rfl, Nat.le_of_ble_eq_true rfl⟩) (x_pV hN hK hPc (ci := 7) (q0 := 0) rfl rfl) rfl rfl hl.1 rfl (lv_room (Nat.le_of_ble_eq_true rfl)) dX8_isOperand_163 ⟨Nat.le_of_ble_eq_true rfl, Nat.le_of_ble_eq_true rfl⟩) hS x_nA (x_nf hA hS) (fun q_4 u t H1 locs ht hvm hw hB hz1 hk1 hS => ?_)
    have hP := x_kp hP hk1
    clear ht hvm hB hz1 hk1 t u hPc
    generalize H1 = H at hP hS ⊢
    obtain ⟨hw, b_4⟩ := hw
    obtain rfl := hw.symm
    refine lv_if_eq (tgt := 181) hx hb dX8_isOperand_166 (by decide) (fun c_5 => ?_) (fun c_5 => ?_)
    · replace hf := x_ip c_5 hf
      refine lv_iconst (v := 0) hx hb dX8_isOperand_181 (by decide) ?_
      obtain rfl := Option.some.inj hf
      exact W.zret (ty := .boolean) hx hb hr rfl (fun t ht hW => ⟨⟨_, (), rfl, ⟨rfl, rfl⟩, trivial⟩, hS.F ht⟩) hS.2.2 dX8_isOperand_182
    · replace hf := x_in c_5 hf
      refine lv_iload_n hx hb dX8_isOperand_169 rfl (lv_at hl 2 rfl) ?_
      obtain ⟨r_6, h_6, hf⟩ := x_bi hf
      have hPc := hP.sub (ws' := []) [] rfl
      refine va_calli (va_runS (As := [.int p2]) (rest := []) ⟨hx, hb, hml, hown, hts⟩ (c_X7_widthOf l dC dI cyI cyZ cyJ H.size p2 r_6 h_6) (va_cwS 1 hts gX8_isOperand_X7_widthOf rfl rfl rfl (by decide +kernel) ⟨Nat.le_of_ble_eq_true rfl, Nat.le_of_ble_eq_true rfl⟩) (x_pS hN hK hPc) rfl rfl hl.1 rfl (lv_room (Nat.le_of_ble_eq_true rfl)) dX8_isOperand_170 ⟨Nat.le_of_ble_eq_true rfl, Nat.le_of_ble_eq_true rfl⟩) hS x_nA (x_nf hA hS) (fun q_6 u t H1 locs ht hvm hw hB hz1 hk1 hS => ?_)
      have hP := x_kp hP hk1
      clear ht hvm hB hz1 hk1 t u hPc
      generalize H1 = H at hP hS ⊢
      obtain rfl := hw.symm
      refine lv_iconst (v := 1) hx hb dX8_isOperand_173 (by decide) ?_
      refine lv_icmp_ne (tgt := 181) hx hb dX8_isOperand_174 (by decide) (fun c_7 => ?_) (fun c_7 => ?_)
      · replace hf := x_in c_7 hf
        refine lv_iconst (v := 0) hx hb dX8_isOperand_181 (by decide) ?_
        obtain rfl := Option.some.inj hf
        exact W.zret (ty := .boolean) hx hb hr rfl (fun t ht hW => ⟨⟨_, (), rfl, ⟨rfl, rfl⟩, trivial⟩, hS.F ht⟩) hS.2.2 dX8_isOperand_182
      · replace hf := x_ip c_7 hf
        refine lv_iconst (v := 1) hx hb dX8_isOperand_177 (by decide) ?_
        refine lv_goto (tgt := 182) hx hb dX8_isOperand_178 (by decide) ?_
        obtain rfl := Option.some.inj hf
        exact W.zret (ty := .boolean) hx hb hr rfl (fun t ht hW => ⟨⟨_, (), rfl, ⟨rfl, rfl⟩, trivial⟩, hS.F ht⟩) hS.2.2 dX8_isOperand_182
  replace hf := x_in c_3 hf
  rcases Classical.em (p1 = 20) with c_8 | c_8
  · refine lv_lookup (off := 182) (tgt := 183) hx hb dX8_isOperand_1 (by decide) (by rw [c_8]; decide) (by decide) ?_
    replace hf := x_ip c_8 hf
    refine lv_aload_n hx hb dX8_isOperand_183 rfl (lv_at hl 0 rfl) ?_
    refine va_get (D := (dC, dI)) (ci := 8) (v := .ref o7) (C := RX8) (T := TX8) (N := 6) hx hb hts i_X8_isOperand_X8 hown hK hP 0 rfl rfl 0 (by decide) k_1 (fun _ h9 => h9) rfl dX8_isOperand_184 ?_
    refine lv_iload_n hx hb dX8_isOperand_187 rfl (lv_at hl 2 rfl) ?_
    obtain ⟨r_9, h_9, hf⟩ := x_bi hf
    have hPc := hP.sub (ws' := [(o7, .inr (7, [.ref a7_0, .ref a7_1, .int v7_2]))]) [1] rfl
    refine va_calli (va_runV (As := [.int p2]) (rest := []) ⟨hx, hb, hml, hown, hts⟩ (c_X7_isType l dC dI cyI cyZ cyJ H.size o7 a7_0 a7_1 v7_2 p2 r_9 h_9) (cwV 1 hts gX8_isOperand_X7_isType rfl rfl rfl (by decide +kernel) ⟨Nat.le_of_ble_eq_true rfl, Nat.le_of_ble_eq_true rfl⟩) (x_pV hN hK hPc (ci := 7) (q0 := 0) rfl rfl) rfl rfl hl.1 rfl (lv_room (Nat.le_of_ble_eq_true rfl)) dX8_isOperand_188 ⟨Nat.le_of_ble_eq_true rfl, Nat.le_of_ble_eq_true rfl⟩) hS x_nA (x_nf hA hS) (fun q_9 u t H1 locs ht hvm hw hB hz1 hk1 hS => ?_)
    have hP := x_kp hP hk1
    clear ht hvm hB hz1 hk1 t u hPc
    generalize H1 = H at hP hS ⊢
    obtain ⟨hw, b_9⟩ := hw
    obtain rfl := hw.symm
    refine lv_if_eq (tgt := 206) hx hb dX8_isOperand_191 (by decide) (fun c_10 => ?_) (fun c_10 => ?_)
    · replace hf := x_ip c_10 hf
      refine lv_iconst (v := 0) hx hb dX8_isOperand_206 (by decide) ?_
      obtain rfl := Option.some.inj hf
      exact W.zret (ty := .boolean) hx hb hr rfl (fun t ht hW => ⟨⟨_, (), rfl, ⟨rfl, rfl⟩, trivial⟩, hS.F ht⟩) hS.2.2 dX8_isOperand_207
    · replace hf := x_in c_10 hf
      refine lv_iload_n hx hb dX8_isOperand_194 rfl (lv_at hl 2 rfl) ?_
      obtain ⟨r_11, h_11, hf⟩ := x_bi hf
      have hPc := hP.sub (ws' := []) [] rfl
      refine va_calli (va_runS (As := [.int p2]) (rest := []) ⟨hx, hb, hml, hown, hts⟩ (c_X7_widthOf l dC dI cyI cyZ cyJ H.size p2 r_11 h_11) (va_cwS 1 hts gX8_isOperand_X7_widthOf rfl rfl rfl (by decide +kernel) ⟨Nat.le_of_ble_eq_true rfl, Nat.le_of_ble_eq_true rfl⟩) (x_pS hN hK hPc) rfl rfl hl.1 rfl (lv_room (Nat.le_of_ble_eq_true rfl)) dX8_isOperand_195 ⟨Nat.le_of_ble_eq_true rfl, Nat.le_of_ble_eq_true rfl⟩) hS x_nA (x_nf hA hS) (fun q_11 u t H1 locs ht hvm hw hB hz1 hk1 hS => ?_)
      have hP := x_kp hP hk1
      clear ht hvm hB hz1 hk1 t u hPc
      generalize H1 = H at hP hS ⊢
      obtain rfl := hw.symm
      refine lv_iconst (v := 2) hx hb dX8_isOperand_198 (by decide) ?_
      refine lv_icmp_ne (tgt := 206) hx hb dX8_isOperand_199 (by decide) (fun c_12 => ?_) (fun c_12 => ?_)
      · replace hf := x_in c_12 hf
        refine lv_iconst (v := 0) hx hb dX8_isOperand_206 (by decide) ?_
        obtain rfl := Option.some.inj hf
        exact W.zret (ty := .boolean) hx hb hr rfl (fun t ht hW => ⟨⟨_, (), rfl, ⟨rfl, rfl⟩, trivial⟩, hS.F ht⟩) hS.2.2 dX8_isOperand_207
      · replace hf := x_ip c_12 hf
        refine lv_iconst (v := 1) hx hb dX8_isOperand_202 (by decide) ?_
        refine lv_goto (tgt := 207) hx hb dX8_isOperand_203 (by decide) ?_
        obtain rfl := Option.some.inj hf
        exact W.zret (ty := .boolean) hx hb hr rfl (fun t ht hW => ⟨⟨_, (), rfl, ⟨rfl, rfl⟩, trivial⟩, hS.F ht⟩) hS.2.2 dX8_isOperand_207
  replace hf := x_in c_8 hf
  rcases Classical.em (p1 = 178) with c_13 | c_13
  · refine lv_lookup (off := 207) (tgt := 208) hx hb dX8_isOperand_1 (by decide) (by rw [c_13]; decide) (by decide) ?_
    replace hf := x_ip c_13 hf
    refine lv_iload_n hx hb dX8_isOperand_208 rfl (lv_at hl 2 rfl) ?_
    refine lv_if_lt (tgt := 227) hx hb dX8_isOperand_209 (by decide) (fun c_14 => ?_) (fun c_14 => ?_)
    · replace hf := x_ip c_14 hf
      refine lv_iconst (v := 0) hx hb dX8_isOperand_227 (by decide) ?_
      obtain rfl := Option.some.inj hf
      exact W.zret (ty := .boolean) hx hb hr rfl (fun t ht hW => ⟨⟨_, (), rfl, ⟨rfl, rfl⟩, trivial⟩, hS.F ht⟩) hS.2.2 dX8_isOperand_228
    · replace hf := x_in c_14 hf
      refine lv_iload_n hx hb dX8_isOperand_212 rfl (lv_at hl 2 rfl) ?_
      refine lv_aload_n hx hb dX8_isOperand_213 rfl (lv_at hl 0 rfl) ?_
      refine va_get (D := (dC, dI)) (ci := 8) (v := .ref o4) (C := RX8) (T := TX8) (N := 6) hx hb hts i_X8_isOperand_X8 hown hK hP 0 rfl rfl 1 (by decide) k_2 (fun _ h9 => h9) rfl dX8_isOperand_214 ?_
      refine va_getN (D := (dC, dI)) (ci := 4) (v := .int v4_2) (C := RX4) (T := TX4) (N := 9) hx hb hts i_X8_isOperand_X4 hown hK hP 2 rfl rfl 2 (by decide) ((hN.1 ("FlowJudge", 88, "FlowJudge$Members", "fieldCount", "I") (List.mem_of_getElem? (i := 2) rfl)).use rfl) (fun _ h9 => h9) rfl dX8_isOperand_217 ?_
      refine lv_icmp_ge (tgt := 227) hx hb dX8_isOperand_220 (by decide) (fun c_15 => ?_) (fun c_15 => ?_)
      · replace hf := x_ip c_15 hf
        refine lv_iconst (v := 0) hx hb dX8_isOperand_227 (by decide) ?_
        obtain rfl := Option.some.inj hf
        exact W.zret (ty := .boolean) hx hb hr rfl (fun t ht hW => ⟨⟨_, (), rfl, ⟨rfl, rfl⟩, trivial⟩, hS.F ht⟩) hS.2.2 dX8_isOperand_228
      · replace hf := x_in c_15 hf
        refine lv_iconst (v := 1) hx hb dX8_isOperand_223 (by decide) ?_
        refine lv_goto (tgt := 228) hx hb dX8_isOperand_224 (by decide) ?_
        obtain rfl := Option.some.inj hf
        exact W.zret (ty := .boolean) hx hb hr rfl (fun t ht hW => ⟨⟨_, (), rfl, ⟨rfl, rfl⟩, trivial⟩, hS.F ht⟩) hS.2.2 dX8_isOperand_228
  replace hf := x_in c_13 hf
  rcases Classical.em (p1 = 179) with c_16 | c_16
  · refine lv_lookup (off := 207) (tgt := 208) hx hb dX8_isOperand_1 (by decide) (by rw [c_16]; decide) (by decide) ?_
    replace hf := x_ip c_16 hf
    refine lv_iload_n hx hb dX8_isOperand_208 rfl (lv_at hl 2 rfl) ?_
    refine lv_if_lt (tgt := 227) hx hb dX8_isOperand_209 (by decide) (fun c_17 => ?_) (fun c_17 => ?_)
    · replace hf := x_ip c_17 hf
      refine lv_iconst (v := 0) hx hb dX8_isOperand_227 (by decide) ?_
      obtain rfl := Option.some.inj hf
      exact W.zret (ty := .boolean) hx hb hr rfl (fun t ht hW => ⟨⟨_, (), rfl, ⟨rfl, rfl⟩, trivial⟩, hS.F ht⟩) hS.2.2 dX8_isOperand_228
    · replace hf := x_in c_17 hf
      refine lv_iload_n hx hb dX8_isOperand_212 rfl (lv_at hl 2 rfl) ?_
      refine lv_aload_n hx hb dX8_isOperand_213 rfl (lv_at hl 0 rfl) ?_
      refine va_get (D := (dC, dI)) (ci := 8) (v := .ref o4) (C := RX8) (T := TX8) (N := 6) hx hb hts i_X8_isOperand_X8 hown hK hP 0 rfl rfl 1 (by decide) k_2 (fun _ h9 => h9) rfl dX8_isOperand_214 ?_
      refine va_getN (D := (dC, dI)) (ci := 4) (v := .int v4_2) (C := RX4) (T := TX4) (N := 9) hx hb hts i_X8_isOperand_X4 hown hK hP 2 rfl rfl 2 (by decide) ((hN.1 ("FlowJudge", 88, "FlowJudge$Members", "fieldCount", "I") (List.mem_of_getElem? (i := 2) rfl)).use rfl) (fun _ h9 => h9) rfl dX8_isOperand_217 ?_
      refine lv_icmp_ge (tgt := 227) hx hb dX8_isOperand_220 (by decide) (fun c_18 => ?_) (fun c_18 => ?_)
      · replace hf := x_ip c_18 hf
        refine lv_iconst (v := 0) hx hb dX8_isOperand_227 (by decide) ?_
        obtain rfl := Option.some.inj hf
        exact W.zret (ty := .boolean) hx hb hr rfl (fun t ht hW => ⟨⟨_, (), rfl, ⟨rfl, rfl⟩, trivial⟩, hS.F ht⟩) hS.2.2 dX8_isOperand_228
      · replace hf := x_in c_18 hf
        refine lv_iconst (v := 1) hx hb dX8_isOperand_223 (by decide) ?_
        refine lv_goto (tgt := 228) hx hb dX8_isOperand_224 (by decide) ?_
        obtain rfl := Option.some.inj hf
        exact W.zret (ty := .boolean) hx hb hr rfl (fun t ht hW => ⟨⟨_, (), rfl, ⟨rfl, rfl⟩, trivial⟩, hS.F ht⟩) hS.2.2 dX8_isOperand_228
  replace hf := x_in c_16 hf
  rcases Classical.em (p1 = 180) with c_19 | c_19
  · refine lv_lookup (off := 207) (tgt := 208) hx hb dX8_isOperand_1 (by decide) (by rw [c_19]; decide) (by decide) ?_
    replace hf := x_ip c_19 hf
    refine lv_iload_n hx hb dX8_isOperand_208 rfl (lv_at hl 2 rfl) ?_
    refine lv_if_lt (tgt := 227) hx hb dX8_isOperand_209 (by decide) (fun c_20 => ?_) (fun c_20 => ?_)
    · replace hf := x_ip c_20 hf
      refine lv_iconst (v := 0) hx hb dX8_isOperand_227 (by decide) ?_
      obtain rfl := Option.some.inj hf
      exact W.zret (ty := .boolean) hx hb hr rfl (fun t ht hW => ⟨⟨_, (), rfl, ⟨rfl, rfl⟩, trivial⟩, hS.F ht⟩) hS.2.2 dX8_isOperand_228
    · replace hf := x_in c_20 hf
      refine lv_iload_n hx hb dX8_isOperand_212 rfl (lv_at hl 2 rfl) ?_
      refine lv_aload_n hx hb dX8_isOperand_213 rfl (lv_at hl 0 rfl) ?_
      refine va_get (D := (dC, dI)) (ci := 8) (v := .ref o4) (C := RX8) (T := TX8) (N := 6) hx hb hts i_X8_isOperand_X8 hown hK hP 0 rfl rfl 1 (by decide) k_2 (fun _ h9 => h9) rfl dX8_isOperand_214 ?_
      refine va_getN (D := (dC, dI)) (ci := 4) (v := .int v4_2) (C := RX4) (T := TX4) (N := 9) hx hb hts i_X8_isOperand_X4 hown hK hP 2 rfl rfl 2 (by decide) ((hN.1 ("FlowJudge", 88, "FlowJudge$Members", "fieldCount", "I") (List.mem_of_getElem? (i := 2) rfl)).use rfl) (fun _ h9 => h9) rfl dX8_isOperand_217 ?_
      refine lv_icmp_ge (tgt := 227) hx hb dX8_isOperand_220 (by decide) (fun c_21 => ?_) (fun c_21 => ?_)
      · replace hf := x_ip c_21 hf
        refine lv_iconst (v := 0) hx hb dX8_isOperand_227 (by decide) ?_
        obtain rfl := Option.some.inj hf
        exact W.zret (ty := .boolean) hx hb hr rfl (fun t ht hW => ⟨⟨_, (), rfl, ⟨rfl, rfl⟩, trivial⟩, hS.F ht⟩) hS.2.2 dX8_isOperand_228
      · replace hf := x_in c_21 hf
        refine lv_iconst (v := 1) hx hb dX8_isOperand_223 (by decide) ?_
        refine lv_goto (tgt := 228) hx hb dX8_isOperand_224 (by decide) ?_
        obtain rfl := Option.some.inj hf
        exact W.zret (ty := .boolean) hx hb hr rfl (fun t ht hW => ⟨⟨_, (), rfl, ⟨rfl, rfl⟩, trivial⟩, hS.F ht⟩) hS.2.2 dX8_isOperand_228
  replace hf := x_in c_19 hf
  rcases Classical.em (p1 = 181) with c_22 | c_22
  · refine lv_lookup (off := 207) (tgt := 208) hx hb dX8_isOperand_1 (by decide) (by rw [c_22]; decide) (by decide) ?_
    replace hf := x_ip c_22 hf
    refine lv_iload_n hx hb dX8_isOperand_208 rfl (lv_at hl 2 rfl) ?_
    refine lv_if_lt (tgt := 227) hx hb dX8_isOperand_209 (by decide) (fun c_23 => ?_) (fun c_23 => ?_)
    · replace hf := x_ip c_23 hf
      refine lv_iconst (v := 0) hx hb dX8_isOperand_227 (by decide) ?_
      obtain rfl := Option.some.inj hf
      exact W.zret (ty := .boolean) hx hb hr rfl (fun t ht hW => ⟨⟨_, (), rfl, ⟨rfl, rfl⟩, trivial⟩, hS.F ht⟩) hS.2.2 dX8_isOperand_228
    · replace hf := x_in c_23 hf
      refine lv_iload_n hx hb dX8_isOperand_212 rfl (lv_at hl 2 rfl) ?_
      refine lv_aload_n hx hb dX8_isOperand_213 rfl (lv_at hl 0 rfl) ?_
      refine va_get (D := (dC, dI)) (ci := 8) (v := .ref o4) (C := RX8) (T := TX8) (N := 6) hx hb hts i_X8_isOperand_X8 hown hK hP 0 rfl rfl 1 (by decide) k_2 (fun _ h9 => h9) rfl dX8_isOperand_214 ?_
      refine va_getN (D := (dC, dI)) (ci := 4) (v := .int v4_2) (C := RX4) (T := TX4) (N := 9) hx hb hts i_X8_isOperand_X4 hown hK hP 2 rfl rfl 2 (by decide) ((hN.1 ("FlowJudge", 88, "FlowJudge$Members", "fieldCount", "I") (List.mem_of_getElem? (i := 2) rfl)).use rfl) (fun _ h9 => h9) rfl dX8_isOperand_217 ?_
      refine lv_icmp_ge (tgt := 227) hx hb dX8_isOperand_220 (by decide) (fun c_24 => ?_) (fun c_24 => ?_)
      · replace hf := x_ip c_24 hf
        refine lv_iconst (v := 0) hx hb dX8_isOperand_227 (by decide) ?_
        obtain rfl := Option.some.inj hf
        exact W.zret (ty := .boolean) hx hb hr rfl (fun t ht hW => ⟨⟨_, (), rfl, ⟨rfl, rfl⟩, trivial⟩, hS.F ht⟩) hS.2.2 dX8_isOperand_228
      · replace hf := x_in c_24 hf
        refine lv_iconst (v := 1) hx hb dX8_isOperand_223 (by decide) ?_
        refine lv_goto (tgt := 228) hx hb dX8_isOperand_224 (by decide) ?_
        obtain rfl := Option.some.inj hf
        exact W.zret (ty := .boolean) hx hb hr rfl (fun t ht hW => ⟨⟨_, (), rfl, ⟨rfl, rfl⟩, trivial⟩, hS.F ht⟩) hS.2.2 dX8_isOperand_228
  replace hf := x_in c_22 hf
  rcases Classical.em (p1 = 182) with c_25 | c_25
  · refine lv_lookup (off := 228) (tgt := 229) hx hb dX8_isOperand_1 (by decide) (by rw [c_25]; decide) (by decide) ?_
    replace hf := x_ip c_25 hf
    refine lv_iload_n hx hb dX8_isOperand_229 rfl (lv_at hl 2 rfl) ?_
    refine lv_if_lt (tgt := 248) hx hb dX8_isOperand_230 (by decide) (fun c_26 => ?_) (fun c_26 => ?_)
    · replace hf := x_ip c_26 hf
      refine lv_iconst (v := 0) hx hb dX8_isOperand_248 (by decide) ?_
      obtain rfl := Option.some.inj hf
      exact W.zret (ty := .boolean) hx hb hr rfl (fun t ht hW => ⟨⟨_, (), rfl, ⟨rfl, rfl⟩, trivial⟩, hS.F ht⟩) hS.2.2 dX8_isOperand_249
    · replace hf := x_in c_26 hf
      refine lv_iload_n hx hb dX8_isOperand_233 rfl (lv_at hl 2 rfl) ?_
      refine lv_aload_n hx hb dX8_isOperand_234 rfl (lv_at hl 0 rfl) ?_
      refine va_get (D := (dC, dI)) (ci := 8) (v := .ref o4) (C := RX8) (T := TX8) (N := 6) hx hb hts i_X8_isOperand_X8 hown hK hP 0 rfl rfl 1 (by decide) k_2 (fun _ h9 => h9) rfl dX8_isOperand_235 ?_
      refine va_getN (D := (dC, dI)) (ci := 4) (v := .int v4_8) (C := RX4) (T := TX4) (N := 9) hx hb hts i_X8_isOperand_X4 hown hK hP 2 rfl rfl 8 (by decide) ((hN.1 ("FlowJudge", 104, "FlowJudge$Members", "shapeCount", "I") (List.mem_of_getElem? (i := 3) rfl)).use rfl) (fun _ h9 => h9) rfl dX8_isOperand_238 ?_
      refine lv_icmp_ge (tgt := 248) hx hb dX8_isOperand_241 (by decide) (fun c_27 => ?_) (fun c_27 => ?_)
      · replace hf := x_ip c_27 hf
        refine lv_iconst (v := 0) hx hb dX8_isOperand_248 (by decide) ?_
        obtain rfl := Option.some.inj hf
        exact W.zret (ty := .boolean) hx hb hr rfl (fun t ht hW => ⟨⟨_, (), rfl, ⟨rfl, rfl⟩, trivial⟩, hS.F ht⟩) hS.2.2 dX8_isOperand_249
      · replace hf := x_in c_27 hf
        refine lv_iconst (v := 1) hx hb dX8_isOperand_244 (by decide) ?_
        refine lv_goto (tgt := 249) hx hb dX8_isOperand_245 (by decide) ?_
        obtain rfl := Option.some.inj hf
        exact W.zret (ty := .boolean) hx hb hr rfl (fun t ht hW => ⟨⟨_, (), rfl, ⟨rfl, rfl⟩, trivial⟩, hS.F ht⟩) hS.2.2 dX8_isOperand_249
  replace hf := x_in c_25 hf
  rcases Classical.em (p1 = 183) with c_28 | c_28
  · refine lv_lookup (off := 228) (tgt := 229) hx hb dX8_isOperand_1 (by decide) (by rw [c_28]; decide) (by decide) ?_
    replace hf := x_ip c_28 hf
    refine lv_iload_n hx hb dX8_isOperand_229 rfl (lv_at hl 2 rfl) ?_
    refine lv_if_lt (tgt := 248) hx hb dX8_isOperand_230 (by decide) (fun c_29 => ?_) (fun c_29 => ?_)
    · replace hf := x_ip c_29 hf
      refine lv_iconst (v := 0) hx hb dX8_isOperand_248 (by decide) ?_
      obtain rfl := Option.some.inj hf
      exact W.zret (ty := .boolean) hx hb hr rfl (fun t ht hW => ⟨⟨_, (), rfl, ⟨rfl, rfl⟩, trivial⟩, hS.F ht⟩) hS.2.2 dX8_isOperand_249
    · replace hf := x_in c_29 hf
      refine lv_iload_n hx hb dX8_isOperand_233 rfl (lv_at hl 2 rfl) ?_
      refine lv_aload_n hx hb dX8_isOperand_234 rfl (lv_at hl 0 rfl) ?_
      refine va_get (D := (dC, dI)) (ci := 8) (v := .ref o4) (C := RX8) (T := TX8) (N := 6) hx hb hts i_X8_isOperand_X8 hown hK hP 0 rfl rfl 1 (by decide) k_2 (fun _ h9 => h9) rfl dX8_isOperand_235 ?_
      refine va_getN (D := (dC, dI)) (ci := 4) (v := .int v4_8) (C := RX4) (T := TX4) (N := 9) hx hb hts i_X8_isOperand_X4 hown hK hP 2 rfl rfl 8 (by decide) ((hN.1 ("FlowJudge", 104, "FlowJudge$Members", "shapeCount", "I") (List.mem_of_getElem? (i := 3) rfl)).use rfl) (fun _ h9 => h9) rfl dX8_isOperand_238 ?_
      refine lv_icmp_ge (tgt := 248) hx hb dX8_isOperand_241 (by decide) (fun c_30 => ?_) (fun c_30 => ?_)
      · replace hf := x_ip c_30 hf
        refine lv_iconst (v := 0) hx hb dX8_isOperand_248 (by decide) ?_
        obtain rfl := Option.some.inj hf
        exact W.zret (ty := .boolean) hx hb hr rfl (fun t ht hW => ⟨⟨_, (), rfl, ⟨rfl, rfl⟩, trivial⟩, hS.F ht⟩) hS.2.2 dX8_isOperand_249
      · replace hf := x_in c_30 hf
        refine lv_iconst (v := 1) hx hb dX8_isOperand_244 (by decide) ?_
        refine lv_goto (tgt := 249) hx hb dX8_isOperand_245 (by decide) ?_
        obtain rfl := Option.some.inj hf
        exact W.zret (ty := .boolean) hx hb hr rfl (fun t ht hW => ⟨⟨_, (), rfl, ⟨rfl, rfl⟩, trivial⟩, hS.F ht⟩) hS.2.2 dX8_isOperand_249
  replace hf := x_in c_28 hf
  rcases Classical.em (p1 = 184) with c_31 | c_31
  · refine lv_lookup (off := 228) (tgt := 229) hx hb dX8_isOperand_1 (by decide) (by rw [c_31]; decide) (by decide) ?_
    replace hf := x_ip c_31 hf
    refine lv_iload_n hx hb dX8_isOperand_229 rfl (lv_at hl 2 rfl) ?_
    refine lv_if_lt (tgt := 248) hx hb dX8_isOperand_230 (by decide) (fun c_32 => ?_) (fun c_32 => ?_)
    · replace hf := x_ip c_32 hf
      refine lv_iconst (v := 0) hx hb dX8_isOperand_248 (by decide) ?_
      obtain rfl := Option.some.inj hf
      exact W.zret (ty := .boolean) hx hb hr rfl (fun t ht hW => ⟨⟨_, (), rfl, ⟨rfl, rfl⟩, trivial⟩, hS.F ht⟩) hS.2.2 dX8_isOperand_249
    · replace hf := x_in c_32 hf
      refine lv_iload_n hx hb dX8_isOperand_233 rfl (lv_at hl 2 rfl) ?_
      refine lv_aload_n hx hb dX8_isOperand_234 rfl (lv_at hl 0 rfl) ?_
      refine va_get (D := (dC, dI)) (ci := 8) (v := .ref o4) (C := RX8) (T := TX8) (N := 6) hx hb hts i_X8_isOperand_X8 hown hK hP 0 rfl rfl 1 (by decide) k_2 (fun _ h9 => h9) rfl dX8_isOperand_235 ?_
      refine va_getN (D := (dC, dI)) (ci := 4) (v := .int v4_8) (C := RX4) (T := TX4) (N := 9) hx hb hts i_X8_isOperand_X4 hown hK hP 2 rfl rfl 8 (by decide) ((hN.1 ("FlowJudge", 104, "FlowJudge$Members", "shapeCount", "I") (List.mem_of_getElem? (i := 3) rfl)).use rfl) (fun _ h9 => h9) rfl dX8_isOperand_238 ?_
      refine lv_icmp_ge (tgt := 248) hx hb dX8_isOperand_241 (by decide) (fun c_33 => ?_) (fun c_33 => ?_)
      · replace hf := x_ip c_33 hf
        refine lv_iconst (v := 0) hx hb dX8_isOperand_248 (by decide) ?_
        obtain rfl := Option.some.inj hf
        exact W.zret (ty := .boolean) hx hb hr rfl (fun t ht hW => ⟨⟨_, (), rfl, ⟨rfl, rfl⟩, trivial⟩, hS.F ht⟩) hS.2.2 dX8_isOperand_249
      · replace hf := x_in c_33 hf
        refine lv_iconst (v := 1) hx hb dX8_isOperand_244 (by decide) ?_
        refine lv_goto (tgt := 249) hx hb dX8_isOperand_245 (by decide) ?_
        obtain rfl := Option.some.inj hf
        exact W.zret (ty := .boolean) hx hb hr rfl (fun t ht hW => ⟨⟨_, (), rfl, ⟨rfl, rfl⟩, trivial⟩, hS.F ht⟩) hS.2.2 dX8_isOperand_249
  replace hf := x_in c_31 hf
  rcases Classical.em (p1 = 185) with c_34 | c_34
  · refine lv_lookup (off := 228) (tgt := 229) hx hb dX8_isOperand_1 (by decide) (by rw [c_34]; decide) (by decide) ?_
    replace hf := x_ip c_34 hf
    refine lv_iload_n hx hb dX8_isOperand_229 rfl (lv_at hl 2 rfl) ?_
    refine lv_if_lt (tgt := 248) hx hb dX8_isOperand_230 (by decide) (fun c_35 => ?_) (fun c_35 => ?_)
    · replace hf := x_ip c_35 hf
      refine lv_iconst (v := 0) hx hb dX8_isOperand_248 (by decide) ?_
      obtain rfl := Option.some.inj hf
      exact W.zret (ty := .boolean) hx hb hr rfl (fun t ht hW => ⟨⟨_, (), rfl, ⟨rfl, rfl⟩, trivial⟩, hS.F ht⟩) hS.2.2 dX8_isOperand_249
    · replace hf := x_in c_35 hf
      refine lv_iload_n hx hb dX8_isOperand_233 rfl (lv_at hl 2 rfl) ?_
      refine lv_aload_n hx hb dX8_isOperand_234 rfl (lv_at hl 0 rfl) ?_
      refine va_get (D := (dC, dI)) (ci := 8) (v := .ref o4) (C := RX8) (T := TX8) (N := 6) hx hb hts i_X8_isOperand_X8 hown hK hP 0 rfl rfl 1 (by decide) k_2 (fun _ h9 => h9) rfl dX8_isOperand_235 ?_
      refine va_getN (D := (dC, dI)) (ci := 4) (v := .int v4_8) (C := RX4) (T := TX4) (N := 9) hx hb hts i_X8_isOperand_X4 hown hK hP 2 rfl rfl 8 (by decide) ((hN.1 ("FlowJudge", 104, "FlowJudge$Members", "shapeCount", "I") (List.mem_of_getElem? (i := 3) rfl)).use rfl) (fun _ h9 => h9) rfl dX8_isOperand_238 ?_
      refine lv_icmp_ge (tgt := 248) hx hb dX8_isOperand_241 (by decide) (fun c_36 => ?_) (fun c_36 => ?_)
      · replace hf := x_ip c_36 hf
        refine lv_iconst (v := 0) hx hb dX8_isOperand_248 (by decide) ?_
        obtain rfl := Option.some.inj hf
        exact W.zret (ty := .boolean) hx hb hr rfl (fun t ht hW => ⟨⟨_, (), rfl, ⟨rfl, rfl⟩, trivial⟩, hS.F ht⟩) hS.2.2 dX8_isOperand_249
      · replace hf := x_in c_36 hf
        refine lv_iconst (v := 1) hx hb dX8_isOperand_244 (by decide) ?_
        refine lv_goto (tgt := 249) hx hb dX8_isOperand_245 (by decide) ?_
        obtain rfl := Option.some.inj hf
        exact W.zret (ty := .boolean) hx hb hr rfl (fun t ht hW => ⟨⟨_, (), rfl, ⟨rfl, rfl⟩, trivial⟩, hS.F ht⟩) hS.2.2 dX8_isOperand_249
  replace hf := x_in c_34 hf
  rcases Classical.em (p1 = 186) with c_37 | c_37
  · refine lv_lookup (off := 228) (tgt := 229) hx hb dX8_isOperand_1 (by decide) (by rw [c_37]; decide) (by decide) ?_
    replace hf := x_ip c_37 hf
    refine lv_iload_n hx hb dX8_isOperand_229 rfl (lv_at hl 2 rfl) ?_
    refine lv_if_lt (tgt := 248) hx hb dX8_isOperand_230 (by decide) (fun c_38 => ?_) (fun c_38 => ?_)
    · replace hf := x_ip c_38 hf
      refine lv_iconst (v := 0) hx hb dX8_isOperand_248 (by decide) ?_
      obtain rfl := Option.some.inj hf
      exact W.zret (ty := .boolean) hx hb hr rfl (fun t ht hW => ⟨⟨_, (), rfl, ⟨rfl, rfl⟩, trivial⟩, hS.F ht⟩) hS.2.2 dX8_isOperand_249
    · replace hf := x_in c_38 hf
      refine lv_iload_n hx hb dX8_isOperand_233 rfl (lv_at hl 2 rfl) ?_
      refine lv_aload_n hx hb dX8_isOperand_234 rfl (lv_at hl 0 rfl) ?_
      refine va_get (D := (dC, dI)) (ci := 8) (v := .ref o4) (C := RX8) (T := TX8) (N := 6) hx hb hts i_X8_isOperand_X8 hown hK hP 0 rfl rfl 1 (by decide) k_2 (fun _ h9 => h9) rfl dX8_isOperand_235 ?_
      refine va_getN (D := (dC, dI)) (ci := 4) (v := .int v4_8) (C := RX4) (T := TX4) (N := 9) hx hb hts i_X8_isOperand_X4 hown hK hP 2 rfl rfl 8 (by decide) ((hN.1 ("FlowJudge", 104, "FlowJudge$Members", "shapeCount", "I") (List.mem_of_getElem? (i := 3) rfl)).use rfl) (fun _ h9 => h9) rfl dX8_isOperand_238 ?_
      refine lv_icmp_ge (tgt := 248) hx hb dX8_isOperand_241 (by decide) (fun c_39 => ?_) (fun c_39 => ?_)
      · replace hf := x_ip c_39 hf
        refine lv_iconst (v := 0) hx hb dX8_isOperand_248 (by decide) ?_
        obtain rfl := Option.some.inj hf
        exact W.zret (ty := .boolean) hx hb hr rfl (fun t ht hW => ⟨⟨_, (), rfl, ⟨rfl, rfl⟩, trivial⟩, hS.F ht⟩) hS.2.2 dX8_isOperand_249
      · replace hf := x_in c_39 hf
        refine lv_iconst (v := 1) hx hb dX8_isOperand_244 (by decide) ?_
        refine lv_goto (tgt := 249) hx hb dX8_isOperand_245 (by decide) ?_
        obtain rfl := Option.some.inj hf
        exact W.zret (ty := .boolean) hx hb hr rfl (fun t ht hW => ⟨⟨_, (), rfl, ⟨rfl, rfl⟩, trivial⟩, hS.F ht⟩) hS.2.2 dX8_isOperand_249
  replace hf := x_in c_37 hf
  rcases Classical.em (p1 = 187) with c_40 | c_40
  · refine lv_lookup (off := 249) (tgt := 250) hx hb dX8_isOperand_1 (by decide) (by rw [c_40]; decide) (by decide) ?_
    replace hf := x_ip c_40 hf
    refine lv_aload_n hx hb dX8_isOperand_250 rfl (lv_at hl 0 rfl) ?_
    refine va_get (D := (dC, dI)) (ci := 8) (v := .ref o7) (C := RX8) (T := TX8) (N := 6) hx hb hts i_X8_isOperand_X8 hown hK hP 0 rfl rfl 0 (by decide) k_1 (fun _ h9 => h9) rfl dX8_isOperand_251 ?_
    refine lv_iload_n hx hb dX8_isOperand_254 rfl (lv_at hl 2 rfl) ?_
    obtain ⟨r_41, h_41, hf⟩ := x_bi hf
    have hPc := hP.sub (ws' := [(o7, .inr (7, [.ref a7_0, .ref a7_1, .int v7_2]))]) [1] rfl
    refine va_calli (va_runV (As := [.int p2]) (rest := []) ⟨hx, hb, hml, hown, hts⟩ (c_X7_isClass l dC dI cyI cyZ cyJ H.size o7 a7_0 a7_1 v7_2 p2 r_41 h_41) (cwV 1 hts gX8_isOperand_X7_isClass rfl rfl rfl (by decide +kernel) ⟨Nat.le_of_ble_eq_true rfl, Nat.le_of_ble_eq_true rfl⟩) (x_pV hN hK hPc (ci := 7) (q0 := 0) rfl rfl) rfl rfl hl.1 rfl (lv_room (Nat.le_of_ble_eq_true rfl)) dX8_isOperand_255 ⟨Nat.le_of_ble_eq_true rfl, Nat.le_of_ble_eq_true rfl⟩) hS x_nA (x_nf hA hS) (fun q_41 u t H1 locs ht hvm hw hB hz1 hk1 hS => ?_)
    have hP := x_kp hP hk1
    clear ht hvm hB hz1 hk1 t u hPc
    generalize H1 = H at hP hS ⊢
    obtain ⟨hw, b_41⟩ := hw
    obtain rfl := hw.symm
    obtain rfl := Option.some.inj hf
    exact W.zret (ty := .boolean) hx hb hr b_41 (fun t ht hW => ⟨⟨_, (), rfl, ⟨rfl, b_41⟩, trivial⟩, hS.F ht⟩) hS.2.2 dX8_isOperand_258
  replace hf := x_in c_40 hf
  rcases Classical.em (p1 = 188) with c_42 | c_42
  · refine lv_lookup (off := 258) (tgt := 259) hx hb dX8_isOperand_1 (by decide) (by rw [c_42]; decide) (by decide) ?_
    replace hf := x_ip c_42 hf
    refine lv_iload_n hx hb dX8_isOperand_259 rfl (lv_at hl 2 rfl) ?_
    refine lv_if_lt (tgt := 273) hx hb dX8_isOperand_260 (by decide) (fun c_43 => ?_) (fun c_43 => ?_)
    · replace hf := x_ip c_43 hf
      refine lv_iconst (v := 0) hx hb dX8_isOperand_273 (by decide) ?_
      obtain rfl := Option.some.inj hf
      exact W.zret (ty := .boolean) hx hb hr rfl (fun t ht hW => ⟨⟨_, (), rfl, ⟨rfl, rfl⟩, trivial⟩, hS.F ht⟩) hS.2.2 dX8_isOperand_274
    · replace hf := x_in c_43 hf
      refine lv_iload_n hx hb dX8_isOperand_263 rfl (lv_at hl 2 rfl) ?_
      refine lv_bipush (v := 7) hx hb dX8_isOperand_264 (by decide) ?_
      refine lv_icmp_gt (tgt := 273) hx hb dX8_isOperand_266 (by decide) (fun c_44 => ?_) (fun c_44 => ?_)
      · replace hf := x_ip c_44 hf
        refine lv_iconst (v := 0) hx hb dX8_isOperand_273 (by decide) ?_
        obtain rfl := Option.some.inj hf
        exact W.zret (ty := .boolean) hx hb hr rfl (fun t ht hW => ⟨⟨_, (), rfl, ⟨rfl, rfl⟩, trivial⟩, hS.F ht⟩) hS.2.2 dX8_isOperand_274
      · replace hf := x_in c_44 hf
        refine lv_iconst (v := 1) hx hb dX8_isOperand_269 (by decide) ?_
        refine lv_goto (tgt := 274) hx hb dX8_isOperand_270 (by decide) ?_
        obtain rfl := Option.some.inj hf
        exact W.zret (ty := .boolean) hx hb hr rfl (fun t ht hW => ⟨⟨_, (), rfl, ⟨rfl, rfl⟩, trivial⟩, hS.F ht⟩) hS.2.2 dX8_isOperand_274
  replace hf := x_in c_42 hf
  rcases Classical.em (p1 = 189) with c_45 | c_45
  · refine lv_lookup (off := 274) (tgt := 275) hx hb dX8_isOperand_1 (by decide) (by rw [c_45]; decide) (by decide) ?_
    replace hf := x_ip c_45 hf
    refine lv_aload_n hx hb dX8_isOperand_275 rfl (lv_at hl 0 rfl) ?_
    refine va_get (D := (dC, dI)) (ci := 8) (v := .ref o7) (C := RX8) (T := TX8) (N := 6) hx hb hts i_X8_isOperand_X8 hown hK hP 0 rfl rfl 0 (by decide) k_1 (fun _ h9 => h9) rfl dX8_isOperand_276 ?_
    refine lv_iload_n hx hb dX8_isOperand_279 rfl (lv_at hl 2 rfl) ?_
    obtain ⟨r_46, h_46, hf⟩ := x_bi hf
    have hPc := hP.sub (ws' := [(o7, .inr (7, [.ref a7_0, .ref a7_1, .int v7_2]))]) [1] rfl
    refine va_calli (va_runV (As := [.int p2]) (rest := []) ⟨hx, hb, hml, hown, hts⟩ (c_X7_isReference l dC dI cyI cyZ cyJ H.size o7 a7_0 a7_1 v7_2 p2 r_46 h_46) (cwV 1 hts gX8_isOperand_X7_isReference rfl rfl rfl (by decide +kernel) ⟨Nat.le_of_ble_eq_true rfl, Nat.le_of_ble_eq_true rfl⟩) (x_pV hN hK hPc (ci := 7) (q0 := 0) rfl rfl) rfl rfl hl.1 rfl (lv_room (Nat.le_of_ble_eq_true rfl)) dX8_isOperand_280 ⟨Nat.le_of_ble_eq_true rfl, Nat.le_of_ble_eq_true rfl⟩) hS x_nA (x_nf hA hS) (fun q_46 u t H1 locs ht hvm hw hB hz1 hk1 hS => ?_)
    have hP := x_kp hP hk1
    clear ht hvm hB hz1 hk1 t u hPc
    generalize H1 = H at hP hS ⊢
    obtain ⟨hw, b_46⟩ := hw
    obtain rfl := hw.symm
    refine lv_if_eq (tgt := 300) hx hb dX8_isOperand_283 (by decide) (fun c_47 => ?_) (fun c_47 => ?_)
    · replace hf := x_ip c_47 hf
      refine lv_iconst (v := 0) hx hb dX8_isOperand_300 (by decide) ?_
      obtain rfl := Option.some.inj hf
      exact W.zret (ty := .boolean) hx hb hr rfl (fun t ht hW => ⟨⟨_, (), rfl, ⟨rfl, rfl⟩, trivial⟩, hS.F ht⟩) hS.2.2 dX8_isOperand_301
    · replace hf := x_in c_47 hf
      refine lv_iload_n hx hb dX8_isOperand_286 rfl (lv_at hl 2 rfl) ?_
      obtain ⟨r_48, h_48, hf⟩ := x_bi hf
      have hPc := hP.sub (ws' := []) [] rfl
      refine va_calli (va_runS (As := [.int p2]) (rest := []) ⟨hx, hb, hml, hown, hts⟩ (c_X7_dimensionsOf l dC dI cyI cyZ cyJ H.size p2 r_48 h_48) (va_cwS 1 hts gX8_isOperand_X7_dimensionsOf rfl rfl rfl (by decide +kernel) ⟨Nat.le_of_ble_eq_true rfl, Nat.le_of_ble_eq_true rfl⟩) (x_pS hN hK hPc) rfl rfl hl.1 rfl (lv_room (Nat.le_of_ble_eq_true rfl)) dX8_isOperand_287 ⟨Nat.le_of_ble_eq_true rfl, Nat.le_of_ble_eq_true rfl⟩) hS x_nA (x_nf hA hS) (fun q_48 u t H1 locs ht hvm hw hB hz1 hk1 hS => ?_)
      have hP := x_kp hP hk1
      clear ht hvm hB hz1 hk1 t u hPc
      generalize H1 = H at hP hS ⊢
      obtain rfl := hw.symm
      refine lv_sipush (v := 255) hx hb dX8_isOperand_290 (by decide) ?_
      refine lv_icmp_ge (tgt := 300) hx hb dX8_isOperand_293 (by decide) (fun c_49 => ?_) (fun c_49 => ?_)
      · replace hf := x_ip c_49 hf
        refine lv_iconst (v := 0) hx hb dX8_isOperand_300 (by decide) ?_
        obtain rfl := Option.some.inj hf
        exact W.zret (ty := .boolean) hx hb hr rfl (fun t ht hW => ⟨⟨_, (), rfl, ⟨rfl, rfl⟩, trivial⟩, hS.F ht⟩) hS.2.2 dX8_isOperand_301
      · replace hf := x_in c_49 hf
        refine lv_iconst (v := 1) hx hb dX8_isOperand_296 (by decide) ?_
        refine lv_goto (tgt := 301) hx hb dX8_isOperand_297 (by decide) ?_
        obtain rfl := Option.some.inj hf
        exact W.zret (ty := .boolean) hx hb hr rfl (fun t ht hW => ⟨⟨_, (), rfl, ⟨rfl, rfl⟩, trivial⟩, hS.F ht⟩) hS.2.2 dX8_isOperand_301
  replace hf := x_in c_45 hf
  rcases Classical.em (p1 = 192) with c_50 | c_50
  · refine lv_lookup (off := 301) (tgt := 302) hx hb dX8_isOperand_1 (by decide) (by rw [c_50]; decide) (by decide) ?_
    replace hf := x_ip c_50 hf
    refine lv_aload_n hx hb dX8_isOperand_302 rfl (lv_at hl 0 rfl) ?_
    refine va_get (D := (dC, dI)) (ci := 8) (v := .ref o7) (C := RX8) (T := TX8) (N := 6) hx hb hts i_X8_isOperand_X8 hown hK hP 0 rfl rfl 0 (by decide) k_1 (fun _ h9 => h9) rfl dX8_isOperand_303 ?_
    refine lv_iload_n hx hb dX8_isOperand_306 rfl (lv_at hl 2 rfl) ?_
    obtain ⟨r_51, h_51, hf⟩ := x_bi hf
    have hPc := hP.sub (ws' := [(o7, .inr (7, [.ref a7_0, .ref a7_1, .int v7_2]))]) [1] rfl
    refine va_calli (va_runV (As := [.int p2]) (rest := []) ⟨hx, hb, hml, hown, hts⟩ (c_X7_isReference l dC dI cyI cyZ cyJ H.size o7 a7_0 a7_1 v7_2 p2 r_51 h_51) (cwV 1 hts gX8_isOperand_X7_isReference rfl rfl rfl (by decide +kernel) ⟨Nat.le_of_ble_eq_true rfl, Nat.le_of_ble_eq_true rfl⟩) (x_pV hN hK hPc (ci := 7) (q0 := 0) rfl rfl) rfl rfl hl.1 rfl (lv_room (Nat.le_of_ble_eq_true rfl)) dX8_isOperand_307 ⟨Nat.le_of_ble_eq_true rfl, Nat.le_of_ble_eq_true rfl⟩) hS x_nA (x_nf hA hS) (fun q_51 u t H1 locs ht hvm hw hB hz1 hk1 hS => ?_)
    have hP := x_kp hP hk1
    clear ht hvm hB hz1 hk1 t u hPc
    generalize H1 = H at hP hS ⊢
    obtain ⟨hw, b_51⟩ := hw
    obtain rfl := hw.symm
    obtain rfl := Option.some.inj hf
    exact W.zret (ty := .boolean) hx hb hr b_51 (fun t ht hW => ⟨⟨_, (), rfl, ⟨rfl, b_51⟩, trivial⟩, hS.F ht⟩) hS.2.2 dX8_isOperand_310
  replace hf := x_in c_50 hf
  rcases Classical.em (p1 = 193) with c_52 | c_52
  · refine lv_lookup (off := 301) (tgt := 302) hx hb dX8_isOperand_1 (by decide) (by rw [c_52]; decide) (by decide) ?_
    replace hf := x_ip c_52 hf
    refine lv_aload_n hx hb dX8_isOperand_302 rfl (lv_at hl 0 rfl) ?_
    refine va_get (D := (dC, dI)) (ci := 8) (v := .ref o7) (C := RX8) (T := TX8) (N := 6) hx hb hts i_X8_isOperand_X8 hown hK hP 0 rfl rfl 0 (by decide) k_1 (fun _ h9 => h9) rfl dX8_isOperand_303 ?_
    refine lv_iload_n hx hb dX8_isOperand_306 rfl (lv_at hl 2 rfl) ?_
    obtain ⟨r_53, h_53, hf⟩ := x_bi hf
    have hPc := hP.sub (ws' := [(o7, .inr (7, [.ref a7_0, .ref a7_1, .int v7_2]))]) [1] rfl
    refine va_calli (va_runV (As := [.int p2]) (rest := []) ⟨hx, hb, hml, hown, hts⟩ (c_X7_isReference l dC dI cyI cyZ cyJ H.size o7 a7_0 a7_1 v7_2 p2 r_53 h_53) (cwV 1 hts gX8_isOperand_X7_isReference rfl rfl rfl (by decide +kernel) ⟨Nat.le_of_ble_eq_true rfl, Nat.le_of_ble_eq_true rfl⟩) (x_pV hN hK hPc (ci := 7) (q0 := 0) rfl rfl) rfl rfl hl.1 rfl (lv_room (Nat.le_of_ble_eq_true rfl)) dX8_isOperand_307 ⟨Nat.le_of_ble_eq_true rfl, Nat.le_of_ble_eq_true rfl⟩) hS x_nA (x_nf hA hS) (fun q_53 u t H1 locs ht hvm hw hB hz1 hk1 hS => ?_)
    have hP := x_kp hP hk1
    clear ht hvm hB hz1 hk1 t u hPc
    generalize H1 = H at hP hS ⊢
    obtain ⟨hw, b_53⟩ := hw
    obtain rfl := hw.symm
    obtain rfl := Option.some.inj hf
    exact W.zret (ty := .boolean) hx hb hr b_53 (fun t ht hW => ⟨⟨_, (), rfl, ⟨rfl, b_53⟩, trivial⟩, hS.F ht⟩) hS.2.2 dX8_isOperand_310
  replace hf := x_in c_52 hf
  refine lv_lookup (off := 310) (tgt := 311) hx hb dX8_isOperand_1 (by decide) ((lv_osw (k := 16) c_1 (by decide)).trans ((lv_osw (k := 17) c_2 (by decide)).trans ((lv_osw (k := 18) c_3 (by decide)).trans ((lv_osw (k := 20) c_8 (by decide)).trans ((lv_osw (k := 178) c_13 (by decide)).trans ((lv_osw (k := 179) c_16 (by decide)).trans ((lv_osw (k := 180) c_19 (by decide)).trans ((lv_osw (k := 181) c_22 (by decide)).trans ((lv_osw (k := 182) c_25 (by decide)).trans ((lv_osw (k := 183) c_28 (by decide)).trans ((lv_osw (k := 184) c_31 (by decide)).trans ((lv_osw (k := 185) c_34 (by decide)).trans ((lv_osw (k := 186) c_37 (by decide)).trans ((lv_osw (k := 187) c_40 (by decide)).trans ((lv_osw (k := 188) c_42 (by decide)).trans ((lv_osw (k := 189) c_45 (by decide)).trans ((lv_osw (k := 192) c_50 (by decide)).trans ((lv_osw (k := 193) c_52 (by decide)).trans rfl)))))))))))))))))) (by decide) ?_
  refine lv_iload_n hx hb dX8_isOperand_311 rfl (lv_at hl 1 rfl) ?_
  obtain ⟨r_54, h_54, hf⟩ := x_bi hf
  have hPc := hP.sub (ws' := []) [] rfl
  refine va_calli (va_runS (As := [.int p1]) (rest := []) ⟨hx, hb, hml, hown, hts⟩ (c_X0_isOpcode l dC dI cyI cyZ cyJ H.size p1 r_54 h_54) (va_cwS 1 hts gX8_isOperand_X0_isOpcode rfl rfl rfl (by decide +kernel) ⟨Nat.le_of_ble_eq_true rfl, Nat.le_of_ble_eq_true rfl⟩) (x_pS hN hK hPc) rfl rfl hl.1 rfl (lv_room (Nat.le_of_ble_eq_true rfl)) dX8_isOperand_312 ⟨Nat.le_of_ble_eq_true rfl, Nat.le_of_ble_eq_true rfl⟩) hS x_nA (x_nf hA hS) (fun q_54 u t H1 locs ht hvm hw hB hz1 hk1 hS => ?_)
  have hP := x_kp hP hk1
  clear ht hvm hB hz1 hk1 t u hPc
  generalize H1 = H at hP hS ⊢
  obtain ⟨hw, b_54⟩ := hw
  obtain rfl := hw.symm
  refine lv_if_eq (tgt := 344) hx hb dX8_isOperand_315 (by decide) (fun c_55 => ?_) (fun c_55 => ?_)
  · replace hf := x_ip c_55 hf
    refine lv_iconst (v := 0) hx hb dX8_isOperand_344 (by decide) ?_
    obtain rfl := Option.some.inj hf
    exact W.zret (ty := .boolean) hx hb hr rfl (fun t ht hW => ⟨⟨_, (), rfl, ⟨rfl, rfl⟩, trivial⟩, hS.F ht⟩) hS.2.2 dX8_isOperand_345
  · replace hf := x_in c_55 hf
    refine lv_iload_n hx hb dX8_isOperand_318 rfl (lv_at hl 2 rfl) ?_
    refine lv_if_eq (tgt := 340) hx hb dX8_isOperand_319 (by decide) (fun c_56 => ?_) (fun c_56 => ?_)
    · replace hf := x_ip c_56 hf
      refine lv_iconst (v := 1) hx hb dX8_isOperand_340 (by decide) ?_
      refine lv_goto (tgt := 345) hx hb dX8_isOperand_341 (by decide) ?_
      obtain rfl := Option.some.inj hf
      exact W.zret (ty := .boolean) hx hb hr rfl (fun t ht hW => ⟨⟨_, (), rfl, ⟨rfl, rfl⟩, trivial⟩, hS.F ht⟩) hS.2.2 dX8_isOperand_345
    · replace hf := x_in c_56 hf
      refine lv_iload_n hx hb dX8_isOperand_322 rfl (lv_at hl 2 rfl) ?_
      refine lv_if_le (tgt := 344) hx hb dX8_isOperand_323 (by decide) (fun c_57 => ?_) (fun c_57 => ?_)
      · replace hf := x_ip c_57 hf
        refine lv_iconst (v := 0) hx hb dX8_isOperand_344 (by decide) ?_
        obtain rfl := Option.some.inj hf
        exact W.zret (ty := .boolean) hx hb hr rfl (fun t ht hW => ⟨⟨_, (), rfl, ⟨rfl, rfl⟩, trivial⟩, hS.F ht⟩) hS.2.2 dX8_isOperand_345
      · replace hf := x_in c_57 hf
        refine lv_iload_n hx hb dX8_isOperand_326 rfl (lv_at hl 1 rfl) ?_
        obtain ⟨r_58, h_58, hf⟩ := x_bi hf
        have hPc := hP.sub (ws' := []) [] rfl
        refine va_calli (va_runS (As := [.int p1]) (rest := []) ⟨hx, hb, hml, hown, hts⟩ (c_X0_isOfLocal l dC dI cyI cyZ cyJ H.size p1 r_58 h_58) (va_cwS 1 hts gX8_isOperand_X0_isOfLocal rfl rfl rfl (by decide +kernel) ⟨Nat.le_of_ble_eq_true rfl, Nat.le_of_ble_eq_true rfl⟩) (x_pS hN hK hPc) rfl rfl hl.1 rfl (lv_room (Nat.le_of_ble_eq_true rfl)) dX8_isOperand_327 ⟨Nat.le_of_ble_eq_true rfl, Nat.le_of_ble_eq_true rfl⟩) hS x_nA (x_nf hA hS) (fun q_58 u t H1 locs ht hvm hw hB hz1 hk1 hS => ?_)
        have hP := x_kp hP hk1
        clear ht hvm hB hz1 hk1 t u hPc
        generalize H1 = H at hP hS ⊢
        obtain ⟨hw, b_58⟩ := hw
        obtain rfl := hw.symm
        refine lv_if_ne (tgt := 340) hx hb dX8_isOperand_330 (by decide) (fun c_59 => ?_) (fun c_59 => ?_)
        · replace hf := x_in c_59 hf
          refine lv_iconst (v := 1) hx hb dX8_isOperand_340 (by decide) ?_
          refine lv_goto (tgt := 345) hx hb dX8_isOperand_341 (by decide) ?_
          obtain rfl := Option.some.inj hf
          exact W.zret (ty := .boolean) hx hb hr rfl (fun t ht hW => ⟨⟨_, (), rfl, ⟨rfl, rfl⟩, trivial⟩, hS.F ht⟩) hS.2.2 dX8_isOperand_345
        · replace hf := x_ip c_59 hf
          refine lv_iload_n hx hb dX8_isOperand_333 rfl (lv_at hl 1 rfl) ?_
          obtain ⟨r_60, h_60, hf⟩ := x_bi hf
          have hPc := hP.sub (ws' := []) [] rfl
          refine va_calli (va_runS (As := [.int p1]) (rest := []) ⟨hx, hb, hml, hown, hts⟩ (c_X0_isJump l dC dI cyI cyZ cyJ H.size p1 r_60 h_60) (va_cwS 1 hts gX8_isOperand_X0_isJump rfl rfl rfl (by decide +kernel) ⟨Nat.le_of_ble_eq_true rfl, Nat.le_of_ble_eq_true rfl⟩) (x_pS hN hK hPc) rfl rfl hl.1 rfl (lv_room (Nat.le_of_ble_eq_true rfl)) dX8_isOperand_334 ⟨Nat.le_of_ble_eq_true rfl, Nat.le_of_ble_eq_true rfl⟩) hS x_nA (x_nf hA hS) (fun q_60 u t H1 locs ht hvm hw hB hz1 hk1 hS => ?_)
          have hP := x_kp hP hk1
          clear ht hvm hB hz1 hk1 t u hPc
          generalize H1 = H at hP hS ⊢
          obtain ⟨hw, b_60⟩ := hw
          obtain rfl := hw.symm
          refine lv_if_eq (tgt := 344) hx hb dX8_isOperand_337 (by decide) (fun c_61 => ?_) (fun c_61 => ?_)
          · replace hf := x_ip c_61 hf
            refine lv_iconst (v := 0) hx hb dX8_isOperand_344 (by decide) ?_
            obtain rfl := Option.some.inj hf
            exact W.zret (ty := .boolean) hx hb hr rfl (fun t ht hW => ⟨⟨_, (), rfl, ⟨rfl, rfl⟩, trivial⟩, hS.F ht⟩) hS.2.2 dX8_isOperand_345
          · replace hf := x_in c_61 hf
            refine lv_iconst (v := 1) hx hb dX8_isOperand_340 (by decide) ?_
            refine lv_goto (tgt := 345) hx hb dX8_isOperand_341 (by decide) ?_
            obtain rfl := Option.some.inj hf
            exact W.zret (ty := .boolean) hx hb hr rfl (fun t ht hW => ⟨⟨_, (), rfl, ⟨rfl, rfl⟩, trivial⟩, hS.F ht⟩) hS.2.2 dX8_isOperand_345

def f_X8_isInstruction (v7_2 : Int32) (v4_2 : Int32) (v4_8 : Int32) (p1 : Int32) (p2 : Int32) (p3 : Int32) : Option (Int32) := if p1 = (132 : Int32) then if p2 < (0 : Int32) then some 0 else some 1 else if p1 = (197 : Int32) then (f_X7_isReference v7_2 p2) >>= (fun r_4 => if r_4 = (0 : Int32) then some 0 else if p3 < (1 : Int32) then some 0 else (f_X7_dimensionsOf p2) >>= (fun r_7 => if r_7 < p3 then some 0 else some 1)) else if p3 = (0 : Int32) then (f_X8_isOperand v7_2 v4_2 v4_8 p1 p2) >>= (fun r_10 => if r_10 = (0 : Int32) then some 0 else some 1) else some 0
theorem i_X8_isInstruction_X8 : ∀ w ∈ wsX80, w ∈ wsX8_isInstruction := by decide +kernel
set_option maxHeartbeats 4000000 in
set_option maxRecDepth 100000 in
theorem c_X8_isInstruction (l : Launch) (dC : Nat → ClassId) (dI : Nat → Nat → Nat) (cyI cyZ cyJ : ClassId) (sz : Nat) (o8 : Nat) (o7 : Nat) (o4 : Nat) (o0 : Nat) (o1 : Nat) (o3 : Nat) (o2 : Nat) (a7_0 : Nat) (a7_1 : Nat) (v7_2 : Int32) (a4_0 : Nat) (a4_1 : Nat) (v4_2 : Int32) (a4_3 : Nat) (a4_4 : Nat) (a4_5 : Nat) (a4_6 : Nat) (a4_7 : Nat) (v4_8 : Int32) (p1 : Int32) (p2 : Int32) (p3 : Int32) (R : Int32) (hf : f_X8_isInstruction v7_2 v4_2 v4_8 p1 p2 p3 = some R) : Met l yX8_isInstruction wsX8_isInstruction ({ frames := 4, cells := 0, slots := 0, locals := 85 }) (va_Pc [.ref o8, .int p1, .int p2, .int p3] (x_Pre (dC, dI) (x_T cyI cyZ cyJ) [(o8, .inr (8, [.ref o7, .ref o4, .ref o0, .ref o1, .ref o3, .ref o2])), (o7, .inr (7, [.ref a7_0, .ref a7_1, .int v7_2])), (o4, .inr (4, [.ref a4_0, .ref a4_1, .int v4_2, .ref a4_3, .ref a4_4, .ref a4_5, .ref a4_6, .ref a4_7, .int v4_8]))] sz)) (va_Qi (fun (r : Int32) (_ : Unit) => r = R ∧ x_nb r) (fun _ _ => True) (x_new sz)) 0 0 (x_new sz) := by
  refine Met.ofW (cc := cX8_isInstruction) (maxL := 4) (ret := (some .boolean)) (by decide) rfl ?_
  intro p e s m args below meth c s₁ B hml hv
  obtain ⟨rfl, hsz, hP, hK, hN⟩ := hv
  have hx := B.exec
  have hb := B.bytes
  have hr := B.returns
  have hts := atoms_spec (ws := wsX8_isInstruction) B.pre
  have hown : s.vm.findClass RX8 = some m.cls := findClass_of_methodNamed B.named
  have k_1 := hts (.fieldLink RX8 10 "FlowJudge" "types" "LFlowJudge$Types;") (by decide +kernel)
  subst hsz
  have hA : ∀ q : Nat, s.heap.size ≤ q → x_new s.heap.size q := fun _ h => h
  have hS : va_S (x_new s.heap.size) s.heap s.heap [] := va_S.rf
  have hP : va_P (dC, dI) vwCl [(o8, .inr (8, [.ref o7, .ref o4, .ref o0, .ref o1, .ref o3, .ref o2])), (o7, .inr (7, [.ref a7_0, .ref a7_1, .int v7_2])), (o4, .inr (4, [.ref a4_0, .ref a4_1, .int v4_2, .ref a4_3, .ref a4_4, .ref a4_5, .ref a4_6, .ref a4_7, .int v4_8]))] s.heap := hP
  have hl := lv_entry ([.ref o8, .int p1, .int p2, .int p3]) (n := 4) (Nat.le_of_ble_eq_true rfl)
  rw [lg_entry_eq]
  generalize (lg_sl ([.ref o8, .int p1, .int p2, .int p3]) ++ List.replicate (4 - (lg_sl ([.ref o8, .int p1, .int p2, .int p3])).length) Slot.unset).toArray = ls at hl ⊢
  have hl : lv_has ls 4 [(0, .ref o8), (1, .int p1), (2, .int p2), (3, .int p3)] := hl
  obtain ⟨H, hH⟩ : ∃ z, z = s.heap := ⟨_, rfl⟩
  refine x_here hH ?_
  have hP : va_P (dC, dI) vwCl [(o8, .inr (8, [.ref o7, .ref o4, .ref o0, .ref o1, .ref o3, .ref o2])), (o7, .inr (7, [.ref a7_0, .ref a7_1, .int v7_2])), (o4, .inr (4, [.ref a4_0, .ref a4_1, .int v4_2, .ref a4_3, .ref a4_4, .ref a4_5, .ref a4_6, .ref a4_7, .int v4_8]))] H := by rw [hH]; exact hP
  have hS : va_S (x_new s.heap.size) s.heap H [] := by rw [hH]; exact va_S.rf
  clear hH
  obtain ⟨locs, hlo⟩ : ∃ z : List Loc, z = [] := ⟨_, rfl⟩
  refine x_herl hlo ?_
  have hS : va_S (x_new s.heap.size) s.heap H locs := by rw [hlo]; exact hS
  clear hlo
  unfold f_X8_isInstruction at hf
  refine lv_iload_n hx hb dX8_isInstruction_0 rfl (lv_at hl 1 rfl) ?_
  rcases Classical.em (p1 = 132) with c_1 | c_1
  · refine lv_lookup (off := 27) (tgt := 28) hx hb dX8_isInstruction_1 (by decide) (by rw [c_1]; decide) (by decide) ?_
    replace hf := x_ip c_1 hf
    refine lv_iload_n hx hb dX8_isInstruction_28 rfl (lv_at hl 2 rfl) ?_
    refine lv_if_lt (tgt := 36) hx hb dX8_isInstruction_29 (by decide) (fun c_2 => ?_) (fun c_2 => ?_)
    · replace hf := x_ip c_2 hf
      refine lv_iconst (v := 0) hx hb dX8_isInstruction_36 (by decide) ?_
      obtain rfl := Option.some.inj hf
      exact W.zret (ty := .boolean) hx hb hr rfl (fun t ht hW => ⟨⟨_, (), rfl, ⟨rfl, rfl⟩, trivial⟩, hS.F ht⟩) hS.2.2 dX8_isInstruction_37
    · replace hf := x_in c_2 hf
      refine lv_iconst (v := 1) hx hb dX8_isInstruction_32 (by decide) ?_
      refine lv_goto (tgt := 37) hx hb dX8_isInstruction_33 (by decide) ?_
      obtain rfl := Option.some.inj hf
      exact W.zret (ty := .boolean) hx hb hr rfl (fun t ht hW => ⟨⟨_, (), rfl, ⟨rfl, rfl⟩, trivial⟩, hS.F ht⟩) hS.2.2 dX8_isInstruction_37
  replace hf := x_in c_1 hf
  rcases Classical.em (p1 = 197) with c_3 | c_3
  · refine lv_lookup (off := 37) (tgt := 38) hx hb dX8_isInstruction_1 (by decide) (by rw [c_3]; decide) (by decide) ?_
    replace hf := x_ip c_3 hf
    refine lv_aload_n hx hb dX8_isInstruction_38 rfl (lv_at hl 0 rfl) ?_
    refine va_get (D := (dC, dI)) (ci := 8) (v := .ref o7) (C := RX8) (T := TX8) (N := 6) hx hb hts i_X8_isInstruction_X8 hown hK hP 0 rfl rfl 0 (by decide) k_1 (fun _ h9 => h9) rfl dX8_isInstruction_39 ?_
    refine lv_iload_n hx hb dX8_isInstruction_42 rfl (lv_at hl 2 rfl) ?_
    obtain ⟨r_4, h_4, hf⟩ := x_bi hf
    have hPc := hP.sub (ws' := [(o7, .inr (7, [.ref a7_0, .ref a7_1, .int v7_2]))]) [1] rfl
    refine va_calli (va_runV (As := [.int p2]) (rest := []) ⟨hx, hb, hml, hown, hts⟩ (c_X7_isReference l dC dI cyI cyZ cyJ H.size o7 a7_0 a7_1 v7_2 p2 r_4 h_4) (cwV 1 hts gX8_isInstruction_X7_isReference rfl rfl rfl (by decide +kernel) ⟨Nat.le_of_ble_eq_true rfl, Nat.le_of_ble_eq_true rfl⟩) (x_pV hN hK hPc (ci := 7) (q0 := 0) rfl rfl) rfl rfl hl.1 rfl (lv_room (Nat.le_of_ble_eq_true rfl)) dX8_isInstruction_43 ⟨Nat.le_of_ble_eq_true rfl, Nat.le_of_ble_eq_true rfl⟩) hS x_nA (x_nf hA hS) (fun q_4 u t H1 locs ht hvm hw hB hz1 hk1 hS => ?_)
    have hP := x_kp hP hk1
    clear ht hvm hB hz1 hk1 t u hPc
    generalize H1 = H at hP hS ⊢
    obtain ⟨hw, b_4⟩ := hw
    obtain rfl := hw.symm
    refine lv_if_eq (tgt := 66) hx hb dX8_isInstruction_46 (by decide) (fun c_5 => ?_) (fun c_5 => ?_)
    · replace hf := x_ip c_5 hf
      refine lv_iconst (v := 0) hx hb dX8_isInstruction_66 (by decide) ?_
      obtain rfl := Option.some.inj hf
      exact W.zret (ty := .boolean) hx hb hr rfl (fun t ht hW => ⟨⟨_, (), rfl, ⟨rfl, rfl⟩, trivial⟩, hS.F ht⟩) hS.2.2 dX8_isInstruction_67
    · replace hf := x_in c_5 hf
      refine lv_iload_n hx hb dX8_isInstruction_49 rfl (lv_at hl 3 rfl) ?_
      refine lv_iconst (v := 1) hx hb dX8_isInstruction_50 (by decide) ?_
      refine lv_icmp_lt (tgt := 66) hx hb dX8_isInstruction_51 (by decide) (fun c_6 => ?_) (fun c_6 => ?_)
      · replace hf := x_ip c_6 hf
        refine lv_iconst (v := 0) hx hb dX8_isInstruction_66 (by decide) ?_
        obtain rfl := Option.some.inj hf
        exact W.zret (ty := .boolean) hx hb hr rfl (fun t ht hW => ⟨⟨_, (), rfl, ⟨rfl, rfl⟩, trivial⟩, hS.F ht⟩) hS.2.2 dX8_isInstruction_67
      · replace hf := x_in c_6 hf
        refine lv_iload_n hx hb dX8_isInstruction_54 rfl (lv_at hl 3 rfl) ?_
        refine lv_iload_n hx hb dX8_isInstruction_55 rfl (lv_at hl 2 rfl) ?_
        obtain ⟨r_7, h_7, hf⟩ := x_bi hf
        have hPc := hP.sub (ws' := []) [] rfl
        refine va_calli (va_runS (As := [.int p2]) (rest := [.int p3]) ⟨hx, hb, hml, hown, hts⟩ (c_X7_dimensionsOf l dC dI cyI cyZ cyJ H.size p2 r_7 h_7) (va_cwS 1 hts gX8_isInstruction_X7_dimensionsOf rfl rfl rfl (by decide +kernel) ⟨Nat.le_of_ble_eq_true rfl, Nat.le_of_ble_eq_true rfl⟩) (x_pS hN hK hPc) rfl rfl hl.1 rfl (lv_room (Nat.le_of_ble_eq_true rfl)) dX8_isInstruction_56 ⟨Nat.le_of_ble_eq_true rfl, Nat.le_of_ble_eq_true rfl⟩) hS x_nA (x_nf hA hS) (fun q_7 u t H1 locs ht hvm hw hB hz1 hk1 hS => ?_)
        have hP := x_kp hP hk1
        clear ht hvm hB hz1 hk1 t u hPc
        generalize H1 = H at hP hS ⊢
        obtain rfl := hw.symm
        refine lv_icmp_gt (tgt := 66) hx hb dX8_isInstruction_59 (by decide) (fun c_8 => ?_) (fun c_8 => ?_)
        · replace hf := x_ip c_8 hf
          refine lv_iconst (v := 0) hx hb dX8_isInstruction_66 (by decide) ?_
          obtain rfl := Option.some.inj hf
          exact W.zret (ty := .boolean) hx hb hr rfl (fun t ht hW => ⟨⟨_, (), rfl, ⟨rfl, rfl⟩, trivial⟩, hS.F ht⟩) hS.2.2 dX8_isInstruction_67
        · replace hf := x_in c_8 hf
          refine lv_iconst (v := 1) hx hb dX8_isInstruction_62 (by decide) ?_
          refine lv_goto (tgt := 67) hx hb dX8_isInstruction_63 (by decide) ?_
          obtain rfl := Option.some.inj hf
          exact W.zret (ty := .boolean) hx hb hr rfl (fun t ht hW => ⟨⟨_, (), rfl, ⟨rfl, rfl⟩, trivial⟩, hS.F ht⟩) hS.2.2 dX8_isInstruction_67
  replace hf := x_in c_3 hf
  refine lv_lookup (off := 67) (tgt := 68) hx hb dX8_isInstruction_1 (by decide) ((lv_osw (k := 132) c_1 (by decide)).trans ((lv_osw (k := 197) c_3 (by decide)).trans rfl)) (by decide) ?_
  refine lv_iload_n hx hb dX8_isInstruction_68 rfl (lv_at hl 3 rfl) ?_
  refine lv_if_ne (tgt := 85) hx hb dX8_isInstruction_69 (by decide) (fun c_9 => ?_) (fun c_9 => ?_)
  · replace hf := x_in c_9 hf
    refine lv_iconst (v := 0) hx hb dX8_isInstruction_85 (by decide) ?_
    obtain rfl := Option.some.inj hf
    exact W.zret (ty := .boolean) hx hb hr rfl (fun t ht hW => ⟨⟨_, (), rfl, ⟨rfl, rfl⟩, trivial⟩, hS.F ht⟩) hS.2.2 dX8_isInstruction_86
  · replace hf := x_ip c_9 hf
    refine lv_aload_n hx hb dX8_isInstruction_72 rfl (lv_at hl 0 rfl) ?_
    refine lv_iload_n hx hb dX8_isInstruction_73 rfl (lv_at hl 1 rfl) ?_
    refine lv_iload_n hx hb dX8_isInstruction_74 rfl (lv_at hl 2 rfl) ?_
    obtain ⟨r_10, h_10, hf⟩ := x_bi hf
    have hPc := hP.sub (ws' := [(o8, .inr (8, [.ref o7, .ref o4, .ref o0, .ref o1, .ref o3, .ref o2])), (o7, .inr (7, [.ref a7_0, .ref a7_1, .int v7_2])), (o4, .inr (4, [.ref a4_0, .ref a4_1, .int v4_2, .ref a4_3, .ref a4_4, .ref a4_5, .ref a4_6, .ref a4_7, .int v4_8]))]) [0, 1, 2] rfl
    refine va_calli (va_runV (As := [.int p1, .int p2]) (rest := []) ⟨hx, hb, hml, hown, hts⟩ (c_X8_isOperand l dC dI cyI cyZ cyJ H.size o8 o7 o4 o0 o1 o3 o2 a7_0 a7_1 v7_2 a4_0 a4_1 v4_2 a4_3 a4_4 a4_5 a4_6 a4_7 v4_8 p1 p2 r_10 h_10) (cwV 2 hts gX8_isInstruction_X8_isOperand rfl rfl rfl (by decide +kernel) ⟨Nat.le_of_ble_eq_true rfl, Nat.le_of_ble_eq_true rfl⟩) (x_pV hN hK hPc (ci := 8) (q0 := 0) rfl rfl) rfl rfl hl.1 rfl (lv_room (Nat.le_of_ble_eq_true rfl)) dX8_isInstruction_75 ⟨Nat.le_of_ble_eq_true rfl, Nat.le_of_ble_eq_true rfl⟩) hS x_nA (x_nf hA hS) (fun q_10 u t H1 locs ht hvm hw hB hz1 hk1 hS => ?_)
    have hP := x_kp hP hk1
    clear ht hvm hB hz1 hk1 t u hPc
    generalize H1 = H at hP hS ⊢
    obtain ⟨hw, b_10⟩ := hw
    obtain rfl := hw.symm
    refine lv_if_eq (tgt := 85) hx hb dX8_isInstruction_78 (by decide) (fun c_11 => ?_) (fun c_11 => ?_)
    · replace hf := x_ip c_11 hf
      refine lv_iconst (v := 0) hx hb dX8_isInstruction_85 (by decide) ?_
      obtain rfl := Option.some.inj hf
      exact W.zret (ty := .boolean) hx hb hr rfl (fun t ht hW => ⟨⟨_, (), rfl, ⟨rfl, rfl⟩, trivial⟩, hS.F ht⟩) hS.2.2 dX8_isInstruction_86
    · replace hf := x_in c_11 hf
      refine lv_iconst (v := 1) hx hb dX8_isInstruction_81 (by decide) ?_
      refine lv_goto (tgt := 86) hx hb dX8_isInstruction_82 (by decide) ?_
      obtain rfl := Option.some.inj hf
      exact W.zret (ty := .boolean) hx hb hr rfl (fun t ht hW => ⟨⟨_, (), rfl, ⟨rfl, rfl⟩, trivial⟩, hS.F ht⟩) hS.2.2 dX8_isInstruction_86

