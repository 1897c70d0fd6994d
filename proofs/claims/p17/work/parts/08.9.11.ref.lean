def f_X9_moves_L (v9_17 : Int32) (v9_35 : Int32) (z : Nat × Int32 × Int32 × Int32 × Int32 × Int32 × Int32 × Int32 × (Nat → Int32) × (Nat → Int32)) : Option (Int32 × Int32 × (Nat → Int32) × (Nat → Int32)) := match z with
  | (q, l1, l2, l3, l4, l5, l6, l7, g9_34, g9_61) => if q = 0 then if l1 = (87 : Int32) then (f_X9_single v9_35 g9_34 1) >>= (fun r_4 => if r_4 = (0 : Int32) then some (0, v9_35, g9_34, g9_61) else (f_X9_moves_L v9_17 v9_35 (1, l1, 0, 0, 0, 0, 0, 0, g9_34, g9_61))) else (f_X9_pair v9_35 g9_34 2) >>= (fun r_2 => if r_2 = (0 : Int32) then some (0, v9_35, g9_34, g9_61) else (f_X9_moves_L v9_17 v9_35 (1, l1, 0, 0, 0, 0, 0, 0, g9_34, g9_61))) else if q = 1 then some (1, v9_35 - (l1 - (86 : Int32)), g9_34, g9_61) else if q = 2 then if l5 = (1 : Int32) then (f_X9_single v9_35 g9_34 (l4 + (1 : Int32))) >>= (fun r_7 => if r_7 = (0 : Int32) then some (0, v9_35, g9_34, g9_61) else (f_X9_moves_L v9_17 v9_35 (3, 0, l2, l3, l4, l5, 0, 0, g9_34, g9_61))) else (f_X9_moves_L v9_17 v9_35 (3, 0, l2, l3, l4, l5, 0, 0, g9_34, g9_61)) else if q = 3 then if l5 = (2 : Int32) then (f_X9_pair v9_35 g9_34 (l4 + (2 : Int32))) >>= (fun r_10 => if r_10 = (0 : Int32) then some (0, v9_35, g9_34, g9_61) else (f_X9_moves_L v9_17 v9_35 (4, 0, l2, l3, l4, l5, 0, 0, g9_34, g9_61))) else (f_X9_moves_L v9_17 v9_35 (4, 0, l2, l3, l4, l5, 0, 0, g9_34, g9_61)) else if q = 4 then if (v9_35 + l4) ≤ v9_17 then (f_X9_moves_L v9_17 v9_35 (5, 0, l2, l3, l4, l5, (v9_35 - l4) - l5, 0, g9_34, g9_61)) else some (0, v9_35, g9_34, g9_61) else if q = 5 then if l5 ≤ l7 then if l4 = (1 : Int32) then if x_gd l6 202 = true then (f_X9_moves_L v9_17 v9_35 (6, 0, l2, l3, l4, l5, l6, 0, upd g9_34 (Int32.toNatClampNeg l6) l2, g9_61)) else none else if x_gd l6 202 = true then if x_gd (l6 + (1 : Int32)) 202 = true then (f_X9_moves_L v9_17 v9_35 (6, 0, l2, l3, l4, l5, l6, 0, upd (upd g9_34 (Int32.toNatClampNeg l6) l3) (Int32.toNatClampNeg (l6 + (1 : Int32))) l2, g9_61)) else none else none else if x_gd (l6 + l7) 202 = true then if x_gd l7 2 = true then (f_X9_moves_L v9_17 v9_35 (5, 0, l2, l3, l4, l5, l6, l7 + 1, g9_34, upd g9_61 (Int32.toNatClampNeg l7) (g9_34 (Int32.toNatClampNeg (l6 + l7))))) else none else none else if q = 6 then (f_X9_moves_L v9_17 v9_35 (7, 0, l2, l3, l4, l5, l6, 0, g9_34, g9_61)) else if q = 7 then if l5 ≤ l7 then if l4 = (1 : Int32) then if x_gd ((l6 + l5) + (1 : Int32)) 202 = true then (f_X9_moves_L v9_17 v9_35 (8, 0, 0, 0, l4, 0, 0, 0, upd g9_34 (Int32.toNatClampNeg ((l6 + l5) + (1 : Int32))) l2, g9_61)) else none else if x_gd ((l6 + l5) + (2 : Int32)) 202 = true then if x_gd ((l6 + l5) + (3 : Int32)) 202 = true then (f_X9_moves_L v9_17 v9_35 (8, 0, 0, 0, l4, 0, 0, 0, upd (upd g9_34 (Int32.toNatClampNeg ((l6 + l5) + (2 : Int32))) l3) (Int32.toNatClampNeg ((l6 + l5) + (3 : Int32))) l2, g9_61)) else none else none else if x_gd l7 2 = true then if x_gd ((l6 + l4) + l7) 202 = true then (f_X9_moves_L v9_17 v9_35 (7, 0, l2, l3, l4, l5, l6, l7 + 1, upd g9_34 (Int32.toNatClampNeg ((l6 + l4) + l7)) (g9_61 (Int32.toNatClampNeg l7)), g9_61)) else none else none else if q = 8 then some (1, v9_35 + l4, g9_34, g9_61) else none
partial_fixpoint
def f_X9_moves (v9_17 : Int32) (v9_35 : Int32) (g9_34 : Nat → Int32) (g9_61 : Nat → Int32) (p1 : Int32) : Option (Int32 × Int32 × (Nat → Int32) × (Nat → Int32)) := if v9_35 ≤ (0 : Int32) then if v9_35 ≤ (1 : Int32) then if p1 = (87 : Int32) then (f_X9_moves_L v9_17 v9_35 (0, p1, 0, 0, 0, 0, 0, 0, g9_34, g9_61)) else if p1 = (88 : Int32) then (f_X9_moves_L v9_17 v9_35 (0, p1, 0, 0, 0, 0, 0, 0, g9_34, g9_61)) else if p1 = (95 : Int32) then (f_X9_single v9_35 g9_34 1) >>= (fun r_47 => if r_47 = (0 : Int32) then some (0, v9_35, g9_34, g9_61) else (f_X9_single v9_35 g9_34 2) >>= (fun r_49 => if r_49 = (0 : Int32) then some (0, v9_35, g9_34, g9_61) else if x_gd (v9_35 - (2 : Int32)) 202 = true then if x_gd (v9_35 - (1 : Int32)) 202 = true then some (1, v9_35, upd (upd g9_34 (Int32.toNatClampNeg (v9_35 - (2 : Int32))) 0) (Int32.toNatClampNeg (v9_35 - (1 : Int32))) 0, g9_61) else none else none)) else if (91 : Int32) < p1 then if (91 : Int32) < p1 then (f_X9_pair v9_35 g9_34 2) >>= (fun r_35 => if r_35 = (0 : Int32) then some (0, v9_35, g9_34, g9_61) else (f_X9_moves_L v9_17 v9_35 (2, 0, 0, 0, 2, p1 - (92 : Int32), 0, 0, g9_34, g9_61))) else (f_X9_pair v9_35 g9_34 2) >>= (fun r_38 => if r_38 = (0 : Int32) then some (0, v9_35, g9_34, g9_61) else (f_X9_moves_L v9_17 v9_35 (2, 0, 0, 0, 2, p1 - (89 : Int32), 0, 0, g9_34, g9_61))) else if (91 : Int32) < p1 then (f_X9_single v9_35 g9_34 1) >>= (fun r_42 => if r_42 = (0 : Int32) then some (0, v9_35, g9_34, g9_61) else (f_X9_moves_L v9_17 v9_35 (2, 0, 0, 0, 1, p1 - (92 : Int32), 0, 0, g9_34, g9_61))) else (f_X9_single v9_35 g9_34 1) >>= (fun r_45 => if r_45 = (0 : Int32) then some (0, v9_35, g9_34, g9_61) else (f_X9_moves_L v9_17 v9_35 (2, 0, 0, 0, 1, p1 - (89 : Int32), 0, 0, g9_34, g9_61))) else if x_gd (v9_35 - (2 : Int32)) 202 = true then if p1 = (87 : Int32) then (f_X9_moves_L v9_17 v9_35 (0, p1, 0, 0, 0, 0, 0, 0, g9_34, g9_61)) else if p1 = (88 : Int32) then (f_X9_moves_L v9_17 v9_35 (0, p1, 0, 0, 0, 0, 0, 0, g9_34, g9_61)) else if p1 = (95 : Int32) then (f_X9_single v9_35 g9_34 1) >>= (fun r_72 => if r_72 = (0 : Int32) then some (0, v9_35, g9_34, g9_61) else (f_X9_single v9_35 g9_34 2) >>= (fun r_74 => if r_74 = (0 : Int32) then some (0, v9_35, g9_34, g9_61) else if x_gd (v9_35 - (2 : Int32)) 202 = true then if x_gd (v9_35 - (1 : Int32)) 202 = true then some (1, v9_35, upd (upd g9_34 (Int32.toNatClampNeg (v9_35 - (2 : Int32))) 0) (Int32.toNatClampNeg (v9_35 - (1 : Int32))) (g9_34 (Int32.toNatClampNeg (v9_35 - (2 : Int32)))), g9_61) else none else none)) else if (91 : Int32) < p1 then if (91 : Int32) < p1 then (f_X9_pair v9_35 g9_34 2) >>= (fun r_60 => if r_60 = (0 : Int32) then some (0, v9_35, g9_34, g9_61) else (f_X9_moves_L v9_17 v9_35 (2, 0, 0, g9_34 (Int32.toNatClampNeg (v9_35 - (2 : Int32))), 2, p1 - (92 : Int32), 0, 0, g9_34, g9_61))) else (f_X9_pair v9_35 g9_34 2) >>= (fun r_63 => if r_63 = (0 : Int32) then some (0, v9_35, g9_34, g9_61) else (f_X9_moves_L v9_17 v9_35 (2, 0, 0, g9_34 (Int32.toNatClampNeg (v9_35 - (2 : Int32))), 2, p1 - (89 : Int32), 0, 0, g9_34, g9_61))) else if (91 : Int32) < p1 then (f_X9_single v9_35 g9_34 1) >>= (fun r_67 => if r_67 = (0 : Int32) then some (0, v9_35, g9_34, g9_61) else (f_X9_moves_L v9_17 v9_35 (2, 0, 0, g9_34 (Int32.toNatClampNeg (v9_35 - (2 : Int32))), 1, p1 - (92 : Int32), 0, 0, g9_34, g9_61))) else (f_X9_single v9_35 g9_34 1) >>= (fun r_70 => if r_70 = (0 : Int32) then some (0, v9_35, g9_34, g9_61) else (f_X9_moves_L v9_17 v9_35 (2, 0, 0, g9_34 (Int32.toNatClampNeg (v9_35 - (2 : Int32))), 1, p1 - (89 : Int32), 0, 0, g9_34, g9_61))) else none else if x_gd (v9_35 - (1 : Int32)) 202 = true then if v9_35 ≤ (1 : Int32) then if p1 = (87 : Int32) then (f_X9_moves_L v9_17 v9_35 (0, p1, 0, 0, 0, 0, 0, 0, g9_34, g9_61)) else if p1 = (88 : Int32) then (f_X9_moves_L v9_17 v9_35 (0, p1, 0, 0, 0, 0, 0, 0, g9_34, g9_61)) else if p1 = (95 : Int32) then (f_X9_single v9_35 g9_34 1) >>= (fun r_98 => if r_98 = (0 : Int32) then some (0, v9_35, g9_34, g9_61) else (f_X9_single v9_35 g9_34 2) >>= (fun r_100 => if r_100 = (0 : Int32) then some (0, v9_35, g9_34, g9_61) else if x_gd (v9_35 - (2 : Int32)) 202 = true then if x_gd (v9_35 - (1 : Int32)) 202 = true then some (1, v9_35, upd (upd g9_34 (Int32.toNatClampNeg (v9_35 - (2 : Int32))) (g9_34 (Int32.toNatClampNeg (v9_35 - (1 : Int32))))) (Int32.toNatClampNeg (v9_35 - (1 : Int32))) 0, g9_61) else none else none)) else if (91 : Int32) < p1 then if (91 : Int32) < p1 then (f_X9_pair v9_35 g9_34 2) >>= (fun r_86 => if r_86 = (0 : Int32) then some (0, v9_35, g9_34, g9_61) else (f_X9_moves_L v9_17 v9_35 (2, 0, g9_34 (Int32.toNatClampNeg (v9_35 - (1 : Int32))), 0, 2, p1 - (92 : Int32), 0, 0, g9_34, g9_61))) else (f_X9_pair v9_35 g9_34 2) >>= (fun r_89 => if r_89 = (0 : Int32) then some (0, v9_35, g9_34, g9_61) else (f_X9_moves_L v9_17 v9_35 (2, 0, g9_34 (Int32.toNatClampNeg (v9_35 - (1 : Int32))), 0, 2, p1 - (89 : Int32), 0, 0, g9_34, g9_61))) else if (91 : Int32) < p1 then (f_X9_single v9_35 g9_34 1) >>= (fun r_93 => if r_93 = (0 : Int32) then some (0, v9_35, g9_34, g9_61) else (f_X9_moves_L v9_17 v9_35 (2, 0, g9_34 (Int32.toNatClampNeg (v9_35 - (1 : Int32))), 0, 1, p1 - (92 : Int32), 0, 0, g9_34, g9_61))) else (f_X9_single v9_35 g9_34 1) >>= (fun r_96 => if r_96 = (0 : Int32) then some (0, v9_35, g9_34, g9_61) else (f_X9_moves_L v9_17 v9_35 (2, 0, g9_34 (Int32.toNatClampNeg (v9_35 - (1 : Int32))), 0, 1, p1 - (89 : Int32), 0, 0, g9_34, g9_61))) else if x_gd (v9_35 - (2 : Int32)) 202 = true then if p1 = (87 : Int32) then (f_X9_moves_L v9_17 v9_35 (0, p1, 0, 0, 0, 0, 0, 0, g9_34, g9_61)) else if p1 = (88 : Int32) then (f_X9_moves_L v9_17 v9_35 (0, p1, 0, 0, 0, 0, 0, 0, g9_34, g9_61)) else if p1 = (95 : Int32) then (f_X9_single v9_35 g9_34 1) >>= (fun r_123 => if r_123 = (0 : Int32) then some (0, v9_35, g9_34, g9_61) else (f_X9_single v9_35 g9_34 2) >>= (fun r_125 => if r_125 = (0 : Int32) then some (0, v9_35, g9_34, g9_61) else if x_gd (v9_35 - (2 : Int32)) 202 = true then if x_gd (v9_35 - (1 : Int32)) 202 = true then some (1, v9_35, upd (upd g9_34 (Int32.toNatClampNeg (v9_35 - (2 : Int32))) (g9_34 (Int32.toNatClampNeg (v9_35 - (1 : Int32))))) (Int32.toNatClampNeg (v9_35 - (1 : Int32))) (g9_34 (Int32.toNatClampNeg (v9_35 - (2 : Int32)))), g9_61) else none else none)) else if (91 : Int32) < p1 then if (91 : Int32) < p1 then (f_X9_pair v9_35 g9_34 2) >>= (fun r_111 => if r_111 = (0 : Int32) then some (0, v9_35, g9_34, g9_61) else (f_X9_moves_L v9_17 v9_35 (2, 0, g9_34 (Int32.toNatClampNeg (v9_35 - (1 : Int32))), g9_34 (Int32.toNatClampNeg (v9_35 - (2 : Int32))), 2, p1 - (92 : Int32), 0, 0, g9_34, g9_61))) else (f_X9_pair v9_35 g9_34 2) >>= (fun r_114 => if r_114 = (0 : Int32) then some (0, v9_35, g9_34, g9_61) else (f_X9_moves_L v9_17 v9_35 (2, 0, g9_34 (Int32.toNatClampNeg (v9_35 - (1 : Int32))), g9_34 (Int32.toNatClampNeg (v9_35 - (2 : Int32))), 2, p1 - (89 : Int32), 0, 0, g9_34, g9_61))) else if (91 : Int32) < p1 then (f_X9_single v9_35 g9_34 1) >>= (fun r_118 => if r_118 = (0 : Int32) then some (0, v9_35, g9_34, g9_61) else (f_X9_moves_L v9_17 v9_35 (2, 0, g9_34 (Int32.toNatClampNeg (v9_35 - (1 : Int32))), g9_34 (Int32.toNatClampNeg (v9_35 - (2 : Int32))), 1, p1 - (92 : Int32), 0, 0, g9_34, g9_61))) else (f_X9_single v9_35 g9_34 1) >>= (fun r_121 => if r_121 = (0 : Int32) then some (0, v9_35, g9_34, g9_61) else (f_X9_moves_L v9_17 v9_35 (2, 0, g9_34 (Int32.toNatClampNeg (v9_35 - (1 : Int32))), g9_34 (Int32.toNatClampNeg (v9_35 - (2 : Int32))), 1, p1 - (89 : Int32), 0, 0, g9_34, g9_61))) else none else none
theorem i_X9_moves_X9 : ∀ w ∈ wsX90, w ∈ wsX9_moves := fun _ h => List.mem_cons_of_mem _ (List.mem_append_right _ h)
set_option maxHeartbeats 4000000 in
set_option maxRecDepth 100000 in
theorem c_X9_moves (l : Launch) (dC : Nat → ClassId) (dI : Nat → Nat → Nat) (cyI cyZ cyJ : ClassId) (sz : Nat) (o9 : Nat) (v9_0 : Int32) (v9_1 : Int32) (v9_2 : Int32) (v9_3 : Int32) (a9_4 : Nat) (a9_5 : Nat) (a9_6 : Nat) (a9_7 : Nat) (a9_8 : Nat) (a9_9 : Nat) (a9_10 : Nat) (a9_11 : Nat) (a9_12 : Nat) (v9_13 : Int32) (v9_14 : Int32) (v9_15 : Int32) (v9_16 : Int32) (v9_17 : Int32) (v9_18 : Int32) (a9_19 : Nat) (v9_20 : Int32) (v9_21 : Int32) (v9_22 : Int32) (a9_23 : Nat) (a9_24 : Nat) (a9_25 : Nat) (a9_26 : Nat) (a9_27 : Nat) (a9_28 : Nat) (a9_29 : Nat) (a9_30 : Nat) (a9_31 : Nat) (a9_32 : Nat) (a9_33 : Nat) (a9_34 : Nat) (v9_35 : Int32) (v9_36 : Int32) (a9_37 : Nat) (a9_38 : Nat) (a9_39 : Nat) (a9_40 : Nat) (a9_41 : Nat) (v9_42 : Int32) (a9_43 : Nat) (a9_44 : Nat) (a9_45 : Nat) (a9_46 : Nat) (a9_47 : Nat) (v9_48 : Int32) (v9_49 : Int32) (v9_50 : Int32) (v9_51 : Int32) (a9_52 : Nat) (a9_53 : Nat) (v9_54 : Int32) (v9_55 : Int32) (a9_56 : Nat) (a9_57 : Nat) (v9_58 : Int32) (a9_59 : Nat) (a9_60 : Nat) (a9_61 : Nat) (g9_34 : Nat → Int32) (g9_61 : Nat → Int32) (p1 : Int32) (R : Int32 × Int32 × (Nat → Int32) × (Nat → Int32)) (hf : f_X9_moves v9_17 v9_35 g9_34 g9_61 p1 = some R) : Met l yX9_moves wsX9_moves ({ frames := 2, cells := 0, slots := 0, locals := 42 }) (va_Pc [.ref o9, .int p1] (x_PreD (dC, dI) (x_T cyI cyZ cyJ) [(o9, .inr (9, x_O9 v9_0 v9_1 v9_2 v9_3 a9_4 a9_5 a9_6 a9_7 a9_8 a9_9 a9_10 a9_11 a9_12 v9_13 v9_14 v9_15 v9_16 v9_17 v9_18 a9_19 v9_20 v9_21 v9_22 a9_23 a9_24 a9_25 a9_26 a9_27 a9_28 a9_29 a9_30 a9_31 a9_32 a9_33 a9_34 v9_35 v9_36 a9_37 a9_38 a9_39 a9_40 a9_41 v9_42 a9_43 a9_44 a9_45 a9_46 a9_47 v9_48 v9_49 v9_50 v9_51 a9_52 a9_53 v9_54 v9_55 a9_56 a9_57 v9_58 a9_59 a9_60 a9_61)), (a9_34, .inl (cyI, 202, .inl g9_34)), (a9_61, .inl (cyI, 2, .inl g9_61))] sz)) (va_Qi (fun (r : Int32) (_ : Unit) => r = R.1 ∧ x_nb r) (fun (_ : Unit) (t : State) => va_P (dC, dI) vwCl [(o9, .inr (9, x_O9 v9_0 v9_1 v9_2 v9_3 a9_4 a9_5 a9_6 a9_7 a9_8 a9_9 a9_10 a9_11 a9_12 v9_13 v9_14 v9_15 v9_16 v9_17 v9_18 a9_19 v9_20 v9_21 v9_22 a9_23 a9_24 a9_25 a9_26 a9_27 a9_28 a9_29 a9_30 a9_31 a9_32 a9_33 a9_34 (R.2.1) v9_36 a9_37 a9_38 a9_39 a9_40 a9_41 v9_42 a9_43 a9_44 a9_45 a9_46 a9_47 v9_48 v9_49 v9_50 v9_51 a9_52 a9_53 v9_54 v9_55 a9_56 a9_57 v9_58 a9_59 a9_60 a9_61)), (a9_34, .inl (cyI, 202, .inl R.2.2.1)), (a9_61, .inl (cyI, 2, .inl R.2.2.2))] t.heap ∧ va_K (dC, dI) vwCl (x_T cyI cyZ cyJ) t ∧ va_D (va_A [(o9, .inr (9, x_O9 v9_0 v9_1 v9_2 v9_3 a9_4 a9_5 a9_6 a9_7 a9_8 a9_9 a9_10 a9_11 a9_12 v9_13 v9_14 v9_15 v9_16 v9_17 v9_18 a9_19 v9_20 v9_21 v9_22 a9_23 a9_24 a9_25 a9_26 a9_27 a9_28 a9_29 a9_30 a9_31 a9_32 a9_33 a9_34 v9_35 v9_36 a9_37 a9_38 a9_39 a9_40 a9_41 v9_42 a9_43 a9_44 a9_45 a9_46 a9_47 v9_48 v9_49 v9_50 v9_51 a9_52 a9_53 v9_54 v9_55 a9_56 a9_57 v9_58 a9_59 a9_60 a9_61)), (a9_34, .inl (cyI, 202, .inl g9_34)), (a9_61, .inl (cyI, 2, .inl g9_61))] sz) [(o9, .inr (9, x_O9 v9_0 v9_1 v9_2 v9_3 a9_4 a9_5 a9_6 a9_7 a9_8 a9_9 a9_10 a9_11 a9_12 v9_13 v9_14 v9_15 v9_16 v9_17 v9_18 a9_19 v9_20 v9_21 v9_22 a9_23 a9_24 a9_25 a9_26 a9_27 a9_28 a9_29 a9_30 a9_31 a9_32 a9_33 a9_34 (R.2.1) v9_36 a9_37 a9_38 a9_39 a9_40 a9_41 v9_42 a9_43 a9_44 a9_45 a9_46 a9_47 v9_48 v9_49 v9_50 v9_51 a9_52 a9_53 v9_54 v9_55 a9_56 a9_57 v9_58 a9_59 a9_60 a9_61)), (a9_34, .inl (cyI, 202, .inl R.2.2.1)), (a9_61, .inl (cyI, 2, .inl R.2.2.2))]) (va_A [(o9, .inr (9, x_O9 v9_0 v9_1 v9_2 v9_3 a9_4 a9_5 a9_6 a9_7 a9_8 a9_9 a9_10 a9_11 a9_12 v9_13 v9_14 v9_15 v9_16 v9_17 v9_18 a9_19 v9_20 v9_21 v9_22 a9_23 a9_24 a9_25 a9_26 a9_27 a9_28 a9_29 a9_30 a9_31 a9_32 a9_33 a9_34 v9_35 v9_36 a9_37 a9_38 a9_39 a9_40 a9_41 v9_42 a9_43 a9_44 a9_45 a9_46 a9_47 v9_48 v9_49 v9_50 v9_51 a9_52 a9_53 v9_54 v9_55 a9_56 a9_57 v9_58 a9_59 a9_60 a9_61)), (a9_34, .inl (cyI, 202, .inl g9_34)), (a9_61, .inl (cyI, 2, .inl g9_61))] sz)) 0 0 (va_A [(o9, .inr (9, x_O9 v9_0 v9_1 v9_2 v9_3 a9_4 a9_5 a9_6 a9_7 a9_8 a9_9 a9_10 a9_11 a9_12 v9_13 v9_14 v9_15 v9_16 v9_17 v9_18 a9_19 v9_20 v9_21 v9_22 a9_23 a9_24 a9_25 a9_26 a9_27 a9_28 a9_29 a9_30 a9_31 a9_32 a9_33 a9_34 v9_35 v9_36 a9_37 a9_38 a9_39 a9_40 a9_41 v9_42 a9_43 a9_44 a9_45 a9_46 a9_47 v9_48 v9_49 v9_50 v9_51 a9_52 a9_53 v9_54 v9_55 a9_56 a9_57 v9_58 a9_59 a9_60 a9_61)), (a9_34, .inl (cyI, 202, .inl g9_34)), (a9_61, .inl (cyI, 2, .inl g9_61))] sz) := by
  refine Met.ofW (cc := cX9_moves) (maxL := 8) (ret := (some .boolean)) (by decide) rfl ?_
  intro p e s m args below meth c s₁ B hml hv
  obtain ⟨rfl, ⟨hsz, hP, hK, hN⟩, hD0⟩ := hv
  have hx := B.exec
  have hb := B.bytes
  have hr := B.returns
  have hts := atoms_spec (ws := wsX9_moves) B.pre
  have hown : s.vm.findClass RX9 = some m.cls := findClass_of_methodNamed B.named
  have k_1 := hts (.fieldLink RX9 215 "FlowJudgeModel" "h" "I") (by decide +kernel)
  have k_2 := hts (.fieldLink RX9 173 "FlowJudgeModel" "maxS" "I") (by decide +kernel)
  have k_3 := hts (.fieldLink RX9 85 "FlowJudgeModel" "st" "[I") (by decide +kernel)
  have k_4 := hts (.fieldLink RX9 137 "FlowJudgeModel" "order2" "[I") (by decide +kernel)
  subst hsz
  have hD := hD0.self (sz := s.heap.size)
  generalize hAe : va_A [(o9, .inr (9, x_O9 v9_0 v9_1 v9_2 v9_3 a9_4 a9_5 a9_6 a9_7 a9_8 a9_9 a9_10 a9_11 a9_12 v9_13 v9_14 v9_15 v9_16 v9_17 v9_18 a9_19 v9_20 v9_21 v9_22 a9_23 a9_24 a9_25 a9_26 a9_27 a9_28 a9_29 a9_30 a9_31 a9_32 a9_33 a9_34 v9_35 v9_36 a9_37 a9_38 a9_39 a9_40 a9_41 v9_42 a9_43 a9_44 a9_45 a9_46 a9_47 v9_48 v9_49 v9_50 v9_51 a9_52 a9_53 v9_54 v9_55 a9_56 a9_57 v9_58 a9_59 a9_60 a9_61)), (a9_34, .inl (cyI, 202, .inl g9_34)), (a9_61, .inl (cyI, 2, .inl g9_61))] s.heap.size = A at hD ⊢
  have hA : ∀ q : Nat, s.heap.size ≤ q → A q := fun q h => by rw [← hAe]; exact Or.inr h
  have hP : va_P (dC, dI) vwCl [(o9, .inr (9, x_O9 v9_0 v9_1 v9_2 v9_3 a9_4 a9_5 a9_6 a9_7 a9_8 a9_9 a9_10 a9_11 a9_12 v9_13 v9_14 v9_15 v9_16 v9_17 v9_18 a9_19 v9_20 v9_21 v9_22 a9_23 a9_24 a9_25 a9_26 a9_27 a9_28 a9_29 a9_30 a9_31 a9_32 a9_33 a9_34 v9_35 v9_36 a9_37 a9_38 a9_39 a9_40 a9_41 v9_42 a9_43 a9_44 a9_45 a9_46 a9_47 v9_48 v9_49 v9_50 v9_51 a9_52 a9_53 v9_54 v9_55 a9_56 a9_57 v9_58 a9_59 a9_60 a9_61)), (a9_34, .inl (cyI, 202, .inl g9_34)), (a9_61, .inl (cyI, 2, .inl g9_61))] s.heap := hP
  have hl := lv_entry ([.ref o9, .int p1]) (n := 8) (Nat.le_of_ble_eq_true rfl)
  rw [lg_entry_eq]
  generalize (lg_sl ([.ref o9, .int p1]) ++ List.replicate (8 - (lg_sl ([.ref o9, .int p1])).length) Slot.unset).toArray = ls at hl ⊢
  have hl : lv_has ls 8 [(0, .ref o9), (1, .int p1)] := hl
  obtain ⟨H, hH⟩ : ∃ z, z = s.heap := ⟨_, rfl⟩
  refine x_here hH ?_
  have hP : va_P (dC, dI) vwCl [(o9, .inr (9, x_O9 v9_0 v9_1 v9_2 v9_3 a9_4 a9_5 a9_6 a9_7 a9_8 a9_9 a9_10 a9_11 a9_12 v9_13 v9_14 v9_15 v9_16 v9_17 v9_18 a9_19 v9_20 v9_21 v9_22 a9_23 a9_24 a9_25 a9_26 a9_27 a9_28 a9_29 a9_30 a9_31 a9_32 a9_33 a9_34 v9_35 v9_36 a9_37 a9_38 a9_39 a9_40 a9_41 v9_42 a9_43 a9_44 a9_45 a9_46 a9_47 v9_48 v9_49 v9_50 v9_51 a9_52 a9_53 v9_54 v9_55 a9_56 a9_57 v9_58 a9_59 a9_60 a9_61)), (a9_34, .inl (cyI, 202, .inl g9_34)), (a9_61, .inl (cyI, 2, .inl g9_61))] H := by rw [hH]; exact hP
  have hS : va_S A s.heap H [] := by rw [hH]; exact va_S.rf
  clear hH
  obtain ⟨locs, hlo⟩ : ∃ z : List Loc, z = [] := ⟨_, rfl⟩
  refine x_herl hlo ?_
  have hS : va_S A s.heap H locs := by rw [hlo]; exact hS
  clear hlo
  unfold f_X9_moves at hf
  refine x_wn (fun WW hWW => ?_)
  have J := fun (v9_35 : Int32) => f_X9_moves_L.partial_correctness v9_17 v9_35 (fun (z : Nat × Int32 × Int32 × Int32 × Int32 × Int32 × Int32 × Int32 × (Nat → Int32) × (Nat → Int32)) (r : Int32 × Int32 × (Nat → Int32) × (Nat → Int32)) => r = R → ∀ (q : Nat) (l1 : Int32) (l2 : Int32) (l3 : Int32) (l4 : Int32) (l5 : Int32) (l6 : Int32) (l7 : Int32) (g9_34 : Nat → Int32) (g9_61 : Nat → Int32), z = (q, l1, l2, l3, l4, l5, l6, l7, g9_34, g9_61) → ((q = 0 → ∀ (H : Heap) (locs : List Loc) (ls : Array Slot), va_P (dC, dI) vwCl [(o9, .inr (9, x_O9 v9_0 v9_1 v9_2 v9_3 a9_4 a9_5 a9_6 a9_7 a9_8 a9_9 a9_10 a9_11 a9_12 v9_13 v9_14 v9_15 v9_16 v9_17 v9_18 a9_19 v9_20 v9_21 v9_22 a9_23 a9_24 a9_25 a9_26 a9_27 a9_28 a9_29 a9_30 a9_31 a9_32 a9_33 a9_34 v9_35 v9_36 a9_37 a9_38 a9_39 a9_40 a9_41 v9_42 a9_43 a9_44 a9_45 a9_46 a9_47 v9_48 v9_49 v9_50 v9_51 a9_52 a9_53 v9_54 v9_55 a9_56 a9_57 v9_58 a9_59 a9_60 a9_61)), (a9_34, .inl (cyI, 202, .inl g9_34)), (a9_61, .inl (cyI, 2, .inl g9_61))] H → va_D A [(o9, .inr (9, x_O9 v9_0 v9_1 v9_2 v9_3 a9_4 a9_5 a9_6 a9_7 a9_8 a9_9 a9_10 a9_11 a9_12 v9_13 v9_14 v9_15 v9_16 v9_17 v9_18 a9_19 v9_20 v9_21 v9_22 a9_23 a9_24 a9_25 a9_26 a9_27 a9_28 a9_29 a9_30 a9_31 a9_32 a9_33 a9_34 v9_35 v9_36 a9_37 a9_38 a9_39 a9_40 a9_41 v9_42 a9_43 a9_44 a9_45 a9_46 a9_47 v9_48 v9_49 v9_50 v9_51 a9_52 a9_53 v9_54 v9_55 a9_56 a9_57 v9_58 a9_59 a9_60 a9_61)), (a9_34, .inl (cyI, 202, .inl g9_34)), (a9_61, .inl (cyI, 2, .inl g9_61))] → va_S A s.heap H locs → lv_has ls 8 [(0, .ref o9), (1, .int l1)] → WW H locs 0 0 (F0 m 59 ls [])) ∧ (q = 1 → ∀ (H : Heap) (locs : List Loc) (ls : Array Slot), va_P (dC, dI) vwCl [(o9, .inr (9, x_O9 v9_0 v9_1 v9_2 v9_3 a9_4 a9_5 a9_6 a9_7 a9_8 a9_9 a9_10 a9_11 a9_12 v9_13 v9_14 v9_15 v9_16 v9_17 v9_18 a9_19 v9_20 v9_21 v9_22 a9_23 a9_24 a9_25 a9_26 a9_27 a9_28 a9_29 a9_30 a9_31 a9_32 a9_33 a9_34 v9_35 v9_36 a9_37 a9_38 a9_39 a9_40 a9_41 v9_42 a9_43 a9_44 a9_45 a9_46 a9_47 v9_48 v9_49 v9_50 v9_51 a9_52 a9_53 v9_54 v9_55 a9_56 a9_57 v9_58 a9_59 a9_60 a9_61)), (a9_34, .inl (cyI, 202, .inl g9_34)), (a9_61, .inl (cyI, 2, .inl g9_61))] H → va_D A [(o9, .inr (9, x_O9 v9_0 v9_1 v9_2 v9_3 a9_4 a9_5 a9_6 a9_7 a9_8 a9_9 a9_10 a9_11 a9_12 v9_13 v9_14 v9_15 v9_16 v9_17 v9_18 a9_19 v9_20 v9_21 v9_22 a9_23 a9_24 a9_25 a9_26 a9_27 a9_28 a9_29 a9_30 a9_31 a9_32 a9_33 a9_34 v9_35 v9_36 a9_37 a9_38 a9_39 a9_40 a9_41 v9_42 a9_43 a9_44 a9_45 a9_46 a9_47 v9_48 v9_49 v9_50 v9_51 a9_52 a9_53 v9_54 v9_55 a9_56 a9_57 v9_58 a9_59 a9_60 a9_61)), (a9_34, .inl (cyI, 202, .inl g9_34)), (a9_61, .inl (cyI, 2, .inl g9_61))] → va_S A s.heap H locs → lv_has ls 8 [(0, .ref o9), (1, .int l1)] → WW H locs 0 0 (F0 m 86 ls [])) ∧ (q = 2 → ∀ (H : Heap) (locs : List Loc) (ls : Array Slot), va_P (dC, dI) vwCl [(o9, .inr (9, x_O9 v9_0 v9_1 v9_2 v9_3 a9_4 a9_5 a9_6 a9_7 a9_8 a9_9 a9_10 a9_11 a9_12 v9_13 v9_14 v9_15 v9_16 v9_17 v9_18 a9_19 v9_20 v9_21 v9_22 a9_23 a9_24 a9_25 a9_26 a9_27 a9_28 a9_29 a9_30 a9_31 a9_32 a9_33 a9_34 v9_35 v9_36 a9_37 a9_38 a9_39 a9_40 a9_41 v9_42 a9_43 a9_44 a9_45 a9_46 a9_47 v9_48 v9_49 v9_50 v9_51 a9_52 a9_53 v9_54 v9_55 a9_56 a9_57 v9_58 a9_59 a9_60 a9_61)), (a9_34, .inl (cyI, 202, .inl g9_34)), (a9_61, .inl (cyI, 2, .inl g9_61))] H → va_D A [(o9, .inr (9, x_O9 v9_0 v9_1 v9_2 v9_3 a9_4 a9_5 a9_6 a9_7 a9_8 a9_9 a9_10 a9_11 a9_12 v9_13 v9_14 v9_15 v9_16 v9_17 v9_18 a9_19 v9_20 v9_21 v9_22 a9_23 a9_24 a9_25 a9_26 a9_27 a9_28 a9_29 a9_30 a9_31 a9_32 a9_33 a9_34 v9_35 v9_36 a9_37 a9_38 a9_39 a9_40 a9_41 v9_42 a9_43 a9_44 a9_45 a9_46 a9_47 v9_48 v9_49 v9_50 v9_51 a9_52 a9_53 v9_54 v9_55 a9_56 a9_57 v9_58 a9_59 a9_60 a9_61)), (a9_34, .inl (cyI, 202, .inl g9_34)), (a9_61, .inl (cyI, 2, .inl g9_61))] → va_S A s.heap H locs → lv_has ls 8 [(0, .ref o9), (2, .int l2), (3, .int l3), (4, .int l4), (5, .int l5)] → WW H locs 0 0 (F0 m 210 ls [])) ∧ (q = 3 → ∀ (H : Heap) (locs : List Loc) (ls : Array Slot), va_P (dC, dI) vwCl [(o9, .inr (9, x_O9 v9_0 v9_1 v9_2 v9_3 a9_4 a9_5 a9_6 a9_7 a9_8 a9_9 a9_10 a9_11 a9_12 v9_13 v9_14 v9_15 v9_16 v9_17 v9_18 a9_19 v9_20 v9_21 v9_22 a9_23 a9_24 a9_25 a9_26 a9_27 a9_28 a9_29 a9_30 a9_31 a9_32 a9_33 a9_34 v9_35 v9_36 a9_37 a9_38 a9_39 a9_40 a9_41 v9_42 a9_43 a9_44 a9_45 a9_46 a9_47 v9_48 v9_49 v9_50 v9_51 a9_52 a9_53 v9_54 v9_55 a9_56 a9_57 v9_58 a9_59 a9_60 a9_61)), (a9_34, .inl (cyI, 202, .inl g9_34)), (a9_61, .inl (cyI, 2, .inl g9_61))] H → va_D A [(o9, .inr (9, x_O9 v9_0 v9_1 v9_2 v9_3 a9_4 a9_5 a9_6 a9_7 a9_8 a9_9 a9_10 a9_11 a9_12 v9_13 v9_14 v9_15 v9_16 v9_17 v9_18 a9_19 v9_20 v9_21 v9_22 a9_23 a9_24 a9_25 a9_26 a9_27 a9_28 a9_29 a9_30 a9_31 a9_32 a9_33 a9_34 v9_35 v9_36 a9_37 a9_38 a9_39 a9_40 a9_41 v9_42 a9_43 a9_44 a9_45 a9_46 a9_47 v9_48 v9_49 v9_50 v9_51 a9_52 a9_53 v9_54 v9_55 a9_56 a9_57 v9_58 a9_59 a9_60 a9_61)), (a9_34, .inl (cyI, 202, .inl g9_34)), (a9_61, .inl (cyI, 2, .inl g9_61))] → va_S A s.heap H locs → lv_has ls 8 [(0, .ref o9), (2, .int l2), (3, .int l3), (4, .int l4), (5, .int l5)] → WW H locs 0 0 (F0 m 227 ls [])) ∧ (q = 4 → ∀ (H : Heap) (locs : List Loc) (ls : Array Slot), va_P (dC, dI) vwCl [(o9, .inr (9, x_O9 v9_0 v9_1 v9_2 v9_3 a9_4 a9_5 a9_6 a9_7 a9_8 a9_9 a9_10 a9_11 a9_12 v9_13 v9_14 v9_15 v9_16 v9_17 v9_18 a9_19 v9_20 v9_21 v9_22 a9_23 a9_24 a9_25 a9_26 a9_27 a9_28 a9_29 a9_30 a9_31 a9_32 a9_33 a9_34 v9_35 v9_36 a9_37 a9_38 a9_39 a9_40 a9_41 v9_42 a9_43 a9_44 a9_45 a9_46 a9_47 v9_48 v9_49 v9_50 v9_51 a9_52 a9_53 v9_54 v9_55 a9_56 a9_57 v9_58 a9_59 a9_60 a9_61)), (a9_34, .inl (cyI, 202, .inl g9_34)), (a9_61, .inl (cyI, 2, .inl g9_61))] H → va_D A [(o9, .inr (9, x_O9 v9_0 v9_1 v9_2 v9_3 a9_4 a9_5 a9_6 a9_7 a9_8 a9_9 a9_10 a9_11 a9_12 v9_13 v9_14 v9_15 v9_16 v9_17 v9_18 a9_19 v9_20 v9_21 v9_22 a9_23 a9_24 a9_25 a9_26 a9_27 a9_28 a9_29 a9_30 a9_31 a9_32 a9_33 a9_34 v9_35 v9_36 a9_37 a9_38 a9_39 a9_40 a9_41 v9_42 a9_43 a9_44 a9_45 a9_46 a9_47 v9_48 v9_49 v9_50 v9_51 a9_52 a9_53 v9_54 v9_55 a9_56 a9_57 v9_58 a9_59 a9_60 a9_61)), (a9_34, .inl (cyI, 202, .inl g9_34)), (a9_61, .inl (cyI, 2, .inl g9_61))] → va_S A s.heap H locs → lv_has ls 8 [(0, .ref o9), (2, .int l2), (3, .int l3), (4, .int l4), (5, .int l5)] → WW H locs 0 0 (F0 m 246 ls [])) ∧ (q = 5 → ∀ (H : Heap) (locs : List Loc) (ls : Array Slot), va_P (dC, dI) vwCl [(o9, .inr (9, x_O9 v9_0 v9_1 v9_2 v9_3 a9_4 a9_5 a9_6 a9_7 a9_8 a9_9 a9_10 a9_11 a9_12 v9_13 v9_14 v9_15 v9_16 v9_17 v9_18 a9_19 v9_20 v9_21 v9_22 a9_23 a9_24 a9_25 a9_26 a9_27 a9_28 a9_29 a9_30 a9_31 a9_32 a9_33 a9_34 v9_35 v9_36 a9_37 a9_38 a9_39 a9_40 a9_41 v9_42 a9_43 a9_44 a9_45 a9_46 a9_47 v9_48 v9_49 v9_50 v9_51 a9_52 a9_53 v9_54 v9_55 a9_56 a9_57 v9_58 a9_59 a9_60 a9_61)), (a9_34, .inl (cyI, 202, .inl g9_34)), (a9_61, .inl (cyI, 2, .inl g9_61))] H → va_D A [(o9, .inr (9, x_O9 v9_0 v9_1 v9_2 v9_3 a9_4 a9_5 a9_6 a9_7 a9_8 a9_9 a9_10 a9_11 a9_12 v9_13 v9_14 v9_15 v9_16 v9_17 v9_18 a9_19 v9_20 v9_21 v9_22 a9_23 a9_24 a9_25 a9_26 a9_27 a9_28 a9_29 a9_30 a9_31 a9_32 a9_33 a9_34 v9_35 v9_36 a9_37 a9_38 a9_39 a9_40 a9_41 v9_42 a9_43 a9_44 a9_45 a9_46 a9_47 v9_48 v9_49 v9_50 v9_51 a9_52 a9_53 v9_54 v9_55 a9_56 a9_57 v9_58 a9_59 a9_60 a9_61)), (a9_34, .inl (cyI, 202, .inl g9_34)), (a9_61, .inl (cyI, 2, .inl g9_61))] → va_S A s.heap H locs → lv_has ls 8 [(0, .ref o9), (2, .int l2), (3, .int l3), (4, .int l4), (5, .int l5), (6, .int l6), (7, .int l7)] → WW H locs 0 0 (F0 m 277 ls [])) ∧ (q = 6 → ∀ (H : Heap) (locs : List Loc) (ls : Array Slot), va_P (dC, dI) vwCl [(o9, .inr (9, x_O9 v9_0 v9_1 v9_2 v9_3 a9_4 a9_5 a9_6 a9_7 a9_8 a9_9 a9_10 a9_11 a9_12 v9_13 v9_14 v9_15 v9_16 v9_17 v9_18 a9_19 v9_20 v9_21 v9_22 a9_23 a9_24 a9_25 a9_26 a9_27 a9_28 a9_29 a9_30 a9_31 a9_32 a9_33 a9_34 v9_35 v9_36 a9_37 a9_38 a9_39 a9_40 a9_41 v9_42 a9_43 a9_44 a9_45 a9_46 a9_47 v9_48 v9_49 v9_50 v9_51 a9_52 a9_53 v9_54 v9_55 a9_56 a9_57 v9_58 a9_59 a9_60 a9_61)), (a9_34, .inl (cyI, 202, .inl g9_34)), (a9_61, .inl (cyI, 2, .inl g9_61))] H → va_D A [(o9, .inr (9, x_O9 v9_0 v9_1 v9_2 v9_3 a9_4 a9_5 a9_6 a9_7 a9_8 a9_9 a9_10 a9_11 a9_12 v9_13 v9_14 v9_15 v9_16 v9_17 v9_18 a9_19 v9_20 v9_21 v9_22 a9_23 a9_24 a9_25 a9_26 a9_27 a9_28 a9_29 a9_30 a9_31 a9_32 a9_33 a9_34 v9_35 v9_36 a9_37 a9_38 a9_39 a9_40 a9_41 v9_42 a9_43 a9_44 a9_45 a9_46 a9_47 v9_48 v9_49 v9_50 v9_51 a9_52 a9_53 v9_54 v9_55 a9_56 a9_57 v9_58 a9_59 a9_60 a9_61)), (a9_34, .inl (cyI, 202, .inl g9_34)), (a9_61, .inl (cyI, 2, .inl g9_61))] → va_S A s.heap H locs → lv_has ls 8 [(0, .ref o9), (2, .int l2), (3, .int l3), (4, .int l4), (5, .int l5), (6, .int l6)] → WW H locs 0 0 (F0 m 342 ls [])) ∧ (q = 7 → ∀ (H : Heap) (locs : List Loc) (ls : Array Slot), va_P (dC, dI) vwCl [(o9, .inr (9, x_O9 v9_0 v9_1 v9_2 v9_3 a9_4 a9_5 a9_6 a9_7 a9_8 a9_9 a9_10 a9_11 a9_12 v9_13 v9_14 v9_15 v9_16 v9_17 v9_18 a9_19 v9_20 v9_21 v9_22 a9_23 a9_24 a9_25 a9_26 a9_27 a9_28 a9_29 a9_30 a9_31 a9_32 a9_33 a9_34 v9_35 v9_36 a9_37 a9_38 a9_39 a9_40 a9_41 v9_42 a9_43 a9_44 a9_45 a9_46 a9_47 v9_48 v9_49 v9_50 v9_51 a9_52 a9_53 v9_54 v9_55 a9_56 a9_57 v9_58 a9_59 a9_60 a9_61)), (a9_34, .inl (cyI, 202, .inl g9_34)), (a9_61, .inl (cyI, 2, .inl g9_61))] H → va_D A [(o9, .inr (9, x_O9 v9_0 v9_1 v9_2 v9_3 a9_4 a9_5 a9_6 a9_7 a9_8 a9_9 a9_10 a9_11 a9_12 v9_13 v9_14 v9_15 v9_16 v9_17 v9_18 a9_19 v9_20 v9_21 v9_22 a9_23 a9_24 a9_25 a9_26 a9_27 a9_28 a9_29 a9_30 a9_31 a9_32 a9_33 a9_34 v9_35 v9_36 a9_37 a9_38 a9_39 a9_40 a9_41 v9_42 a9_43 a9_44 a9_45 a9_46 a9_47 v9_48 v9_49 v9_50 v9_51 a9_52 a9_53 v9_54 v9_55 a9_56 a9_57 v9_58 a9_59 a9_60 a9_61)), (a9_34, .inl (cyI, 202, .inl g9_34)), (a9_61, .inl (cyI, 2, .inl g9_61))] → va_S A s.heap H locs → lv_has ls 8 [(0, .ref o9), (2, .int l2), (3, .int l3), (4, .int l4), (5, .int l5), (6, .int l6), (7, .int l7)] → WW H locs 0 0 (F0 m 345 ls [])) ∧ (q = 8 → ∀ (H : Heap) (locs : List Loc) (ls : Array Slot), va_P (dC, dI) vwCl [(o9, .inr (9, x_O9 v9_0 v9_1 v9_2 v9_3 a9_4 a9_5 a9_6 a9_7 a9_8 a9_9 a9_10 a9_11 a9_12 v9_13 v9_14 v9_15 v9_16 v9_17 v9_18 a9_19 v9_20 v9_21 v9_22 a9_23 a9_24 a9_25 a9_26 a9_27 a9_28 a9_29 a9_30 a9_31 a9_32 a9_33 a9_34 v9_35 v9_36 a9_37 a9_38 a9_39 a9_40 a9_41 v9_42 a9_43 a9_44 a9_45 a9_46 a9_47 v9_48 v9_49 v9_50 v9_51 a9_52 a9_53 v9_54 v9_55 a9_56 a9_57 v9_58 a9_59 a9_60 a9_61)), (a9_34, .inl (cyI, 202, .inl g9_34)), (a9_61, .inl (cyI, 2, .inl g9_61))] H → va_D A [(o9, .inr (9, x_O9 v9_0 v9_1 v9_2 v9_3 a9_4 a9_5 a9_6 a9_7 a9_8 a9_9 a9_10 a9_11 a9_12 v9_13 v9_14 v9_15 v9_16 v9_17 v9_18 a9_19 v9_20 v9_21 v9_22 a9_23 a9_24 a9_25 a9_26 a9_27 a9_28 a9_29 a9_30 a9_31 a9_32 a9_33 a9_34 v9_35 v9_36 a9_37 a9_38 a9_39 a9_40 a9_41 v9_42 a9_43 a9_44 a9_45 a9_46 a9_47 v9_48 v9_49 v9_50 v9_51 a9_52 a9_53 v9_54 v9_55 a9_56 a9_57 v9_58 a9_59 a9_60 a9_61)), (a9_34, .inl (cyI, 202, .inl g9_34)), (a9_61, .inl (cyI, 2, .inl g9_61))] → va_S A s.heap H locs → lv_has ls 8 [(0, .ref o9), (4, .int l4)] → WW H locs 0 0 (F0 m 426 ls [])))) (by
    intro F ih z r hf hr q l1 l2 l3 l4 l5 l6 l7 g9_34 g9_61 hz
    subst hz
    obtain rfl := hr
    refine ⟨?_, ?_, ?_, ?_, ?_, ?_, ?_, ?_, ?_⟩
    · intro hq H locs ls hP hD hS hl
      subst hq
      refine (hWW _ _ _ _ _).mp ?_
      replace hf := x_ip rfl hf
      refine lv_iload_n hx hb dX9_moves_59 rfl (lv_at hl 1 rfl) ?_
      refine lv_bipush (v := 87) hx hb dX9_moves_60 (by decide) ?_
      refine lv_icmp_ne (tgt := 76) hx hb dX9_moves_62 (by decide) (fun c_1 => ?_) (fun c_1 => ?_)
      · replace hf := x_in c_1 hf
        refine lv_aload_n hx hb dX9_moves_76 rfl (lv_at hl 0 rfl) ?_
        refine lv_iconst (v := 2) hx hb dX9_moves_77 (by decide) ?_
        obtain ⟨r_2, h_2, hf⟩ := x_bi hf
        have hPc := hP.sub (ws' := [(o9, .inr (9, x_O9 v9_0 v9_1 v9_2 v9_3 a9_4 a9_5 a9_6 a9_7 a9_8 a9_9 a9_10 a9_11 a9_12 v9_13 v9_14 v9_15 v9_16 v9_17 v9_18 a9_19 v9_20 v9_21 v9_22 a9_23 a9_24 a9_25 a9_26 a9_27 a9_28 a9_29 a9_30 a9_31 a9_32 a9_33 a9_34 v9_35 v9_36 a9_37 a9_38 a9_39 a9_40 a9_41 v9_42 a9_43 a9_44 a9_45 a9_46 a9_47 v9_48 v9_49 v9_50 v9_51 a9_52 a9_53 v9_54 v9_55 a9_56 a9_57 v9_58 a9_59 a9_60 a9_61)), (a9_34, .inl (cyI, 202, .inl g9_34))]) [0, 1] rfl
        refine va_calli (va_runV (As := [.int 2]) (rest := []) ⟨hx, hb, hml, hown, hts⟩ (c_X9_pair l dC dI cyI cyZ cyJ H.size o9 v9_0 v9_1 v9_2 v9_3 a9_4 a9_5 a9_6 a9_7 a9_8 a9_9 a9_10 a9_11 a9_12 v9_13 v9_14 v9_15 v9_16 v9_17 v9_18 a9_19 v9_20 v9_21 v9_22 a9_23 a9_24 a9_25 a9_26 a9_27 a9_28 a9_29 a9_30 a9_31 a9_32 a9_33 a9_34 v9_35 v9_36 a9_37 a9_38 a9_39 a9_40 a9_41 v9_42 a9_43 a9_44 a9_45 a9_46 a9_47 v9_48 v9_49 v9_50 v9_51 a9_52 a9_53 v9_54 v9_55 a9_56 a9_57 v9_58 a9_59 a9_60 a9_61 g9_34 2 r_2 h_2) (cwV 1 hts gX9_moves_X9_pair rfl rfl rfl (by decide +kernel) ⟨Nat.le_of_ble_eq_true rfl, Nat.le_of_ble_eq_true rfl⟩) (x_pV hN hK hPc (ci := 9) (q0 := 0) rfl rfl) rfl rfl hl.1 rfl (lv_room (Nat.le_of_ble_eq_true rfl)) dX9_moves_78 ⟨Nat.le_of_ble_eq_true rfl, Nat.le_of_ble_eq_true rfl⟩) hS x_nA (x_nf hA hS) (fun q_2 u t H1 locs ht hvm hw hB hz1 hk1 hS => ?_)
        have hP := x_kp hP hk1
        clear ht hvm hB hz1 hk1 t u hPc
        generalize H1 = H at hP hS ⊢
        obtain ⟨hw, b_2⟩ := hw
        obtain rfl := hw.symm
        refine lv_if_ne (tgt := 86) hx hb dX9_moves_81 (by decide) (fun c_3 => ?_) (fun c_3 => ?_)
        · replace hf := x_in c_3 hf
          exact (hWW _ _ _ _ _).mpr ((ih (1, l1, 0, 0, 0, 0, 0, 0, g9_34, g9_61) _ hf rfl _ _ _ _ _ _ _ _ _ _ rfl).2.1 rfl H locs ls hP hD hS (lv_sub hl [0, 1] rfl))
        · replace hf := x_ip c_3 hf
          refine lv_iconst (v := 0) hx hb dX9_moves_84 (by decide) ?_
          obtain rfl := Option.some.inj hf
          have hP9 := hP.sub (ws' := [(o9, .inr (9, x_O9 v9_0 v9_1 v9_2 v9_3 a9_4 a9_5 a9_6 a9_7 a9_8 a9_9 a9_10 a9_11 a9_12 v9_13 v9_14 v9_15 v9_16 v9_17 v9_18 a9_19 v9_20 v9_21 v9_22 a9_23 a9_24 a9_25 a9_26 a9_27 a9_28 a9_29 a9_30 a9_31 a9_32 a9_33 a9_34 v9_35 v9_36 a9_37 a9_38 a9_39 a9_40 a9_41 v9_42 a9_43 a9_44 a9_45 a9_46 a9_47 v9_48 v9_49 v9_50 v9_51 a9_52 a9_53 v9_54 v9_55 a9_56 a9_57 v9_58 a9_59 a9_60 a9_61)), (a9_34, .inl (cyI, 202, .inl g9_34)), (a9_61, .inl (cyI, 2, .inl g9_61))]) [0, 1, 2] rfl
          have hD9 := hD.sub (ws' := [(o9, .inr (9, x_O9 v9_0 v9_1 v9_2 v9_3 a9_4 a9_5 a9_6 a9_7 a9_8 a9_9 a9_10 a9_11 a9_12 v9_13 v9_14 v9_15 v9_16 v9_17 v9_18 a9_19 v9_20 v9_21 v9_22 a9_23 a9_24 a9_25 a9_26 a9_27 a9_28 a9_29 a9_30 a9_31 a9_32 a9_33 a9_34 v9_35 v9_36 a9_37 a9_38 a9_39 a9_40 a9_41 v9_42 a9_43 a9_44 a9_45 a9_46 a9_47 v9_48 v9_49 v9_50 v9_51 a9_52 a9_53 v9_54 v9_55 a9_56 a9_57 v9_58 a9_59 a9_60 a9_61)), (a9_34, .inl (cyI, 202, .inl g9_34)), (a9_61, .inl (cyI, 2, .inl g9_61))]) [0, 1, 2] (by decide) rfl
          exact W.zret (ty := .boolean) hx hb hr rfl (fun t ht hW => ⟨⟨_, (), rfl, ⟨rfl, rfl⟩, by rw [ht]; exact hP9, va_K.moved hW.alike hK, hD9⟩, hS.F ht⟩) hS.2.2 dX9_moves_85
      · replace hf := x_ip c_1 hf
        refine lv_aload_n hx hb dX9_moves_65 rfl (lv_at hl 0 rfl) ?_
        refine lv_iconst (v := 1) hx hb dX9_moves_66 (by decide) ?_
        obtain ⟨r_4, h_4, hf⟩ := x_bi hf
        have hPc := hP.sub (ws' := [(o9, .inr (9, x_O9 v9_0 v9_1 v9_2 v9_3 a9_4 a9_5 a9_6 a9_7 a9_8 a9_9 a9_10 a9_11 a9_12 v9_13 v9_14 v9_15 v9_16 v9_17 v9_18 a9_19 v9_20 v9_21 v9_22 a9_23 a9_24 a9_25 a9_26 a9_27 a9_28 a9_29 a9_30 a9_31 a9_32 a9_33 a9_34 v9_35 v9_36 a9_37 a9_38 a9_39 a9_40 a9_41 v9_42 a9_43 a9_44 a9_45 a9_46 a9_47 v9_48 v9_49 v9_50 v9_51 a9_52 a9_53 v9_54 v9_55 a9_56 a9_57 v9_58 a9_59 a9_60 a9_61)), (a9_34, .inl (cyI, 202, .inl g9_34))]) [0, 1] rfl
        refine va_calli (va_runV (As := [.int 1]) (rest := []) ⟨hx, hb, hml, hown, hts⟩ (c_X9_single l dC dI cyI cyZ cyJ H.size o9 v9_0 v9_1 v9_2 v9_3 a9_4 a9_5 a9_6 a9_7 a9_8 a9_9 a9_10 a9_11 a9_12 v9_13 v9_14 v9_15 v9_16 v9_17 v9_18 a9_19 v9_20 v9_21 v9_22 a9_23 a9_24 a9_25 a9_26 a9_27 a9_28 a9_29 a9_30 a9_31 a9_32 a9_33 a9_34 v9_35 v9_36 a9_37 a9_38 a9_39 a9_40 a9_41 v9_42 a9_43 a9_44 a9_45 a9_46 a9_47 v9_48 v9_49 v9_50 v9_51 a9_52 a9_53 v9_54 v9_55 a9_56 a9_57 v9_58 a9_59 a9_60 a9_61 g9_34 1 r_4 h_4) (cwV 1 hts gX9_moves_X9_single rfl rfl rfl (by decide +kernel) ⟨Nat.le_of_ble_eq_true rfl, Nat.le_of_ble_eq_true rfl⟩) (x_pV hN hK hPc (ci := 9) (q0 := 0) rfl rfl) rfl rfl hl.1 rfl (lv_room (Nat.le_of_ble_eq_true rfl)) dX9_moves_67 ⟨Nat.le_of_ble_eq_true rfl, Nat.le_of_ble_eq_true rfl⟩) hS x_nA (x_nf hA hS) (fun q_4 u t H1 locs ht hvm hw hB hz1 hk1 hS => ?_)
        have hP := x_kp hP hk1
        clear ht hvm hB hz1 hk1 t u hPc
        generalize H1 = H at hP hS ⊢
        obtain ⟨hw, b_4⟩ := hw
        obtain rfl := hw.symm
        refine lv_if_eq (tgt := 84) hx hb dX9_moves_70 (by decide) (fun c_5 => ?_) (fun c_5 => ?_)
        · replace hf := x_ip c_5 hf
          refine lv_iconst (v := 0) hx hb dX9_moves_84 (by decide) ?_
          obtain rfl := Option.some.inj hf
          have hP9 := hP.sub (ws' := [(o9, .inr (9, x_O9 v9_0 v9_1 v9_2 v9_3 a9_4 a9_5 a9_6 a9_7 a9_8 a9_9 a9_10 a9_11 a9_12 v9_13 v9_14 v9_15 v9_16 v9_17 v9_18 a9_19 v9_20 v9_21 v9_22 a9_23 a9_24 a9_25 a9_26 a9_27 a9_28 a9_29 a9_30 a9_31 a9_32 a9_33 a9_34 v9_35 v9_36 a9_37 a9_38 a9_39 a9_40 a9_41 v9_42 a9_43 a9_44 a9_45 a9_46 a9_47 v9_48 v9_49 v9_50 v9_51 a9_52 a9_53 v9_54 v9_55 a9_56 a9_57 v9_58 a9_59 a9_60 a9_61)), (a9_34, .inl (cyI, 202, .inl g9_34)), (a9_61, .inl (cyI, 2, .inl g9_61))]) [0, 1, 2] rfl
          have hD9 := hD.sub (ws' := [(o9, .inr (9, x_O9 v9_0 v9_1 v9_2 v9_3 a9_4 a9_5 a9_6 a9_7 a9_8 a9_9 a9_10 a9_11 a9_12 v9_13 v9_14 v9_15 v9_16 v9_17 v9_18 a9_19 v9_20 v9_21 v9_22 a9_23 a9_24 a9_25 a9_26 a9_27 a9_28 a9_29 a9_30 a9_31 a9_32 a9_33 a9_34 v9_35 v9_36 a9_37 a9_38 a9_39 a9_40 a9_41 v9_42 a9_43 a9_44 a9_45 a9_46 a9_47 v9_48 v9_49 v9_50 v9_51 a9_52 a9_53 v9_54 v9_55 a9_56 a9_57 v9_58 a9_59 a9_60 a9_61)), (a9_34, .inl (cyI, 202, .inl g9_34)), (a9_61, .inl (cyI, 2, .inl g9_61))]) [0, 1, 2] (by decide) rfl
          exact W.zret (ty := .boolean) hx hb hr rfl (fun t ht hW => ⟨⟨_, (), rfl, ⟨rfl, rfl⟩, by rw [ht]; exact hP9, va_K.moved hW.alike hK, hD9⟩, hS.F ht⟩) hS.2.2 dX9_moves_85
        · replace hf := x_in c_5 hf
          refine lv_goto (tgt := 86) hx hb dX9_moves_73 (by decide) ?_
          exact (hWW _ _ _ _ _).mpr ((ih (1, l1, 0, 0, 0, 0, 0, 0, g9_34, g9_61) _ hf rfl _ _ _ _ _ _ _ _ _ _ rfl).2.1 rfl H locs ls hP hD hS (lv_sub hl [0, 1] rfl))
    · intro hq H locs ls hP hD hS hl
      subst hq
      refine (hWW _ _ _ _ _).mp ?_
      replace hf := x_ip rfl (x_in (by decide) hf)
      refine lv_aload_n hx hb dX9_moves_86 rfl (lv_at hl 0 rfl) ?_
      refine lv_dup hx hb dX9_moves_87 rfl ?_
      refine va_get (D := (dC, dI)) (ci := 9) (v := .int v9_35) (C := RX9) (T := TX9) (N := 62) hx hb hts i_X9_moves_X9 hown hK hP 0 rfl rfl 35 (by decide) k_1 (fun _ h9 => h9) rfl dX9_moves_88 ?_
      refine lv_iload_n hx hb dX9_moves_91 rfl (lv_at hl 1 rfl) ?_
      refine lv_bipush (v := 86) hx hb dX9_moves_92 (by decide) ?_
      refine lv_isub hx hb dX9_moves_94 ?_
      refine lv_isub hx hb dX9_moves_95 ?_
      refine va_put (D := (dC, dI)) (ci := 9) (v := .int (v9_35 - (l1 - (86 : Int32)))) (ty := .int) (C := RX9) (T := TX9) (N := 62) hx hb hts i_X9_moves_X9 tyX9 tyX9_ok nmX9 hown hK hP hD hS 0 rfl rfl 35 (by decide) k_1 (fun _ h9 => h9) rfl (by decide +kernel) rfl rfl (Nat.le_of_ble_eq_true rfl) dX9_moves_96 (fun H locs hP hD hS => ?_)
      have hP : va_P (dC, dI) vwCl [(o9, .inr (9, x_O9 v9_0 v9_1 v9_2 v9_3 a9_4 a9_5 a9_6 a9_7 a9_8 a9_9 a9_10 a9_11 a9_12 v9_13 v9_14 v9_15 v9_16 v9_17 v9_18 a9_19 v9_20 v9_21 v9_22 a9_23 a9_24 a9_25 a9_26 a9_27 a9_28 a9_29 a9_30 a9_31 a9_32 a9_33 a9_34 (v9_35 - (l1 - (86 : Int32))) v9_36 a9_37 a9_38 a9_39 a9_40 a9_41 v9_42 a9_43 a9_44 a9_45 a9_46 a9_47 v9_48 v9_49 v9_50 v9_51 a9_52 a9_53 v9_54 v9_55 a9_56 a9_57 v9_58 a9_59 a9_60 a9_61)), (a9_34, .inl (cyI, 202, .inl g9_34)), (a9_61, .inl (cyI, 2, .inl g9_61))] H := hP
      have hD : va_D A [(o9, .inr (9, x_O9 v9_0 v9_1 v9_2 v9_3 a9_4 a9_5 a9_6 a9_7 a9_8 a9_9 a9_10 a9_11 a9_12 v9_13 v9_14 v9_15 v9_16 v9_17 v9_18 a9_19 v9_20 v9_21 v9_22 a9_23 a9_24 a9_25 a9_26 a9_27 a9_28 a9_29 a9_30 a9_31 a9_32 a9_33 a9_34 (v9_35 - (l1 - (86 : Int32))) v9_36 a9_37 a9_38 a9_39 a9_40 a9_41 v9_42 a9_43 a9_44 a9_45 a9_46 a9_47 v9_48 v9_49 v9_50 v9_51 a9_52 a9_53 v9_54 v9_55 a9_56 a9_57 v9_58 a9_59 a9_60 a9_61)), (a9_34, .inl (cyI, 202, .inl g9_34)), (a9_61, .inl (cyI, 2, .inl g9_61))] := hD
      refine lv_iconst (v := 1) hx hb dX9_moves_99 (by decide) ?_
      obtain rfl := Option.some.inj hf
      have hP9 := hP.sub (ws' := [(o9, .inr (9, x_O9 v9_0 v9_1 v9_2 v9_3 a9_4 a9_5 a9_6 a9_7 a9_8 a9_9 a9_10 a9_11 a9_12 v9_13 v9_14 v9_15 v9_16 v9_17 v9_18 a9_19 v9_20 v9_21 v9_22 a9_23 a9_24 a9_25 a9_26 a9_27 a9_28 a9_29 a9_30 a9_31 a9_32 a9_33 a9_34 (v9_35 - (l1 - (86 : Int32))) v9_36 a9_37 a9_38 a9_39 a9_40 a9_41 v9_42 a9_43 a9_44 a9_45 a9_46 a9_47 v9_48 v9_49 v9_50 v9_51 a9_52 a9_53 v9_54 v9_55 a9_56 a9_57 v9_58 a9_59 a9_60 a9_61)), (a9_34, .inl (cyI, 202, .inl g9_34)), (a9_61, .inl (cyI, 2, .inl g9_61))]) [0, 1, 2] rfl
      have hD9 := hD.sub (ws' := [(o9, .inr (9, x_O9 v9_0 v9_1 v9_2 v9_3 a9_4 a9_5 a9_6 a9_7 a9_8 a9_9 a9_10 a9_11 a9_12 v9_13 v9_14 v9_15 v9_16 v9_17 v9_18 a9_19 v9_20 v9_21 v9_22 a9_23 a9_24 a9_25 a9_26 a9_27 a9_28 a9_29 a9_30 a9_31 a9_32 a9_33 a9_34 (v9_35 - (l1 - (86 : Int32))) v9_36 a9_37 a9_38 a9_39 a9_40 a9_41 v9_42 a9_43 a9_44 a9_45 a9_46 a9_47 v9_48 v9_49 v9_50 v9_51 a9_52 a9_53 v9_54 v9_55 a9_56 a9_57 v9_58 a9_59 a9_60 a9_61)), (a9_34, .inl (cyI, 202, .inl g9_34)), (a9_61, .inl (cyI, 2, .inl g9_61))]) [0, 1, 2] (by decide) rfl
      exact W.zret (ty := .boolean) hx hb hr rfl (fun t ht hW => ⟨⟨_, (), rfl, ⟨rfl, rfl⟩, by rw [ht]; exact hP9, va_K.moved hW.alike hK, hD9⟩, hS.F ht⟩) hS.2.2 dX9_moves_100
    · intro hq H locs ls hP hD hS hl
      subst hq
      refine (hWW _ _ _ _ _).mp ?_
      replace hf := x_ip rfl (x_in (by decide) (x_in (by decide) hf))
      refine lv_iload hx hb dX9_moves_210 (lv_at hl 4 rfl) ?_
      refine lv_iconst (v := 1) hx hb dX9_moves_212 (by decide) ?_
      refine lv_icmp_ne (tgt := 227) hx hb dX9_moves_213 (by decide) (fun c_6 => ?_) (fun c_6 => ?_)
      · replace hf := x_in c_6 hf
        exact (hWW _ _ _ _ _).mpr ((ih (3, 0, l2, l3, l4, l5, 0, 0, g9_34, g9_61) _ hf rfl _ _ _ _ _ _ _ _ _ _ rfl).2.2.2.1 rfl H locs ls hP hD hS (lv_sub hl [0, 1, 2, 3, 4] rfl))
      · replace hf := x_ip c_6 hf
        refine lv_aload_n hx hb dX9_moves_216 rfl (lv_at hl 0 rfl) ?_
        refine lv_iload hx hb dX9_moves_217 (lv_at hl 3 rfl) ?_
        refine lv_iconst (v := 1) hx hb dX9_moves_219 (by decide) ?_
        refine lv_iadd hx hb dX9_moves_220 ?_
        obtain ⟨r_7, h_7, hf⟩ := x_bi hf
        have hPc := hP.sub (ws' := [(o9, .inr (9, x_O9 v9_0 v9_1 v9_2 v9_3 a9_4 a9_5 a9_6 a9_7 a9_8 a9_9 a9_10 a9_11 a9_12 v9_13 v9_14 v9_15 v9_16 v9_17 v9_18 a9_19 v9_20 v9_21 v9_22 a9_23 a9_24 a9_25 a9_26 a9_27 a9_28 a9_29 a9_30 a9_31 a9_32 a9_33 a9_34 v9_35 v9_36 a9_37 a9_38 a9_39 a9_40 a9_41 v9_42 a9_43 a9_44 a9_45 a9_46 a9_47 v9_48 v9_49 v9_50 v9_51 a9_52 a9_53 v9_54 v9_55 a9_56 a9_57 v9_58 a9_59 a9_60 a9_61)), (a9_34, .inl (cyI, 202, .inl g9_34))]) [0, 1] rfl
        refine va_calli (va_runV (As := [.int (l4 + (1 : Int32))]) (rest := []) ⟨hx, hb, hml, hown, hts⟩ (c_X9_single l dC dI cyI cyZ cyJ H.size o9 v9_0 v9_1 v9_2 v9_3 a9_4 a9_5 a9_6 a9_7 a9_8 a9_9 a9_10 a9_11 a9_12 v9_13 v9_14 v9_15 v9_16 v9_17 v9_18 a9_19 v9_20 v9_21 v9_22 a9_23 a9_24 a9_25 a9_26 a9_27 a9_28 a9_29 a9_30 a9_31 a9_32 a9_33 a9_34 v9_35 v9_36 a9_37 a9_38 a9_39 a9_40 a9_41 v9_42 a9_43 a9_44 a9_45 a9_46 a9_47 v9_48 v9_49 v9_50 v9_51 a9_52 a9_53 v9_54 v9_55 a9_56 a9_57 v9_58 a9_59 a9_60 a9_61 g9_34 (l4 + (1 : Int32)) r_7 h_7) (cwV 1 hts gX9_moves_X9_single rfl rfl rfl (by decide +kernel) ⟨Nat.le_of_ble_eq_true rfl, Nat.le_of_ble_eq_true rfl⟩) (x_pV hN hK hPc (ci := 9) (q0 := 0) rfl rfl) rfl rfl hl.1 rfl (lv_room (Nat.le_of_ble_eq_true rfl)) dX9_moves_221 ⟨Nat.le_of_ble_eq_true rfl, Nat.le_of_ble_eq_true rfl⟩) hS x_nA (x_nf hA hS) (fun q_7 u t H1 locs ht hvm hw hB hz1 hk1 hS => ?_)
        have hP := x_kp hP hk1
        clear ht hvm hB hz1 hk1 t u hPc
        generalize H1 = H at hP hS ⊢
        obtain ⟨hw, b_7⟩ := hw
        obtain rfl := hw.symm
        refine lv_if_eq (tgt := 244) hx hb dX9_moves_224 (by decide) (fun c_8 => ?_) (fun c_8 => ?_)
        · replace hf := x_ip c_8 hf
          refine lv_iconst (v := 0) hx hb dX9_moves_244 (by decide) ?_
          obtain rfl := Option.some.inj hf
          have hP9 := hP.sub (ws' := [(o9, .inr (9, x_O9 v9_0 v9_1 v9_2 v9_3 a9_4 a9_5 a9_6 a9_7 a9_8 a9_9 a9_10 a9_11 a9_12 v9_13 v9_14 v9_15 v9_16 v9_17 v9_18 a9_19 v9_20 v9_21 v9_22 a9_23 a9_24 a9_25 a9_26 a9_27 a9_28 a9_29 a9_30 a9_31 a9_32 a9_33 a9_34 v9_35 v9_36 a9_37 a9_38 a9_39 a9_40 a9_41 v9_42 a9_43 a9_44 a9_45 a9_46 a9_47 v9_48 v9_49 v9_50 v9_51 a9_52 a9_53 v9_54 v9_55 a9_56 a9_57 v9_58 a9_59 a9_60 a9_61)), (a9_34, .inl (cyI, 202, .inl g9_34)), (a9_61, .inl (cyI, 2, .inl g9_61))]) [0, 1, 2] rfl
          have hD9 := hD.sub (ws' := [(o9, .inr (9, x_O9 v9_0 v9_1 v9_2 v9_3 a9_4 a9_5 a9_6 a9_7 a9_8 a9_9 a9_10 a9_11 a9_12 v9_13 v9_14 v9_15 v9_16 v9_17 v9_18 a9_19 v9_20 v9_21 v9_22 a9_23 a9_24 a9_25 a9_26 a9_27 a9_28 a9_29 a9_30 a9_31 a9_32 a9_33 a9_34 v9_35 v9_36 a9_37 a9_38 a9_39 a9_40 a9_41 v9_42 a9_43 a9_44 a9_45 a9_46 a9_47 v9_48 v9_49 v9_50 v9_51 a9_52 a9_53 v9_54 v9_55 a9_56 a9_57 v9_58 a9_59 a9_60 a9_61)), (a9_34, .inl (cyI, 202, .inl g9_34)), (a9_61, .inl (cyI, 2, .inl g9_61))]) [0, 1, 2] (by decide) rfl
          exact W.zret (ty := .boolean) hx hb hr rfl (fun t ht hW => ⟨⟨_, (), rfl, ⟨rfl, rfl⟩, by rw [ht]; exact hP9, va_K.moved hW.alike hK, hD9⟩, hS.F ht⟩) hS.2.2 dX9_moves_245
        · replace hf := x_in c_8 hf
          exact (hWW _ _ _ _ _).mpr ((ih (3, 0, l2, l3, l4, l5, 0, 0, g9_34, g9_61) _ hf rfl _ _ _ _ _ _ _ _ _ _ rfl).2.2.2.1 rfl H locs ls hP hD hS (lv_sub hl [0, 1, 2, 3, 4] rfl))
    · intro hq H locs ls hP hD hS hl
      subst hq
      refine (hWW _ _ _ _ _).mp ?_
      replace hf := x_ip rfl (x_in (by decide) (x_in (by decide) (x_in (by decide) hf)))
      refine lv_iload hx hb dX9_moves_227 (lv_at hl 4 rfl) ?_
      refine lv_iconst (v := 2) hx hb dX9_moves_229 (by decide) ?_
      refine lv_icmp_ne (tgt := 246) hx hb dX9_moves_230 (by decide) (fun c_9 => ?_) (fun c_9 => ?_)
      · replace hf := x_in c_9 hf
        exact (hWW _ _ _ _ _).mpr ((ih (4, 0, l2, l3, l4, l5, 0, 0, g9_34, g9_61) _ hf rfl _ _ _ _ _ _ _ _ _ _ rfl).2.2.2.2.1 rfl H locs ls hP hD hS (lv_sub hl [0, 1, 2, 3, 4] rfl))
      · replace hf := x_ip c_9 hf
        refine lv_aload_n hx hb dX9_moves_233 rfl (lv_at hl 0 rfl) ?_
        refine lv_iload hx hb dX9_moves_234 (lv_at hl 3 rfl) ?_
        refine lv_iconst (v := 2) hx hb dX9_moves_236 (by decide) ?_
        refine lv_iadd hx hb dX9_moves_237 ?_
        obtain ⟨r_10, h_10, hf⟩ := x_bi hf
        have hPc := hP.sub (ws' := [(o9, .inr (9, x_O9 v9_0 v9_1 v9_2 v9_3 a9_4 a9_5 a9_6 a9_7 a9_8 a9_9 a9_10 a9_11 a9_12 v9_13 v9_14 v9_15 v9_16 v9_17 v9_18 a9_19 v9_20 v9_21 v9_22 a9_23 a9_24 a9_25 a9_26 a9_27 a9_28 a9_29 a9_30 a9_31 a9_32 a9_33 a9_34 v9_35 v9_36 a9_37 a9_38 a9_39 a9_40 a9_41 v9_42 a9_43 a9_44 a9_45 a9_46 a9_47 v9_48 v9_49 v9_50 v9_51 a9_52 a9_53 v9_54 v9_55 a9_56 a9_57 v9_58 a9_59 a9_60 a9_61)), (a9_34, .inl (cyI, 202, .inl g9_34))]) [0, 1] rfl
        refine va_calli (va_runV (As := [.int (l4 + (2 : Int32))]) (rest := []) ⟨hx, hb, hml, hown, hts⟩ (c_X9_pair l dC dI cyI cyZ cyJ H.size o9 v9_0 v9_1 v9_2 v9_3 a9_4 a9_5 a9_6 a9_7 a9_8 a9_9 a9_10 a9_11 a9_12 v9_13 v9_14 v9_15 v9_16 v9_17 v9_18 a9_19 v9_20 v9_21 v9_22 a9_23 a9_24 a9_25 a9_26 a9_27 a9_28 a9_29 a9_30 a9_31 a9_32 a9_33 a9_34 v9_35 v9_36 a9_37 a9_38 a9_39 a9_40 a9_41 v9_42 a9_43 a9_44 a9_45 a9_46 a9_47 v9_48 v9_49 v9_50 v9_51 a9_52 a9_53 v9_54 v9_55 a9_56 a9_57 v9_58 a9_59 a9_60 a9_61 g9_34 (l4 + (2 : Int32)) r_10 h_10) (cwV 1 hts gX9_moves_X9_pair rfl rfl rfl (by decide +kernel) ⟨Nat.le_of_ble_eq_true rfl, Nat.le_of_ble_eq_true rfl⟩) (x_pV hN hK hPc (ci := 9) (q0 := 0) rfl rfl) rfl rfl hl.1 rfl (lv_room (Nat.le_of_ble_eq_true rfl)) dX9_moves_238 ⟨Nat.le_of_ble_eq_true rfl, Nat.le_of_ble_eq_true rfl⟩) hS x_nA (x_nf hA hS) (fun q_10 u t H1 locs ht hvm hw hB hz1 hk1 hS => ?_)
        have hP := x_kp hP hk1
        clear ht hvm hB hz1 hk1 t u hPc
        generalize H1 = H at hP hS ⊢
        obtain ⟨hw, b_10⟩ := hw
        obtain rfl := hw.symm
        refine lv_if_ne (tgt := 246) hx hb dX9_moves_241 (by decide) (fun c_11 => ?_) (fun c_11 => ?_)
        · replace hf := x_in c_11 hf
          exact (hWW _ _ _ _ _).mpr ((ih (4, 0, l2, l3, l4, l5, 0, 0, g9_34, g9_61) _ hf rfl _ _ _ _ _ _ _ _ _ _ rfl).2.2.2.2.1 rfl H locs ls hP hD hS (lv_sub hl [0, 1, 2, 3, 4] rfl))
        · replace hf := x_ip c_11 hf
          refine lv_iconst (v := 0) hx hb dX9_moves_244 (by decide) ?_
          obtain rfl := Option.some.inj hf
          have hP9 := hP.sub (ws' := [(o9, .inr (9, x_O9 v9_0 v9_1 v9_2 v9_3 a9_4 a9_5 a9_6 a9_7 a9_8 a9_9 a9_10 a9_11 a9_12 v9_13 v9_14 v9_15 v9_16 v9_17 v9_18 a9_19 v9_20 v9_21 v9_22 a9_23 a9_24 a9_25 a9_26 a9_27 a9_28 a9_29 a9_30 a9_31 a9_32 a9_33 a9_34 v9_35 v9_36 a9_37 a9_38 a9_39 a9_40 a9_41 v9_42 a9_43 a9_44 a9_45 a9_46 a9_47 v9_48 v9_49 v9_50 v9_51 a9_52 a9_53 v9_54 v9_55 a9_56 a9_57 v9_58 a9_59 a9_60 a9_61)), (a9_34, .inl (cyI, 202, .inl g9_34)), (a9_61, .inl (cyI, 2, .inl g9_61))]) [0, 1, 2] rfl
          have hD9 := hD.sub (ws' := [(o9, .inr (9, x_O9 v9_0 v9_1 v9_2 v9_3 a9_4 a9_5 a9_6 a9_7 a9_8 a9_9 a9_10 a9_11 a9_12 v9_13 v9_14 v9_15 v9_16 v9_17 v9_18 a9_19 v9_20 v9_21 v9_22 a9_23 a9_24 a9_25 a9_26 a9_27 a9_28 a9_29 a9_30 a9_31 a9_32 a9_33 a9_34 v9_35 v9_36 a9_37 a9_38 a9_39 a9_40 a9_41 v9_42 a9_43 a9_44 a9_45 a9_46 a9_47 v9_48 v9_49 v9_50 v9_51 a9_52 a9_53 v9_54 v9_55 a9_56 a9_57 v9_58 a9_59 a9_60 a9_61)), (a9_34, .inl (cyI, 202, .inl g9_34)), (a9_61, .inl (cyI, 2, .inl g9_61))]) [0, 1, 2] (by decide) rfl
          exact W.zret (ty := .boolean) hx hb hr rfl (fun t ht hW => ⟨⟨_, (), rfl, ⟨rfl, rfl⟩, by rw [ht]; exact hP9, va_K.moved hW.alike hK, hD9⟩, hS.F ht⟩) hS.2.2 dX9_moves_245
    · intro hq H locs ls hP hD hS hl
      subst hq
      refine (hWW _ _ _ _ _).mp ?_
      replace hf := x_ip rfl (x_in (by decide) (x_in (by decide) (x_in (by decide) (x_in (by decide) hf))))
      refine lv_aload_n hx hb dX9_moves_246 rfl (lv_at hl 0 rfl) ?_
      refine va_get (D := (dC, dI)) (ci := 9) (v := .int v9_35) (C := RX9) (T := TX9) (N := 62) hx hb hts i_X9_moves_X9 hown hK hP 0 rfl rfl 35 (by decide) k_1 (fun _ h9 => h9) rfl dX9_moves_247 ?_
      refine lv_iload hx hb dX9_moves_250 (lv_at hl 3 rfl) ?_
      refine lv_iadd hx hb dX9_moves_252 ?_
      refine lv_aload_n hx hb dX9_moves_253 rfl (lv_at hl 0 rfl) ?_
      refine va_get (D := (dC, dI)) (ci := 9) (v := .int v9_17) (C := RX9) (T := TX9) (N := 62) hx hb hts i_X9_moves_X9 hown hK hP 0 rfl rfl 17 (by decide) k_2 (fun _ h9 => h9) rfl dX9_moves_254 ?_
      refine lv_icmp_le (tgt := 262) hx hb dX9_moves_257 (by decide) (fun c_12 => ?_) (fun c_12 => ?_)
      · replace hf := x_ip c_12 hf
        refine lv_aload_n hx hb dX9_moves_262 rfl (lv_at hl 0 rfl) ?_
        refine va_get (D := (dC, dI)) (ci := 9) (v := .int v9_35) (C := RX9) (T := TX9) (N := 62) hx hb hts i_X9_moves_X9 hown hK hP 0 rfl rfl 35 (by decide) k_1 (fun _ h9 => h9) rfl dX9_moves_263 ?_
        refine lv_iload hx hb dX9_moves_266 (lv_at hl 3 rfl) ?_
        refine lv_isub hx hb dX9_moves_268 ?_
        refine lv_iload hx hb dX9_moves_269 (lv_at hl 4 rfl) ?_
        refine lv_isub hx hb dX9_moves_271 ?_
        refine lv_istore (lv' := [(6, .int ((v9_35 - l4) - l5)), (0, .ref o9), (2, .int l2), (3, .int l3), (4, .int l4), (5, .int l5)]) hx hb dX9_moves_272 hl (by decide) rfl (fun ls hl => ?_)
        refine lv_iconst (v := 0) hx hb dX9_moves_274 (by decide) ?_
        refine lv_istore (lv' := [(7, .int 0), (6, .int ((v9_35 - l4) - l5)), (0, .ref o9), (2, .int l2), (3, .int l3), (4, .int l4), (5, .int l5)]) hx hb dX9_moves_275 hl (by decide) rfl (fun ls hl => ?_)
        exact (hWW _ _ _ _ _).mpr ((ih (5, 0, l2, l3, l4, l5, (v9_35 - l4) - l5, 0, g9_34, g9_61) _ hf rfl _ _ _ _ _ _ _ _ _ _ rfl).2.2.2.2.2.1 rfl H locs ls hP hD hS (lv_sub hl [2, 3, 4, 5, 6, 1, 0] rfl))
      · replace hf := x_in c_12 hf
        refine lv_iconst (v := 0) hx hb dX9_moves_260 (by decide) ?_
        obtain rfl := Option.some.inj hf
        have hP9 := hP.sub (ws' := [(o9, .inr (9, x_O9 v9_0 v9_1 v9_2 v9_3 a9_4 a9_5 a9_6 a9_7 a9_8 a9_9 a9_10 a9_11 a9_12 v9_13 v9_14 v9_15 v9_16 v9_17 v9_18 a9_19 v9_20 v9_21 v9_22 a9_23 a9_24 a9_25 a9_26 a9_27 a9_28 a9_29 a9_30 a9_31 a9_32 a9_33 a9_34 v9_35 v9_36 a9_37 a9_38 a9_39 a9_40 a9_41 v9_42 a9_43 a9_44 a9_45 a9_46 a9_47 v9_48 v9_49 v9_50 v9_51 a9_52 a9_53 v9_54 v9_55 a9_56 a9_57 v9_58 a9_59 a9_60 a9_61)), (a9_34, .inl (cyI, 202, .inl g9_34)), (a9_61, .inl (cyI, 2, .inl g9_61))]) [0, 1, 2] rfl
        have hD9 := hD.sub (ws' := [(o9, .inr (9, x_O9 v9_0 v9_1 v9_2 v9_3 a9_4 a9_5 a9_6 a9_7 a9_8 a9_9 a9_10 a9_11 a9_12 v9_13 v9_14 v9_15 v9_16 v9_17 v9_18 a9_19 v9_20 v9_21 v9_22 a9_23 a9_24 a9_25 a9_26 a9_27 a9_28 a9_29 a9_30 a9_31 a9_32 a9_33 a9_34 v9_35 v9_36 a9_37 a9_38 a9_39 a9_40 a9_41 v9_42 a9_43 a9_44 a9_45 a9_46 a9_47 v9_48 v9_49 v9_50 v9_51 a9_52 a9_53 v9_54 v9_55 a9_56 a9_57 v9_58 a9_59 a9_60 a9_61)), (a9_34, .inl (cyI, 202, .inl g9_34)), (a9_61, .inl (cyI, 2, .inl g9_61))]) [0, 1, 2] (by decide) rfl
        exact W.zret (ty := .boolean) hx hb hr rfl (fun t ht hW => ⟨⟨_, (), rfl, ⟨rfl, rfl⟩, by rw [ht]; exact hP9, va_K.moved hW.alike hK, hD9⟩, hS.F ht⟩) hS.2.2 dX9_moves_261
    · intro hq H locs ls hP hD hS hl
      subst hq
      refine (hWW _ _ _ _ _).mp ?_
      replace hf := x_ip rfl (x_in (by decide) (x_in (by decide) (x_in (by decide) (x_in (by decide) (x_in (by decide) hf)))))
      refine lv_iload hx hb dX9_moves_277 (lv_at hl 6 rfl) ?_
      refine lv_iload hx hb dX9_moves_279 (lv_at hl 4 rfl) ?_
      refine lv_icmp_ge (tgt := 307) hx hb dX9_moves_281 (by decide) (fun c_13 => ?_) (fun c_13 => ?_)
      · replace hf := x_ip c_13 hf
        refine lv_iload hx hb dX9_moves_307 (lv_at hl 3 rfl) ?_
        refine lv_iconst (v := 1) hx hb dX9_moves_309 (by decide) ?_
        refine lv_icmp_ne (tgt := 324) hx hb dX9_moves_310 (by decide) (fun c_14 => ?_) (fun c_14 => ?_)
        · replace hf := x_in c_14 hf
          refine lv_aload_n hx hb dX9_moves_324 rfl (lv_at hl 0 rfl) ?_
          refine va_get (D := (dC, dI)) (ci := 9) (v := .ref a9_34) (C := RX9) (T := TX9) (N := 62) hx hb hts i_X9_moves_X9 hown hK hP 0 rfl rfl 34 (by decide) k_3 (fun _ h9 => h9) rfl dX9_moves_325 ?_
          refine lv_iload hx hb dX9_moves_328 (lv_at hl 5 rfl) ?_
          refine lv_iload_n hx hb dX9_moves_330 rfl (lv_at hl 2 rfl) ?_
          obtain ⟨g_15, hf⟩ := x_gu hf
          refine va_iast hx hb hK hP hD hS 1 0 rfl rfl (x_gdin g_15) dX9_moves_331 (fun H locs hP hD hS => ?_)
          have hP : va_P (dC, dI) vwCl [(o9, .inr (9, x_O9 v9_0 v9_1 v9_2 v9_3 a9_4 a9_5 a9_6 a9_7 a9_8 a9_9 a9_10 a9_11 a9_12 v9_13 v9_14 v9_15 v9_16 v9_17 v9_18 a9_19 v9_20 v9_21 v9_22 a9_23 a9_24 a9_25 a9_26 a9_27 a9_28 a9_29 a9_30 a9_31 a9_32 a9_33 a9_34 v9_35 v9_36 a9_37 a9_38 a9_39 a9_40 a9_41 v9_42 a9_43 a9_44 a9_45 a9_46 a9_47 v9_48 v9_49 v9_50 v9_51 a9_52 a9_53 v9_54 v9_55 a9_56 a9_57 v9_58 a9_59 a9_60 a9_61)), (a9_34, .inl (cyI, 202, .inl (upd g9_34 (Int32.toNatClampNeg l6) l3))), (a9_61, .inl (cyI, 2, .inl g9_61))] H := hP
          have hD : va_D A [(o9, .inr (9, x_O9 v9_0 v9_1 v9_2 v9_3 a9_4 a9_5 a9_6 a9_7 a9_8 a9_9 a9_10 a9_11 a9_12 v9_13 v9_14 v9_15 v9_16 v9_17 v9_18 a9_19 v9_20 v9_21 v9_22 a9_23 a9_24 a9_25 a9_26 a9_27 a9_28 a9_29 a9_30 a9_31 a9_32 a9_33 a9_34 v9_35 v9_36 a9_37 a9_38 a9_39 a9_40 a9_41 v9_42 a9_43 a9_44 a9_45 a9_46 a9_47 v9_48 v9_49 v9_50 v9_51 a9_52 a9_53 v9_54 v9_55 a9_56 a9_57 v9_58 a9_59 a9_60 a9_61)), (a9_34, .inl (cyI, 202, .inl (upd g9_34 (Int32.toNatClampNeg l6) l3))), (a9_61, .inl (cyI, 2, .inl g9_61))] := hD
          refine lv_aload_n hx hb dX9_moves_332 rfl (lv_at hl 0 rfl) ?_
          refine va_get (D := (dC, dI)) (ci := 9) (v := .ref a9_34) (C := RX9) (T := TX9) (N := 62) hx hb hts i_X9_moves_X9 hown hK hP 0 rfl rfl 34 (by decide) k_3 (fun _ h9 => h9) rfl dX9_moves_333 ?_
          refine lv_iload hx hb dX9_moves_336 (lv_at hl 5 rfl) ?_
          refine lv_iconst (v := 1) hx hb dX9_moves_338 (by decide) ?_
          refine lv_iadd hx hb dX9_moves_339 ?_
          refine lv_iload_n hx hb dX9_moves_340 rfl (lv_at hl 1 rfl) ?_
          obtain ⟨g_16, hf⟩ := x_gu hf
          refine va_iast hx hb hK hP hD hS 1 0 rfl rfl (x_gdin g_16) dX9_moves_341 (fun H locs hP hD hS => ?_)
          have hP : va_P (dC, dI) vwCl [(o9, .inr (9, x_O9 v9_0 v9_1 v9_2 v9_3 a9_4 a9_5 a9_6 a9_7 a9_8 a9_9 a9_10 a9_11 a9_12 v9_13 v9_14 v9_15 v9_16 v9_17 v9_18 a9_19 v9_20 v9_21 v9_22 a9_23 a9_24 a9_25 a9_26 a9_27 a9_28 a9_29 a9_30 a9_31 a9_32 a9_33 a9_34 v9_35 v9_36 a9_37 a9_38 a9_39 a9_40 a9_41 v9_42 a9_43 a9_44 a9_45 a9_46 a9_47 v9_48 v9_49 v9_50 v9_51 a9_52 a9_53 v9_54 v9_55 a9_56 a9_57 v9_58 a9_59 a9_60 a9_61)), (a9_34, .inl (cyI, 202, .inl (upd (upd g9_34 (Int32.toNatClampNeg l6) l3) (Int32.toNatClampNeg (l6 + (1 : Int32))) l2))), (a9_61, .inl (cyI, 2, .inl g9_61))] H := hP
          have hD : va_D A [(o9, .inr (9, x_O9 v9_0 v9_1 v9_2 v9_3 a9_4 a9_5 a9_6 a9_7 a9_8 a9_9 a9_10 a9_11 a9_12 v9_13 v9_14 v9_15 v9_16 v9_17 v9_18 a9_19 v9_20 v9_21 v9_22 a9_23 a9_24 a9_25 a9_26 a9_27 a9_28 a9_29 a9_30 a9_31 a9_32 a9_33 a9_34 v9_35 v9_36 a9_37 a9_38 a9_39 a9_40 a9_41 v9_42 a9_43 a9_44 a9_45 a9_46 a9_47 v9_48 v9_49 v9_50 v9_51 a9_52 a9_53 v9_54 v9_55 a9_56 a9_57 v9_58 a9_59 a9_60 a9_61)), (a9_34, .inl (cyI, 202, .inl (upd (upd g9_34 (Int32.toNatClampNeg l6) l3) (Int32.toNatClampNeg (l6 + (1 : Int32))) l2))), (a9_61, .inl (cyI, 2, .inl g9_61))] := hD
          exact (hWW _ _ _ _ _).mpr ((ih (6, 0, l2, l3, l4, l5, l6, 0, upd (upd g9_34 (Int32.toNatClampNeg l6) l3) (Int32.toNatClampNeg (l6 + (1 : Int32))) l2, g9_61) _ hf rfl _ _ _ _ _ _ _ _ _ _ rfl).2.2.2.2.2.2.1 rfl H locs ls hP hD hS (lv_sub hl [0, 1, 2, 3, 4, 5] rfl))
        · replace hf := x_ip c_14 hf
          refine lv_aload_n hx hb dX9_moves_313 rfl (lv_at hl 0 rfl) ?_
          refine va_get (D := (dC, dI)) (ci := 9) (v := .ref a9_34) (C := RX9) (T := TX9) (N := 62) hx hb hts i_X9_moves_X9 hown hK hP 0 rfl rfl 34 (by decide) k_3 (fun _ h9 => h9) rfl dX9_moves_314 ?_
          refine lv_iload hx hb dX9_moves_317 (lv_at hl 5 rfl) ?_
          refine lv_iload_n hx hb dX9_moves_319 rfl (lv_at hl 1 rfl) ?_
          obtain ⟨g_17, hf⟩ := x_gu hf
          refine va_iast hx hb hK hP hD hS 1 0 rfl rfl (x_gdin g_17) dX9_moves_320 (fun H locs hP hD hS => ?_)
          have hP : va_P (dC, dI) vwCl [(o9, .inr (9, x_O9 v9_0 v9_1 v9_2 v9_3 a9_4 a9_5 a9_6 a9_7 a9_8 a9_9 a9_10 a9_11 a9_12 v9_13 v9_14 v9_15 v9_16 v9_17 v9_18 a9_19 v9_20 v9_21 v9_22 a9_23 a9_24 a9_25 a9_26 a9_27 a9_28 a9_29 a9_30 a9_31 a9_32 a9_33 a9_34 v9_35 v9_36 a9_37 a9_38 a9_39 a9_40 a9_41 v9_42 a9_43 a9_44 a9_45 a9_46 a9_47 v9_48 v9_49 v9_50 v9_51 a9_52 a9_53 v9_54 v9_55 a9_56 a9_57 v9_58 a9_59 a9_60 a9_61)), (a9_34, .inl (cyI, 202, .inl (upd g9_34 (Int32.toNatClampNeg l6) l2))), (a9_61, .inl (cyI, 2, .inl g9_61))] H := hP
          have hD : va_D A [(o9, .inr (9, x_O9 v9_0 v9_1 v9_2 v9_3 a9_4 a9_5 a9_6 a9_7 a9_8 a9_9 a9_10 a9_11 a9_12 v9_13 v9_14 v9_15 v9_16 v9_17 v9_18 a9_19 v9_20 v9_21 v9_22 a9_23 a9_24 a9_25 a9_26 a9_27 a9_28 a9_29 a9_30 a9_31 a9_32 a9_33 a9_34 v9_35 v9_36 a9_37 a9_38 a9_39 a9_40 a9_41 v9_42 a9_43 a9_44 a9_45 a9_46 a9_47 v9_48 v9_49 v9_50 v9_51 a9_52 a9_53 v9_54 v9_55 a9_56 a9_57 v9_58 a9_59 a9_60 a9_61)), (a9_34, .inl (cyI, 202, .inl (upd g9_34 (Int32.toNatClampNeg l6) l2))), (a9_61, .inl (cyI, 2, .inl g9_61))] := hD
          refine lv_goto (tgt := 342) hx hb dX9_moves_321 (by decide) ?_
          exact (hWW _ _ _ _ _).mpr ((ih (6, 0, l2, l3, l4, l5, l6, 0, upd g9_34 (Int32.toNatClampNeg l6) l2, g9_61) _ hf rfl _ _ _ _ _ _ _ _ _ _ rfl).2.2.2.2.2.2.1 rfl H locs ls hP hD hS (lv_sub hl [0, 1, 2, 3, 4, 5] rfl))
      · replace hf := x_in c_13 hf
        refine lv_aload_n hx hb dX9_moves_284 rfl (lv_at hl 0 rfl) ?_
        refine va_get (D := (dC, dI)) (ci := 9) (v := .ref a9_61) (C := RX9) (T := TX9) (N := 62) hx hb hts i_X9_moves_X9 hown hK hP 0 rfl rfl 61 (by decide) k_4 (fun _ h9 => h9) rfl dX9_moves_285 ?_
        refine lv_iload hx hb dX9_moves_288 (lv_at hl 6 rfl) ?_
        refine lv_aload_n hx hb dX9_moves_290 rfl (lv_at hl 0 rfl) ?_
        refine va_get (D := (dC, dI)) (ci := 9) (v := .ref a9_34) (C := RX9) (T := TX9) (N := 62) hx hb hts i_X9_moves_X9 hown hK hP 0 rfl rfl 34 (by decide) k_3 (fun _ h9 => h9) rfl dX9_moves_291 ?_
        refine lv_iload hx hb dX9_moves_294 (lv_at hl 5 rfl) ?_
        refine lv_iload hx hb dX9_moves_296 (lv_at hl 6 rfl) ?_
        refine lv_iadd hx hb dX9_moves_298 ?_
        obtain ⟨g_18, hf⟩ := x_gu hf
        refine va_iald hx hb hK hP 1 0 rfl rfl (x_gdin g_18) dX9_moves_299 ?_
        obtain ⟨g_19, hf⟩ := x_gu hf
        refine va_iast hx hb hK hP hD hS 2 0 rfl rfl (x_gdin g_19) dX9_moves_300 (fun H locs hP hD hS => ?_)
        have hP : va_P (dC, dI) vwCl [(o9, .inr (9, x_O9 v9_0 v9_1 v9_2 v9_3 a9_4 a9_5 a9_6 a9_7 a9_8 a9_9 a9_10 a9_11 a9_12 v9_13 v9_14 v9_15 v9_16 v9_17 v9_18 a9_19 v9_20 v9_21 v9_22 a9_23 a9_24 a9_25 a9_26 a9_27 a9_28 a9_29 a9_30 a9_31 a9_32 a9_33 a9_34 v9_35 v9_36 a9_37 a9_38 a9_39 a9_40 a9_41 v9_42 a9_43 a9_44 a9_45 a9_46 a9_47 v9_48 v9_49 v9_50 v9_51 a9_52 a9_53 v9_54 v9_55 a9_56 a9_57 v9_58 a9_59 a9_60 a9_61)), (a9_34, .inl (cyI, 202, .inl g9_34)), (a9_61, .inl (cyI, 2, .inl (upd g9_61 (Int32.toNatClampNeg l7) (g9_34 (Int32.toNatClampNeg (l6 + l7))))))] H := hP
        have hD : va_D A [(o9, .inr (9, x_O9 v9_0 v9_1 v9_2 v9_3 a9_4 a9_5 a9_6 a9_7 a9_8 a9_9 a9_10 a9_11 a9_12 v9_13 v9_14 v9_15 v9_16 v9_17 v9_18 a9_19 v9_20 v9_21 v9_22 a9_23 a9_24 a9_25 a9_26 a9_27 a9_28 a9_29 a9_30 a9_31 a9_32 a9_33 a9_34 v9_35 v9_36 a9_37 a9_38 a9_39 a9_40 a9_41 v9_42 a9_43 a9_44 a9_45 a9_46 a9_47 v9_48 v9_49 v9_50 v9_51 a9_52 a9_53 v9_54 v9_55 a9_56 a9_57 v9_58 a9_59 a9_60 a9_61)), (a9_34, .inl (cyI, 202, .inl g9_34)), (a9_61, .inl (cyI, 2, .inl (upd g9_61 (Int32.toNatClampNeg l7) (g9_34 (Int32.toNatClampNeg (l6 + l7))))))] := hD
        refine lv_iinc (v := (l7 + 1)) (lv' := [(7, .int (l7 + 1)), (0, .ref o9), (2, .int l2), (3, .int l3), (4, .int l4), (5, .int l5), (6, .int l6)]) hx hb dX9_moves_301 hl (k := 6) rfl rfl (by decide) rfl (fun ls hl => ?_)
        refine lv_goto (tgt := 277) hx hb dX9_moves_304 (by decide) ?_
        exact (hWW _ _ _ _ _).mpr ((ih (5, 0, l2, l3, l4, l5, l6, l7 + 1, g9_34, upd g9_61 (Int32.toNatClampNeg l7) (g9_34 (Int32.toNatClampNeg (l6 + l7)))) _ hf rfl _ _ _ _ _ _ _ _ _ _ rfl).2.2.2.2.2.1 rfl H locs ls hP hD hS (lv_sub hl [1, 2, 3, 4, 5, 6, 0] rfl))
    · intro hq H locs ls hP hD hS hl
      subst hq
      refine (hWW _ _ _ _ _).mp ?_
      replace hf := x_ip rfl (x_in (by decide) (x_in (by decide) (x_in (by decide) (x_in (by decide) (x_in (by decide) (x_in (by decide) hf))))))
      refine lv_iconst (v := 0) hx hb dX9_moves_342 (by decide) ?_
      refine lv_istore (lv' := [(7, .int 0), (0, .ref o9), (2, .int l2), (3, .int l3), (4, .int l4), (5, .int l5), (6, .int l6)]) hx hb dX9_moves_343 hl (by decide) rfl (fun ls hl => ?_)
      exact (hWW _ _ _ _ _).mpr ((ih (7, 0, l2, l3, l4, l5, l6, 0, g9_34, g9_61) _ hf rfl _ _ _ _ _ _ _ _ _ _ rfl).2.2.2.2.2.2.2.1 rfl H locs ls hP hD hS (lv_sub hl [1, 2, 3, 4, 5, 6, 0] rfl))
    · intro hq H locs ls hP hD hS hl
      subst hq
      refine (hWW _ _ _ _ _).mp ?_
      replace hf := x_ip rfl (x_in (by decide) (x_in (by decide) (x_in (by decide) (x_in (by decide) (x_in (by decide) (x_in (by decide) (x_in (by decide) hf)))))))
      refine lv_iload hx hb dX9_moves_345 (lv_at hl 6 rfl) ?_
      refine lv_iload hx hb dX9_moves_347 (lv_at hl 4 rfl) ?_
      refine lv_icmp_ge (tgt := 378) hx hb dX9_moves_349 (by decide) (fun c_20 => ?_) (fun c_20 => ?_)
      · replace hf := x_ip c_20 hf
        refine lv_iload hx hb dX9_moves_378 (lv_at hl 3 rfl) ?_
        refine lv_iconst (v := 1) hx hb dX9_moves_380 (by decide) ?_
        refine lv_icmp_ne (tgt := 400) hx hb dX9_moves_381 (by decide) (fun c_21 => ?_) (fun c_21 => ?_)
        · replace hf := x_in c_21 hf
          refine lv_aload_n hx hb dX9_moves_400 rfl (lv_at hl 0 rfl) ?_
          refine va_get (D := (dC, dI)) (ci := 9) (v := .ref a9_34) (C := RX9) (T := TX9) (N := 62) hx hb hts i_X9_moves_X9 hown hK hP 0 rfl rfl 34 (by decide) k_3 (fun _ h9 => h9) rfl dX9_moves_401 ?_
          refine lv_iload hx hb dX9_moves_404 (lv_at hl 5 rfl) ?_
          refine lv_iload hx hb dX9_moves_406 (lv_at hl 4 rfl) ?_
          refine lv_iadd hx hb dX9_moves_408 ?_
          refine lv_iconst (v := 2) hx hb dX9_moves_409 (by decide) ?_
          refine lv_iadd hx hb dX9_moves_410 ?_
          refine lv_iload_n hx hb dX9_moves_411 rfl (lv_at hl 2 rfl) ?_
          obtain ⟨g_22, hf⟩ := x_gu hf
          refine va_iast hx hb hK hP hD hS 1 0 rfl rfl (x_gdin g_22) dX9_moves_412 (fun H locs hP hD hS => ?_)
          have hP : va_P (dC, dI) vwCl [(o9, .inr (9, x_O9 v9_0 v9_1 v9_2 v9_3 a9_4 a9_5 a9_6 a9_7 a9_8 a9_9 a9_10 a9_11 a9_12 v9_13 v9_14 v9_15 v9_16 v9_17 v9_18 a9_19 v9_20 v9_21 v9_22 a9_23 a9_24 a9_25 a9_26 a9_27 a9_28 a9_29 a9_30 a9_31 a9_32 a9_33 a9_34 v9_35 v9_36 a9_37 a9_38 a9_39 a9_40 a9_41 v9_42 a9_43 a9_44 a9_45 a9_46 a9_47 v9_48 v9_49 v9_50 v9_51 a9_52 a9_53 v9_54 v9_55 a9_56 a9_57 v9_58 a9_59 a9_60 a9_61)), (a9_34, .inl (cyI, 202, .inl (upd g9_34 (Int32.toNatClampNeg ((l6 + l5) + (2 : Int32))) l3))), (a9_61, .inl (cyI, 2, .inl g9_61))] H := hP
          have hD : va_D A [(o9, .inr (9, x_O9 v9_0 v9_1 v9_2 v9_3 a9_4 a9_5 a9_6 a9_7 a9_8 a9_9 a9_10 a9_11 a9_12 v9_13 v9_14 v9_15 v9_16 v9_17 v9_18 a9_19 v9_20 v9_21 v9_22 a9_23 a9_24 a9_25 a9_26 a9_27 a9_28 a9_29 a9_30 a9_31 a9_32 a9_33 a9_34 v9_35 v9_36 a9_37 a9_38 a9_39 a9_40 a9_41 v9_42 a9_43 a9_44 a9_45 a9_46 a9_47 v9_48 v9_49 v9_50 v9_51 a9_52 a9_53 v9_54 v9_55 a9_56 a9_57 v9_58 a9_59 a9_60 a9_61)), (a9_34, .inl (cyI, 202, .inl (upd g9_34 (Int32.toNatClampNeg ((l6 + l5) + (2 : Int32))) l3))), (a9_61, .inl (cyI, 2, .inl g9_61))] := hD
          refine lv_aload_n hx hb dX9_moves_413 rfl (lv_at hl 0 rfl) ?_
          refine va_get (D := (dC, dI)) (ci := 9) (v := .ref a9_34) (C := RX9) (T := TX9) (N := 62) hx hb hts i_X9_moves_X9 hown hK hP 0 rfl rfl 34 (by decide) k_3 (fun _ h9 => h9) rfl dX9_moves_414 ?_
          refine lv_iload hx hb dX9_moves_417 (lv_at hl 5 rfl) ?_
          refine lv_iload hx hb dX9_moves_419 (lv_at hl 4 rfl) ?_
          refine lv_iadd hx hb dX9_moves_421 ?_
          refine lv_iconst (v := 3) hx hb dX9_moves_422 (by decide) ?_
          refine lv_iadd hx hb dX9_moves_423 ?_
          refine lv_iload_n hx hb dX9_moves_424 rfl (lv_at hl 1 rfl) ?_
          obtain ⟨g_23, hf⟩ := x_gu hf
          refine va_iast hx hb hK hP hD hS 1 0 rfl rfl (x_gdin g_23) dX9_moves_425 (fun H locs hP hD hS => ?_)
          have hP : va_P (dC, dI) vwCl [(o9, .inr (9, x_O9 v9_0 v9_1 v9_2 v9_3 a9_4 a9_5 a9_6 a9_7 a9_8 a9_9 a9_10 a9_11 a9_12 v9_13 v9_14 v9_15 v9_16 v9_17 v9_18 a9_19 v9_20 v9_21 v9_22 a9_23 a9_24 a9_25 a9_26 a9_27 a9_28 a9_29 a9_30 a9_31 a9_32 a9_33 a9_34 v9_35 v9_36 a9_37 a9_38 a9_39 a9_40 a9_41 v9_42 a9_43 a9_44 a9_45 a9_46 a9_47 v9_48 v9_49 v9_50 v9_51 a9_52 a9_53 v9_54 v9_55 a9_56 a9_57 v9_58 a9_59 a9_60 a9_61)), (a9_34, .inl (cyI, 202, .inl (upd (upd g9_34 (Int32.toNatClampNeg ((l6 + l5) + (2 : Int32))) l3) (Int32.toNatClampNeg ((l6 + l5) + (3 : Int32))) l2))), (a9_61, .inl (cyI, 2, .inl g9_61))] H := hP
          have hD : va_D A [(o9, .inr (9, x_O9 v9_0 v9_1 v9_2 v9_3 a9_4 a9_5 a9_6 a9_7 a9_8 a9_9 a9_10 a9_11 a9_12 v9_13 v9_14 v9_15 v9_16 v9_17 v9_18 a9_19 v9_20 v9_21 v9_22 a9_23 a9_24 a9_25 a9_26 a9_27 a9_28 a9_29 a9_30 a9_31 a9_32 a9_33 a9_34 v9_35 v9_36 a9_37 a9_38 a9_39 a9_40 a9_41 v9_42 a9_43 a9_44 a9_45 a9_46 a9_47 v9_48 v9_49 v9_50 v9_51 a9_52 a9_53 v9_54 v9_55 a9_56 a9_57 v9_58 a9_59 a9_60 a9_61)), (a9_34, .inl (cyI, 202, .inl (upd (upd g9_34 (Int32.toNatClampNeg ((l6 + l5) + (2 : Int32))) l3) (Int32.toNatClampNeg ((l6 + l5) + (3 : Int32))) l2))), (a9_61, .inl (cyI, 2, .inl g9_61))] := hD
          exact (hWW _ _ _ _ _).mpr ((ih (8, 0, 0, 0, l4, 0, 0, 0, upd (upd g9_34 (Int32.toNatClampNeg ((l6 + l5) + (2 : Int32))) l3) (Int32.toNatClampNeg ((l6 + l5) + (3 : Int32))) l2, g9_61) _ hf rfl _ _ _ _ _ _ _ _ _ _ rfl).2.2.2.2.2.2.2.2 rfl H locs ls hP hD hS (lv_sub hl [0, 3] rfl))
        · replace hf := x_ip c_21 hf
          refine lv_aload_n hx hb dX9_moves_384 rfl (lv_at hl 0 rfl) ?_
          refine va_get (D := (dC, dI)) (ci := 9) (v := .ref a9_34) (C := RX9) (T := TX9) (N := 62) hx hb hts i_X9_moves_X9 hown hK hP 0 rfl rfl 34 (by decide) k_3 (fun _ h9 => h9) rfl dX9_moves_385 ?_
          refine lv_iload hx hb dX9_moves_388 (lv_at hl 5 rfl) ?_
          refine lv_iload hx hb dX9_moves_390 (lv_at hl 4 rfl) ?_
          refine lv_iadd hx hb dX9_moves_392 ?_
          refine lv_iconst (v := 1) hx hb dX9_moves_393 (by decide) ?_
          refine lv_iadd hx hb dX9_moves_394 ?_
          refine lv_iload_n hx hb dX9_moves_395 rfl (lv_at hl 1 rfl) ?_
          obtain ⟨g_24, hf⟩ := x_gu hf
          refine va_iast hx hb hK hP hD hS 1 0 rfl rfl (x_gdin g_24) dX9_moves_396 (fun H locs hP hD hS => ?_)
          have hP : va_P (dC, dI) vwCl [(o9, .inr (9, x_O9 v9_0 v9_1 v9_2 v9_3 a9_4 a9_5 a9_6 a9_7 a9_8 a9_9 a9_10 a9_11 a9_12 v9_13 v9_14 v9_15 v9_16 v9_17 v9_18 a9_19 v9_20 v9_21 v9_22 a9_23 a9_24 a9_25 a9_26 a9_27 a9_28 a9_29 a9_30 a9_31 a9_32 a9_33 a9_34 v9_35 v9_36 a9_37 a9_38 a9_39 a9_40 a9_41 v9_42 a9_43 a9_44 a9_45 a9_46 a9_47 v9_48 v9_49 v9_50 v9_51 a9_52 a9_53 v9_54 v9_55 a9_56 a9_57 v9_58 a9_59 a9_60 a9_61)), (a9_34, .inl (cyI, 202, .inl (upd g9_34 (Int32.toNatClampNeg ((l6 + l5) + (1 : Int32))) l2))), (a9_61, .inl (cyI, 2, .inl g9_61))] H := hP
          have hD : va_D A [(o9, .inr (9, x_O9 v9_0 v9_1 v9_2 v9_3 a9_4 a9_5 a9_6 a9_7 a9_8 a9_9 a9_10 a9_11 a9_12 v9_13 v9_14 v9_15 v9_16 v9_17 v9_18 a9_19 v9_20 v9_21 v9_22 a9_23 a9_24 a9_25 a9_26 a9_27 a9_28 a9_29 a9_30 a9_31 a9_32 a9_33 a9_34 v9_35 v9_36 a9_37 a9_38 a9_39 a9_40 a9_41 v9_42 a9_43 a9_44 a9_45 a9_46 a9_47 v9_48 v9_49 v9_50 v9_51 a9_52 a9_53 v9_54 v9_55 a9_56 a9_57 v9_58 a9_59 a9_60 a9_61)), (a9_34, .inl (cyI, 202, .inl (upd g9_34 (Int32.toNatClampNeg ((l6 + l5) + (1 : Int32))) l2))), (a9_61, .inl (cyI, 2, .inl g9_61))] := hD
          refine lv_goto (tgt := 426) hx hb dX9_moves_397 (by decide) ?_
          exact (hWW _ _ _ _ _).mpr ((ih (8, 0, 0, 0, l4, 0, 0, 0, upd g9_34 (Int32.toNatClampNeg ((l6 + l5) + (1 : Int32))) l2, g9_61) _ hf rfl _ _ _ _ _ _ _ _ _ _ rfl).2.2.2.2.2.2.2.2 rfl H locs ls hP hD hS (lv_sub hl [0, 3] rfl))
      · replace hf := x_in c_20 hf
        refine lv_aload_n hx hb dX9_moves_352 rfl (lv_at hl 0 rfl) ?_
        refine va_get (D := (dC, dI)) (ci := 9) (v := .ref a9_34) (C := RX9) (T := TX9) (N := 62) hx hb hts i_X9_moves_X9 hown hK hP 0 rfl rfl 34 (by decide) k_3 (fun _ h9 => h9) rfl dX9_moves_353 ?_
        refine lv_iload hx hb dX9_moves_356 (lv_at hl 5 rfl) ?_
        refine lv_iload hx hb dX9_moves_358 (lv_at hl 3 rfl) ?_
        refine lv_iadd hx hb dX9_moves_360 ?_
        refine lv_iload hx hb dX9_moves_361 (lv_at hl 6 rfl) ?_
        refine lv_iadd hx hb dX9_moves_363 ?_
        refine lv_aload_n hx hb dX9_moves_364 rfl (lv_at hl 0 rfl) ?_
        refine va_get (D := (dC, dI)) (ci := 9) (v := .ref a9_61) (C := RX9) (T := TX9) (N := 62) hx hb hts i_X9_moves_X9 hown hK hP 0 rfl rfl 61 (by decide) k_4 (fun _ h9 => h9) rfl dX9_moves_365 ?_
        refine lv_iload hx hb dX9_moves_368 (lv_at hl 6 rfl) ?_
        obtain ⟨g_25, hf⟩ := x_gu hf
        refine va_iald hx hb hK hP 2 0 rfl rfl (x_gdin g_25) dX9_moves_370 ?_
        obtain ⟨g_26, hf⟩ := x_gu hf
        refine va_iast hx hb hK hP hD hS 1 0 rfl rfl (x_gdin g_26) dX9_moves_371 (fun H locs hP hD hS => ?_)
        have hP : va_P (dC, dI) vwCl [(o9, .inr (9, x_O9 v9_0 v9_1 v9_2 v9_3 a9_4 a9_5 a9_6 a9_7 a9_8 a9_9 a9_10 a9_11 a9_12 v9_13 v9_14 v9_15 v9_16 v9_17 v9_18 a9_19 v9_20 v9_21 v9_22 a9_23 a9_24 a9_25 a9_26 a9_27 a9_28 a9_29 a9_30 a9_31 a9_32 a9_33 a9_34 v9_35 v9_36 a9_37 a9_38 a9_39 a9_40 a9_41 v9_42 a9_43 a9_44 a9_45 a9_46 a9_47 v9_48 v9_49 v9_50 v9_51 a9_52 a9_53 v9_54 v9_55 a9_56 a9_57 v9_58 a9_59 a9_60 a9_61)), (a9_34, .inl (cyI, 202, .inl (upd g9_34 (Int32.toNatClampNeg ((l6 + l4) + l7)) (g9_61 (Int32.toNatClampNeg l7))))), (a9_61, .inl (cyI, 2, .inl g9_61))] H := hP
        have hD : va_D A [(o9, .inr (9, x_O9 v9_0 v9_1 v9_2 v9_3 a9_4 a9_5 a9_6 a9_7 a9_8 a9_9 a9_10 a9_11 a9_12 v9_13 v9_14 v9_15 v9_16 v9_17 v9_18 a9_19 v9_20 v9_21 v9_22 a9_23 a9_24 a9_25 a9_26 a9_27 a9_28 a9_29 a9_30 a9_31 a9_32 a9_33 a9_34 v9_35 v9_36 a9_37 a9_38 a9_39 a9_40 a9_41 v9_42 a9_43 a9_44 a9_45 a9_46 a9_47 v9_48 v9_49 v9_50 v9_51 a9_52 a9_53 v9_54 v9_55 a9_56 a9_57 v9_58 a9_59 a9_60 a9_61)), (a9_34, .inl (cyI, 202, .inl (upd g9_34 (Int32.toNatClampNeg ((l6 + l4) + l7)) (g9_61 (Int32.toNatClampNeg l7))))), (a9_61, .inl (cyI, 2, .inl g9_61))] := hD
        refine lv_iinc (v := (l7 + 1)) (lv' := [(7, .int (l7 + 1)), (0, .ref o9), (2, .int l2), (3, .int l3), (4, .int l4), (5, .int l5), (6, .int l6)]) hx hb dX9_moves_372 hl (k := 6) rfl rfl (by decide) rfl (fun ls hl => ?_)
        refine lv_goto (tgt := 345) hx hb dX9_moves_375 (by decide) ?_
        exact (hWW _ _ _ _ _).mpr ((ih (7, 0, l2, l3, l4, l5, l6, l7 + 1, upd g9_34 (Int32.toNatClampNeg ((l6 + l4) + l7)) (g9_61 (Int32.toNatClampNeg l7)), g9_61) _ hf rfl _ _ _ _ _ _ _ _ _ _ rfl).2.2.2.2.2.2.2.1 rfl H locs ls hP hD hS (lv_sub hl [1, 2, 3, 4, 5, 6, 0] rfl))
    · intro hq H locs ls hP hD hS hl
      subst hq
      refine (hWW _ _ _ _ _).mp ?_
      replace hf := x_ip rfl (x_in (by decide) (x_in (by decide) (x_in (by decide) (x_in (by decide) (x_in (by decide) (x_in (by decide) (x_in (by decide) (x_in (by decide) hf))))))))
      refine lv_aload_n hx hb dX9_moves_426 rfl (lv_at hl 0 rfl) ?_
      refine lv_dup hx hb dX9_moves_427 rfl ?_
      refine va_get (D := (dC, dI)) (ci := 9) (v := .int v9_35) (C := RX9) (T := TX9) (N := 62) hx hb hts i_X9_moves_X9 hown hK hP 0 rfl rfl 35 (by decide) k_1 (fun _ h9 => h9) rfl dX9_moves_428 ?_
      refine lv_iload hx hb dX9_moves_431 (lv_at hl 1 rfl) ?_
      refine lv_iadd hx hb dX9_moves_433 ?_
      refine va_put (D := (dC, dI)) (ci := 9) (v := .int (v9_35 + l4)) (ty := .int) (C := RX9) (T := TX9) (N := 62) hx hb hts i_X9_moves_X9 tyX9 tyX9_ok nmX9 hown hK hP hD hS 0 rfl rfl 35 (by decide) k_1 (fun _ h9 => h9) rfl (by decide +kernel) rfl rfl (Nat.le_of_ble_eq_true rfl) dX9_moves_434 (fun H locs hP hD hS => ?_)
      have hP : va_P (dC, dI) vwCl [(o9, .inr (9, x_O9 v9_0 v9_1 v9_2 v9_3 a9_4 a9_5 a9_6 a9_7 a9_8 a9_9 a9_10 a9_11 a9_12 v9_13 v9_14 v9_15 v9_16 v9_17 v9_18 a9_19 v9_20 v9_21 v9_22 a9_23 a9_24 a9_25 a9_26 a9_27 a9_28 a9_29 a9_30 a9_31 a9_32 a9_33 a9_34 (v9_35 + l4) v9_36 a9_37 a9_38 a9_39 a9_40 a9_41 v9_42 a9_43 a9_44 a9_45 a9_46 a9_47 v9_48 v9_49 v9_50 v9_51 a9_52 a9_53 v9_54 v9_55 a9_56 a9_57 v9_58 a9_59 a9_60 a9_61)), (a9_34, .inl (cyI, 202, .inl g9_34)), (a9_61, .inl (cyI, 2, .inl g9_61))] H := hP
      have hD : va_D A [(o9, .inr (9, x_O9 v9_0 v9_1 v9_2 v9_3 a9_4 a9_5 a9_6 a9_7 a9_8 a9_9 a9_10 a9_11 a9_12 v9_13 v9_14 v9_15 v9_16 v9_17 v9_18 a9_19 v9_20 v9_21 v9_22 a9_23 a9_24 a9_25 a9_26 a9_27 a9_28 a9_29 a9_30 a9_31 a9_32 a9_33 a9_34 (v9_35 + l4) v9_36 a9_37 a9_38 a9_39 a9_40 a9_41 v9_42 a9_43 a9_44 a9_45 a9_46 a9_47 v9_48 v9_49 v9_50 v9_51 a9_52 a9_53 v9_54 v9_55 a9_56 a9_57 v9_58 a9_59 a9_60 a9_61)), (a9_34, .inl (cyI, 202, .inl g9_34)), (a9_61, .inl (cyI, 2, .inl g9_61))] := hD
      refine lv_iconst (v := 1) hx hb dX9_moves_437 (by decide) ?_
      obtain rfl := Option.some.inj hf
      have hP9 := hP.sub (ws' := [(o9, .inr (9, x_O9 v9_0 v9_1 v9_2 v9_3 a9_4 a9_5 a9_6 a9_7 a9_8 a9_9 a9_10 a9_11 a9_12 v9_13 v9_14 v9_15 v9_16 v9_17 v9_18 a9_19 v9_20 v9_21 v9_22 a9_23 a9_24 a9_25 a9_26 a9_27 a9_28 a9_29 a9_30 a9_31 a9_32 a9_33 a9_34 (v9_35 + l4) v9_36 a9_37 a9_38 a9_39 a9_40 a9_41 v9_42 a9_43 a9_44 a9_45 a9_46 a9_47 v9_48 v9_49 v9_50 v9_51 a9_52 a9_53 v9_54 v9_55 a9_56 a9_57 v9_58 a9_59 a9_60 a9_61)), (a9_34, .inl (cyI, 202, .inl g9_34)), (a9_61, .inl (cyI, 2, .inl g9_61))]) [0, 1, 2] rfl
      have hD9 := hD.sub (ws' := [(o9, .inr (9, x_O9 v9_0 v9_1 v9_2 v9_3 a9_4 a9_5 a9_6 a9_7 a9_8 a9_9 a9_10 a9_11 a9_12 v9_13 v9_14 v9_15 v9_16 v9_17 v9_18 a9_19 v9_20 v9_21 v9_22 a9_23 a9_24 a9_25 a9_26 a9_27 a9_28 a9_29 a9_30 a9_31 a9_32 a9_33 a9_34 (v9_35 + l4) v9_36 a9_37 a9_38 a9_39 a9_40 a9_41 v9_42 a9_43 a9_44 a9_45 a9_46 a9_47 v9_48 v9_49 v9_50 v9_51 a9_52 a9_53 v9_54 v9_55 a9_56 a9_57 v9_58 a9_59 a9_60 a9_61)), (a9_34, .inl (cyI, 202, .inl g9_34)), (a9_61, .inl (cyI, 2, .inl g9_61))]) [0, 1, 2] (by decide) rfl
      exact W.zret (ty := .boolean) hx hb hr rfl (fun t ht hW => ⟨⟨_, (), rfl, ⟨rfl, rfl⟩, by rw [ht]; exact hP9, va_K.moved hW.alike hK, hD9⟩, hS.F ht⟩) hS.2.2 dX9_moves_438)
  refine lv_aload_n hx hb dX9_moves_0 rfl (lv_at hl 0 rfl) ?_
  refine va_get (D := (dC, dI)) (ci := 9) (v := .int v9_35) (C := RX9) (T := TX9) (N := 62) hx hb hts i_X9_moves_X9 hown hK hP 0 rfl rfl 35 (by decide) k_1 (fun _ h9 => h9) rfl dX9_moves_1 ?_
  refine lv_if_le (tgt := 21) hx hb dX9_moves_4 (by decide) (fun c_27 => ?_) (fun c_27 => ?_)
  · replace hf := x_ip c_27 hf
    refine lv_iconst (v := 0) hx hb dX9_moves_21 (by decide) ?_
    refine lv_istore_n (lv' := [(2, .int 0), (0, .ref o9), (1, .int p1)]) hx hb dX9_moves_22 rfl hl (by decide) rfl (fun ls hl => ?_)
    refine lv_aload_n hx hb dX9_moves_23 rfl (lv_at hl 1 rfl) ?_
    refine va_get (D := (dC, dI)) (ci := 9) (v := .int v9_35) (C := RX9) (T := TX9) (N := 62) hx hb hts i_X9_moves_X9 hown hK hP 0 rfl rfl 35 (by decide) k_1 (fun _ h9 => h9) rfl dX9_moves_24 ?_
    refine lv_iconst (v := 1) hx hb dX9_moves_27 (by decide) ?_
    refine lv_icmp_le (tgt := 45) hx hb dX9_moves_28 (by decide) (fun c_28 => ?_) (fun c_28 => ?_)
    · replace hf := x_ip c_28 hf
      refine lv_iconst (v := 0) hx hb dX9_moves_45 (by decide) ?_
      refine lv_istore_n (lv' := [(3, .int 0), (2, .int 0), (0, .ref o9), (1, .int p1)]) hx hb dX9_moves_46 rfl hl (by decide) rfl (fun ls hl => ?_)
      refine lv_iload_n hx hb dX9_moves_47 rfl (lv_at hl 3 rfl) ?_
      refine lv_bipush (v := 87) hx hb dX9_moves_48 (by decide) ?_
      refine lv_icmp_eq (tgt := 59) hx hb dX9_moves_50 (by decide) (fun c_29 => ?_) (fun c_29 => ?_)
      · replace hf := x_ip c_29 hf
        exact (hWW _ _ _ _ _).mpr ((J v9_35 (0, p1, 0, 0, 0, 0, 0, 0, g9_34, g9_61) _ hf rfl _ _ _ _ _ _ _ _ _ _ rfl).1 rfl H locs ls hP hD hS (lv_sub hl [2, 3] rfl))
      · replace hf := x_in c_29 hf
        refine lv_iload_n hx hb dX9_moves_53 rfl (lv_at hl 3 rfl) ?_
        refine lv_bipush (v := 88) hx hb dX9_moves_54 (by decide) ?_
        refine lv_icmp_ne (tgt := 101) hx hb dX9_moves_56 (by decide) (fun c_30 => ?_) (fun c_30 => ?_)
        · replace hf := x_in c_30 hf
          refine lv_iload_n hx hb dX9_moves_101 rfl (lv_at hl 3 rfl) ?_
          refine lv_bipush (v := 95) hx hb dX9_moves_102 (by decide) ?_
          refine lv_icmp_ne (tgt := 151) hx hb dX9_moves_104 (by decide) (fun c_31 => ?_) (fun c_31 => ?_)
          · replace hf := x_in c_31 hf
            refine lv_iload_n hx hb dX9_moves_151 rfl (lv_at hl 3 rfl) ?_
            refine lv_bipush (v := 91) hx hb dX9_moves_152 (by decide) ?_
            refine lv_icmp_gt (tgt := 161) hx hb dX9_moves_154 (by decide) (fun c_32 => ?_) (fun c_32 => ?_)
            · replace hf := x_ip c_32 hf
              refine lv_iconst (v := 2) hx hb dX9_moves_161 (by decide) ?_
              refine lv_istore (lv' := [(4, .int 2), (3, .int 0), (2, .int 0), (0, .ref o9), (1, .int p1)]) hx hb dX9_moves_162 hl (by decide) rfl (fun ls hl => ?_)
              refine lv_iload_n hx hb dX9_moves_164 rfl (lv_at hl 4 rfl) ?_
              refine lv_bipush (v := 91) hx hb dX9_moves_165 (by decide) ?_
              refine lv_icmp_gt (tgt := 177) hx hb dX9_moves_167 (by decide) (fun c_33 => ?_) (fun c_33 => ?_)
              · replace hf := x_ip c_33 hf
                refine lv_iload_n hx hb dX9_moves_177 rfl (lv_at hl 4 rfl) ?_
                refine lv_bipush (v := 92) hx hb dX9_moves_178 (by decide) ?_
                refine lv_isub hx hb dX9_moves_180 ?_
                refine lv_istore (lv' := [(5, .int (p1 - (92 : Int32))), (4, .int 2), (3, .int 0), (2, .int 0), (0, .ref o9), (1, .int p1)]) hx hb dX9_moves_181 hl (by decide) rfl (fun ls hl => ?_)
                refine lv_iload hx hb dX9_moves_183 (lv_at hl 1 rfl) ?_
                refine lv_iconst (v := 1) hx hb dX9_moves_185 (by decide) ?_
                refine lv_icmp_ne (tgt := 200) hx hb dX9_moves_186 (by decide) (fun _ => ?_) (fun c_34 => absurd c_34 (by decide))
                refine lv_aload_n hx hb dX9_moves_200 rfl (lv_at hl 4 rfl) ?_
                refine lv_iconst (v := 2) hx hb dX9_moves_201 (by decide) ?_
                obtain ⟨r_35, h_35, hf⟩ := x_bi hf
                have hPc := hP.sub (ws' := [(o9, .inr (9, x_O9 v9_0 v9_1 v9_2 v9_3 a9_4 a9_5 a9_6 a9_7 a9_8 a9_9 a9_10 a9_11 a9_12 v9_13 v9_14 v9_15 v9_16 v9_17 v9_18 a9_19 v9_20 v9_21 v9_22 a9_23 a9_24 a9_25 a9_26 a9_27 a9_28 a9_29 a9_30 a9_31 a9_32 a9_33 a9_34 v9_35 v9_36 a9_37 a9_38 a9_39 a9_40 a9_41 v9_42 a9_43 a9_44 a9_45 a9_46 a9_47 v9_48 v9_49 v9_50 v9_51 a9_52 a9_53 v9_54 v9_55 a9_56 a9_57 v9_58 a9_59 a9_60 a9_61)), (a9_34, .inl (cyI, 202, .inl g9_34))]) [0, 1] rfl
                refine va_calli (va_runV (As := [.int 2]) (rest := []) ⟨hx, hb, hml, hown, hts⟩ (c_X9_pair l dC dI cyI cyZ cyJ H.size o9 v9_0 v9_1 v9_2 v9_3 a9_4 a9_5 a9_6 a9_7 a9_8 a9_9 a9_10 a9_11 a9_12 v9_13 v9_14 v9_15 v9_16 v9_17 v9_18 a9_19 v9_20 v9_21 v9_22 a9_23 a9_24 a9_25 a9_26 a9_27 a9_28 a9_29 a9_30 a9_31 a9_32 a9_33 a9_34 v9_35 v9_36 a9_37 a9_38 a9_39 a9_40 a9_41 v9_42 a9_43 a9_44 a9_45 a9_46 a9_47 v9_48 v9_49 v9_50 v9_51 a9_52 a9_53 v9_54 v9_55 a9_56 a9_57 v9_58 a9_59 a9_60 a9_61 g9_34 2 r_35 h_35) (cwV 1 hts gX9_moves_X9_pair rfl rfl rfl (by decide +kernel) ⟨Nat.le_of_ble_eq_true rfl, Nat.le_of_ble_eq_true rfl⟩) (x_pV hN hK hPc (ci := 9) (q0 := 0) rfl rfl) rfl rfl hl.1 rfl (lv_room (Nat.le_of_ble_eq_true rfl)) dX9_moves_202 ⟨Nat.le_of_ble_eq_true rfl, Nat.le_of_ble_eq_true rfl⟩) hS x_nA (x_nf hA hS) (fun q_35 u t H1 locs ht hvm hw hB hz1 hk1 hS => ?_)
                have hP := x_kp hP hk1
                clear ht hvm hB hz1 hk1 t u hPc
                generalize H1 = H at hP hS ⊢
                obtain ⟨hw, b_35⟩ := hw
                obtain rfl := hw.symm
                refine lv_if_ne (tgt := 210) hx hb dX9_moves_205 (by decide) (fun c_36 => ?_) (fun c_36 => ?_)
                · replace hf := x_in c_36 hf
                  exact (hWW _ _ _ _ _).mpr ((J v9_35 (2, 0, 0, 0, 2, p1 - (92 : Int32), 0, 0, g9_34, g9_61) _ hf rfl _ _ _ _ _ _ _ _ _ _ rfl).2.2.1 rfl H locs ls hP hD hS (lv_sub hl [4, 3, 2, 1, 0] rfl))
                · replace hf := x_ip c_36 hf
                  refine lv_iconst (v := 0) hx hb dX9_moves_208 (by decide) ?_
                  obtain rfl := Option.some.inj hf
                  have hP9 := hP.sub (ws' := [(o9, .inr (9, x_O9 v9_0 v9_1 v9_2 v9_3 a9_4 a9_5 a9_6 a9_7 a9_8 a9_9 a9_10 a9_11 a9_12 v9_13 v9_14 v9_15 v9_16 v9_17 v9_18 a9_19 v9_20 v9_21 v9_22 a9_23 a9_24 a9_25 a9_26 a9_27 a9_28 a9_29 a9_30 a9_31 a9_32 a9_33 a9_34 v9_35 v9_36 a9_37 a9_38 a9_39 a9_40 a9_41 v9_42 a9_43 a9_44 a9_45 a9_46 a9_47 v9_48 v9_49 v9_50 v9_51 a9_52 a9_53 v9_54 v9_55 a9_56 a9_57 v9_58 a9_59 a9_60 a9_61)), (a9_34, .inl (cyI, 202, .inl g9_34)), (a9_61, .inl (cyI, 2, .inl g9_61))]) [0, 1, 2] rfl
                  have hD9 := hD.sub (ws' := [(o9, .inr (9, x_O9 v9_0 v9_1 v9_2 v9_3 a9_4 a9_5 a9_6 a9_7 a9_8 a9_9 a9_10 a9_11 a9_12 v9_13 v9_14 v9_15 v9_16 v9_17 v9_18 a9_19 v9_20 v9_21 v9_22 a9_23 a9_24 a9_25 a9_26 a9_27 a9_28 a9_29 a9_30 a9_31 a9_32 a9_33 a9_34 v9_35 v9_36 a9_37 a9_38 a9_39 a9_40 a9_41 v9_42 a9_43 a9_44 a9_45 a9_46 a9_47 v9_48 v9_49 v9_50 v9_51 a9_52 a9_53 v9_54 v9_55 a9_56 a9_57 v9_58 a9_59 a9_60 a9_61)), (a9_34, .inl (cyI, 202, .inl g9_34)), (a9_61, .inl (cyI, 2, .inl g9_61))]) [0, 1, 2] (by decide) rfl
                  exact W.zret (ty := .boolean) hx hb hr rfl (fun t ht hW => ⟨⟨_, (), rfl, ⟨rfl, rfl⟩, by rw [ht]; exact hP9, va_K.moved hW.alike hK, hD9⟩, hS.F ht⟩) hS.2.2 dX9_moves_209
              · replace hf := x_in c_33 hf
                refine lv_iload_n hx hb dX9_moves_170 rfl (lv_at hl 4 rfl) ?_
                refine lv_bipush (v := 89) hx hb dX9_moves_171 (by decide) ?_
                refine lv_isub hx hb dX9_moves_173 ?_
                refine lv_goto (tgt := 181) hx hb dX9_moves_174 (by decide) ?_
                refine lv_istore (lv' := [(5, .int (p1 - (89 : Int32))), (4, .int 2), (3, .int 0), (2, .int 0), (0, .ref o9), (1, .int p1)]) hx hb dX9_moves_181 hl (by decide) rfl (fun ls hl => ?_)
                refine lv_iload hx hb dX9_moves_183 (lv_at hl 1 rfl) ?_
                refine lv_iconst (v := 1) hx hb dX9_moves_185 (by decide) ?_
                refine lv_icmp_ne (tgt := 200) hx hb dX9_moves_186 (by decide) (fun _ => ?_) (fun c_37 => absurd c_37 (by decide))
                refine lv_aload_n hx hb dX9_moves_200 rfl (lv_at hl 4 rfl) ?_
                refine lv_iconst (v := 2) hx hb dX9_moves_201 (by decide) ?_
                obtain ⟨r_38, h_38, hf⟩ := x_bi hf
                have hPc := hP.sub (ws' := [(o9, .inr (9, x_O9 v9_0 v9_1 v9_2 v9_3 a9_4 a9_5 a9_6 a9_7 a9_8 a9_9 a9_10 a9_11 a9_12 v9_13 v9_14 v9_15 v9_16 v9_17 v9_18 a9_19 v9_20 v9_21 v9_22 a9_23 a9_24 a9_25 a9_26 a9_27 a9_28 a9_29 a9_30 a9_31 a9_32 a9_33 a9_34 v9_35 v9_36 a9_37 a9_38 a9_39 a9_40 a9_41 v9_42 a9_43 a9_44 a9_45 a9_46 a9_47 v9_48 v9_49 v9_50 v9_51 a9_52 a9_53 v9_54 v9_55 a9_56 a9_57 v9_58 a9_59 a9_60 a9_61)), (a9_34, .inl (cyI, 202, .inl g9_34))]) [0, 1] rfl
                refine va_calli (va_runV (As := [.int 2]) (rest := []) ⟨hx, hb, hml, hown, hts⟩ (c_X9_pair l dC dI cyI cyZ cyJ H.size o9 v9_0 v9_1 v9_2 v9_3 a9_4 a9_5 a9_6 a9_7 a9_8 a9_9 a9_10 a9_11 a9_12 v9_13 v9_14 v9_15 v9_16 v9_17 v9_18 a9_19 v9_20 v9_21 v9_22 a9_23 a9_24 a9_25 a9_26 a9_27 a9_28 a9_29 a9_30 a9_31 a9_32 a9_33 a9_34 v9_35 v9_36 a9_37 a9_38 a9_39 a9_40 a9_41 v9_42 a9_43 a9_44 a9_45 a9_46 a9_47 v9_48 v9_49 v9_50 v9_51 a9_52 a9_53 v9_54 v9_55 a9_56 a9_57 v9_58 a9_59 a9_60 a9_61 g9_34 2 r_38 h_38) (cwV 1 hts gX9_moves_X9_pair rfl rfl rfl (by decide +kernel) ⟨Nat.le_of_ble_eq_true rfl, Nat.le_of_ble_eq_true rfl⟩) (x_pV hN hK hPc (ci := 9) (q0 := 0) rfl rfl) rfl rfl hl.1 rfl (lv_room (Nat.le_of_ble_eq_true rfl)) dX9_moves_202 ⟨Nat.le_of_ble_eq_true rfl, Nat.le_of_ble_eq_true rfl⟩) hS x_nA (x_nf hA hS) (fun q_38 u t H1 locs ht hvm hw hB hz1 hk1 hS => ?_)
                have hP := x_kp hP hk1
                clear ht hvm hB hz1 hk1 t u hPc
                generalize H1 = H at hP hS ⊢
                obtain ⟨hw, b_38⟩ := hw
                obtain rfl := hw.symm
                refine lv_if_ne (tgt := 210) hx hb dX9_moves_205 (by decide) (fun c_39 => ?_) (fun c_39 => ?_)
                · replace hf := x_in c_39 hf
                  exact (hWW _ _ _ _ _).mpr ((J v9_35 (2, 0, 0, 0, 2, p1 - (89 : Int32), 0, 0, g9_34, g9_61) _ hf rfl _ _ _ _ _ _ _ _ _ _ rfl).2.2.1 rfl H locs ls hP hD hS (lv_sub hl [4, 3, 2, 1, 0] rfl))
                · replace hf := x_ip c_39 hf
                  refine lv_iconst (v := 0) hx hb dX9_moves_208 (by decide) ?_
                  obtain rfl := Option.some.inj hf
                  have hP9 := hP.sub (ws' := [(o9, .inr (9, x_O9 v9_0 v9_1 v9_2 v9_3 a9_4 a9_5 a9_6 a9_7 a9_8 a9_9 a9_10 a9_11 a9_12 v9_13 v9_14 v9_15 v9_16 v9_17 v9_18 a9_19 v9_20 v9_21 v9_22 a9_23 a9_24 a9_25 a9_26 a9_27 a9_28 a9_29 a9_30 a9_31 a9_32 a9_33 a9_34 v9_35 v9_36 a9_37 a9_38 a9_39 a9_40 a9_41 v9_42 a9_43 a9_44 a9_45 a9_46 a9_47 v9_48 v9_49 v9_50 v9_51 a9_52 a9_53 v9_54 v9_55 a9_56 a9_57 v9_58 a9_59 a9_60 a9_61)), (a9_34, .inl (cyI, 202, .inl g9_34)), (a9_61, .inl (cyI, 2, .inl g9_61))]) [0, 1, 2] rfl
                  have hD9 := hD.sub (ws' := [(o9, .inr (9, x_O9 v9_0 v9_1 v9_2 v9_3 a9_4 a9_5 a9_6 a9_7 a9_8 a9_9 a9_10 a9_11 a9_12 v9_13 v9_14 v9_15 v9_16 v9_17 v9_18 a9_19 v9_20 v9_21 v9_22 a9_23 a9_24 a9_25 a9_26 a9_27 a9_28 a9_29 a9_30 a9_31 a9_32 a9_33 a9_34 v9_35 v9_36 a9_37 a9_38 a9_39 a9_40 a9_41 v9_42 a9_43 a9_44 a9_45 a9_46 a9_47 v9_48 v9_49 v9_50 v9_51 a9_52 a9_53 v9_54 v9_55 a9_56 a9_57 v9_58 a9_59 a9_60 a9_61)), (a9_34, .inl (cyI, 202, .inl g9_34)), (a9_61, .inl (cyI, 2, .inl g9_61))]) [0, 1, 2] (by decide) rfl
                  exact W.zret (ty := .boolean) hx hb hr rfl (fun t ht hW => ⟨⟨_, (), rfl, ⟨rfl, rfl⟩, by rw [ht]; exact hP9, va_K.moved hW.alike hK, hD9⟩, hS.F ht⟩) hS.2.2 dX9_moves_209
            · replace hf := x_in c_32 hf
              refine lv_iconst (v := 1) hx hb dX9_moves_157 (by decide) ?_
              refine lv_goto (tgt := 162) hx hb dX9_moves_158 (by decide) ?_
              refine lv_istore (lv' := [(4, .int 1), (3, .int 0), (2, .int 0), (0, .ref o9), (1, .int p1)]) hx hb dX9_moves_162 hl (by decide) rfl (fun ls hl => ?_)
              refine lv_iload_n hx hb dX9_moves_164 rfl (lv_at hl 4 rfl) ?_
              refine lv_bipush (v := 91) hx hb dX9_moves_165 (by decide) ?_
              refine lv_icmp_gt (tgt := 177) hx hb dX9_moves_167 (by decide) (fun c_40 => ?_) (fun c_40 => ?_)
              · replace hf := x_ip c_40 hf
                refine lv_iload_n hx hb dX9_moves_177 rfl (lv_at hl 4 rfl) ?_
                refine lv_bipush (v := 92) hx hb dX9_moves_178 (by decide) ?_
                refine lv_isub hx hb dX9_moves_180 ?_
                refine lv_istore (lv' := [(5, .int (p1 - (92 : Int32))), (4, .int 1), (3, .int 0), (2, .int 0), (0, .ref o9), (1, .int p1)]) hx hb dX9_moves_181 hl (by decide) rfl (fun ls hl => ?_)
                refine lv_iload hx hb dX9_moves_183 (lv_at hl 1 rfl) ?_
                refine lv_iconst (v := 1) hx hb dX9_moves_185 (by decide) ?_
                refine lv_icmp_ne (tgt := 200) hx hb dX9_moves_186 (by decide) (fun c_41 => absurd (by decide) c_41) (fun _ => ?_)
                refine lv_aload_n hx hb dX9_moves_189 rfl (lv_at hl 4 rfl) ?_
                refine lv_iconst (v := 1) hx hb dX9_moves_190 (by decide) ?_
                obtain ⟨r_42, h_42, hf⟩ := x_bi hf
                have hPc := hP.sub (ws' := [(o9, .inr (9, x_O9 v9_0 v9_1 v9_2 v9_3 a9_4 a9_5 a9_6 a9_7 a9_8 a9_9 a9_10 a9_11 a9_12 v9_13 v9_14 v9_15 v9_16 v9_17 v9_18 a9_19 v9_20 v9_21 v9_22 a9_23 a9_24 a9_25 a9_26 a9_27 a9_28 a9_29 a9_30 a9_31 a9_32 a9_33 a9_34 v9_35 v9_36 a9_37 a9_38 a9_39 a9_40 a9_41 v9_42 a9_43 a9_44 a9_45 a9_46 a9_47 v9_48 v9_49 v9_50 v9_51 a9_52 a9_53 v9_54 v9_55 a9_56 a9_57 v9_58 a9_59 a9_60 a9_61)), (a9_34, .inl (cyI, 202, .inl g9_34))]) [0, 1] rfl
                refine va_calli (va_runV (As := [.int 1]) (rest := []) ⟨hx, hb, hml, hown, hts⟩ (c_X9_single l dC dI cyI cyZ cyJ H.size o9 v9_0 v9_1 v9_2 v9_3 a9_4 a9_5 a9_6 a9_7 a9_8 a9_9 a9_10 a9_11 a9_12 v9_13 v9_14 v9_15 v9_16 v9_17 v9_18 a9_19 v9_20 v9_21 v9_22 a9_23 a9_24 a9_25 a9_26 a9_27 a9_28 a9_29 a9_30 a9_31 a9_32 a9_33 a9_34 v9_35 v9_36 a9_37 a9_38 a9_39 a9_40 a9_41 v9_42 a9_43 a9_44 a9_45 a9_46 a9_47 v9_48 v9_49 v9_50 v9_51 a9_52 a9_53 v9_54 v9_55 a9_56 a9_57 v9_58 a9_59 a9_60 a9_61 g9_34 1 r_42 h_42) (cwV 1 hts gX9_moves_X9_single rfl rfl rfl (by decide +kernel) ⟨Nat.le_of_ble_eq_true rfl, Nat.le_of_ble_eq_true rfl⟩) (x_pV hN hK hPc (ci := 9) (q0 := 0) rfl rfl) rfl rfl hl.1 rfl (lv_room (Nat.le_of_ble_eq_true rfl)) dX9_moves_191 ⟨Nat.le_of_ble_eq_true rfl, Nat.le_of_ble_eq_true rfl⟩) hS x_nA (x_nf hA hS) (fun q_42 u t H1 locs ht hvm hw hB hz1 hk1 hS => ?_)
                have hP := x_kp hP hk1
                clear ht hvm hB hz1 hk1 t u hPc
                generalize H1 = H at hP hS ⊢
                obtain ⟨hw, b_42⟩ := hw
                obtain rfl := hw.symm
                refine lv_if_eq (tgt := 208) hx hb dX9_moves_194 (by decide) (fun c_43 => ?_) (fun c_43 => ?_)
                · replace hf := x_ip c_43 hf
                  refine lv_iconst (v := 0) hx hb dX9_moves_208 (by decide) ?_
                  obtain rfl := Option.some.inj hf
                  have hP9 := hP.sub (ws' := [(o9, .inr (9, x_O9 v9_0 v9_1 v9_2 v9_3 a9_4 a9_5 a9_6 a9_7 a9_8 a9_9 a9_10 a9_11 a9_12 v9_13 v9_14 v9_15 v9_16 v9_17 v9_18 a9_19 v9_20 v9_21 v9_22 a9_23 a9_24 a9_25 a9_26 a9_27 a9_28 a9_29 a9_30 a9_31 a9_32 a9_33 a9_34 v9_35 v9_36 a9_37 a9_38 a9_39 a9_40 a9_41 v9_42 a9_43 a9_44 a9_45 a9_46 a9_47 v9_48 v9_49 v9_50 v9_51 a9_52 a9_53 v9_54 v9_55 a9_56 a9_57 v9_58 a9_59 a9_60 a9_61)), (a9_34, .inl (cyI, 202, .inl g9_34)), (a9_61, .inl (cyI, 2, .inl g9_61))]) [0, 1, 2] rfl
                  have hD9 := hD.sub (ws' := [(o9, .inr (9, x_O9 v9_0 v9_1 v9_2 v9_3 a9_4 a9_5 a9_6 a9_7 a9_8 a9_9 a9_10 a9_11 a9_12 v9_13 v9_14 v9_15 v9_16 v9_17 v9_18 a9_19 v9_20 v9_21 v9_22 a9_23 a9_24 a9_25 a9_26 a9_27 a9_28 a9_29 a9_30 a9_31 a9_32 a9_33 a9_34 v9_35 v9_36 a9_37 a9_38 a9_39 a9_40 a9_41 v9_42 a9_43 a9_44 a9_45 a9_46 a9_47 v9_48 v9_49 v9_50 v9_51 a9_52 a9_53 v9_54 v9_55 a9_56 a9_57 v9_58 a9_59 a9_60 a9_61)), (a9_34, .inl (cyI, 202, .inl g9_34)), (a9_61, .inl (cyI, 2, .inl g9_61))]) [0, 1, 2] (by decide) rfl
                  exact W.zret (ty := .boolean) hx hb hr rfl (fun t ht hW => ⟨⟨_, (), rfl, ⟨rfl, rfl⟩, by rw [ht]; exact hP9, va_K.moved hW.alike hK, hD9⟩, hS.F ht⟩) hS.2.2 dX9_moves_209
                · replace hf := x_in c_43 hf
                  refine lv_goto (tgt := 210) hx hb dX9_moves_197 (by decide) ?_
                  exact (hWW _ _ _ _ _).mpr ((J v9_35 (2, 0, 0, 0, 1, p1 - (92 : Int32), 0, 0, g9_34, g9_61) _ hf rfl _ _ _ _ _ _ _ _ _ _ rfl).2.2.1 rfl H locs ls hP hD hS (lv_sub hl [4, 3, 2, 1, 0] rfl))
              · replace hf := x_in c_40 hf
                refine lv_iload_n hx hb dX9_moves_170 rfl (lv_at hl 4 rfl) ?_
                refine lv_bipush (v := 89) hx hb dX9_moves_171 (by decide) ?_
                refine lv_isub hx hb dX9_moves_173 ?_
                refine lv_goto (tgt := 181) hx hb dX9_moves_174 (by decide) ?_
                refine lv_istore (lv' := [(5, .int (p1 - (89 : Int32))), (4, .int 1), (3, .int 0), (2, .int 0), (0, .ref o9), (1, .int p1)]) hx hb dX9_moves_181 hl (by decide) rfl (fun ls hl => ?_)
                refine lv_iload hx hb dX9_moves_183 (lv_at hl 1 rfl) ?_
                refine lv_iconst (v := 1) hx hb dX9_moves_185 (by decide) ?_
                refine lv_icmp_ne (tgt := 200) hx hb dX9_moves_186 (by decide) (fun c_44 => absurd (by decide) c_44) (fun _ => ?_)
                refine lv_aload_n hx hb dX9_moves_189 rfl (lv_at hl 4 rfl) ?_
                refine lv_iconst (v := 1) hx hb dX9_moves_190 (by decide) ?_
                obtain ⟨r_45, h_45, hf⟩ := x_bi hf
                have hPc := hP.sub (ws' := [(o9, .inr (9, x_O9 v9_0 v9_1 v9_2 v9_3 a9_4 a9_5 a9_6 a9_7 a9_8 a9_9 a9_10 a9_11 a9_12 v9_13 v9_14 v9_15 v9_16 v9_17 v9_18 a9_19 v9_20 v9_21 v9_22 a9_23 a9_24 a9_25 a9_26 a9_27 a9_28 a9_29 a9_30 a9_31 a9_32 a9_33 a9_34 v9_35 v9_36 a9_37 a9_38 a9_39 a9_40 a9_41 v9_42 a9_43 a9_44 a9_45 a9_46 a9_47 v9_48 v9_49 v9_50 v9_51 a9_52 a9_53 v9_54 v9_55 a9_56 a9_57 v9_58 a9_59 a9_60 a9_61)), (a9_34, .inl (cyI, 202, .inl g9_34))]) [0, 1] rfl
                refine va_calli (va_runV (As := [.int 1]) (rest := []) ⟨hx, hb, hml, hown, hts⟩ (c_X9_single l dC dI cyI cyZ cyJ H.size o9 v9_0 v9_1 v9_2 v9_3 a9_4 a9_5 a9_6 a9_7 a9_8 a9_9 a9_10 a9_11 a9_12 v9_13 v9_14 v9_15 v9_16 v9_17 v9_18 a9_19 v9_20 v9_21 v9_22 a9_23 a9_24 a9_25 a9_26 a9_27 a9_28 a9_29 a9_30 a9_31 a9_32 a9_33 a9_34 v9_35 v9_36 a9_37 a9_38 a9_39 a9_40 a9_41 v9_42 a9_43 a9_44 a9_45 a9_46 a9_47 v9_48 v9_49 v9_50 v9_51 a9_52 a9_53 v9_54 v9_55 a9_56 a9_57 v9_58 a9_59 a9_60 a9_61 g9_34 1 r_45 h_45) (cwV 1 hts gX9_moves_X9_single rfl rfl rfl (by decide +kernel) ⟨Nat.le_of_ble_eq_true rfl, Nat.le_of_ble_eq_true rfl⟩) (x_pV hN hK hPc (ci := 9) (q0 := 0) rfl rfl) rfl rfl hl.1 rfl (lv_room (Nat.le_of_ble_eq_true rfl)) dX9_moves_191 ⟨Nat.le_of_ble_eq_true rfl, Nat.le_of_ble_eq_true rfl⟩) hS x_nA (x_nf hA hS) (fun q_45 u t H1 locs ht hvm hw hB hz1 hk1 hS => ?_)
                have hP := x_kp hP hk1
                clear ht hvm hB hz1 hk1 t u hPc
                generalize H1 = H at hP hS ⊢
                obtain ⟨hw, b_45⟩ := hw
                obtain rfl := hw.symm
                refine lv_if_eq (tgt := 208) hx hb dX9_moves_194 (by decide) (fun c_46 => ?_) (fun c_46 => ?_)
                · replace hf := x_ip c_46 hf
                  refine lv_iconst (v := 0) hx hb dX9_moves_208 (by decide) ?_
                  obtain rfl := Option.some.inj hf
                  have hP9 := hP.sub (ws' := [(o9, .inr (9, x_O9 v9_0 v9_1 v9_2 v9_3 a9_4 a9_5 a9_6 a9_7 a9_8 a9_9 a9_10 a9_11 a9_12 v9_13 v9_14 v9_15 v9_16 v9_17 v9_18 a9_19 v9_20 v9_21 v9_22 a9_23 a9_24 a9_25 a9_26 a9_27 a9_28 a9_29 a9_30 a9_31 a9_32 a9_33 a9_34 v9_35 v9_36 a9_37 a9_38 a9_39 a9_40 a9_41 v9_42 a9_43 a9_44 a9_45 a9_46 a9_47 v9_48 v9_49 v9_50 v9_51 a9_52 a9_53 v9_54 v9_55 a9_56 a9_57 v9_58 a9_59 a9_60 a9_61)), (a9_34, .inl (cyI, 202, .inl g9_34)), (a9_61, .inl (cyI, 2, .inl g9_61))]) [0, 1, 2] rfl
                  have hD9 := hD.sub (ws' := [(o9, .inr (9, x_O9 v9_0 v9_1 v9_2 v9_3 a9_4 a9_5 a9_6 a9_7 a9_8 a9_9 a9_10 a9_11 a9_12 v9_13 v9_14 v9_15 v9_16 v9_17 v9_18 a9_19 v9_20 v9_21 v9_22 a9_23 a9_24 a9_25 a9_26 a9_27 a9_28 a9_29 a9_30 a9_31 a9_32 a9_33 a9_34 v9_35 v9_36 a9_37 a9_38 a9_39 a9_40 a9_41 v9_42 a9_43 a9_44 a9_45 a9_46 a9_47 v9_48 v9_49 v9_50 v9_51 a9_52 a9_53 v9_54 v9_55 a9_56 a9_57 v9_58 a9_59 a9_60 a9_61)), (a9_34, .inl (cyI, 202, .inl g9_34)), (a9_61, .inl (cyI, 2, .inl g9_61))]) [0, 1, 2] (by decide) rfl
                  exact W.zret (ty := .boolean) hx hb hr rfl (fun t ht hW => ⟨⟨_, (), rfl, ⟨rfl, rfl⟩, by rw [ht]; exact hP9, va_K.moved hW.alike hK, hD9⟩, hS.F ht⟩) hS.2.2 dX9_moves_209
                · replace hf := x_in c_46 hf
                  refine lv_goto (tgt := 210) hx hb dX9_moves_197 (by decide) ?_
                  exact (hWW _ _ _ _ _).mpr ((J v9_35 (2, 0, 0, 0, 1, p1 - (89 : Int32), 0, 0, g9_34, g9_61) _ hf rfl _ _ _ _ _ _ _ _ _ _ rfl).2.2.1 rfl H locs ls hP hD hS (lv_sub hl [4, 3, 2, 1, 0] rfl))
          · replace hf := x_ip c_31 hf
            refine lv_aload_n hx hb dX9_moves_107 rfl (lv_at hl 2 rfl) ?_
            refine lv_iconst (v := 1) hx hb dX9_moves_108 (by decide) ?_
            obtain ⟨r_47, h_47, hf⟩ := x_bi hf
            have hPc := hP.sub (ws' := [(o9, .inr (9, x_O9 v9_0 v9_1 v9_2 v9_3 a9_4 a9_5 a9_6 a9_7 a9_8 a9_9 a9_10 a9_11 a9_12 v9_13 v9_14 v9_15 v9_16 v9_17 v9_18 a9_19 v9_20 v9_21 v9_22 a9_23 a9_24 a9_25 a9_26 a9_27 a9_28 a9_29 a9_30 a9_31 a9_32 a9_33 a9_34 v9_35 v9_36 a9_37 a9_38 a9_39 a9_40 a9_41 v9_42 a9_43 a9_44 a9_45 a9_46 a9_47 v9_48 v9_49 v9_50 v9_51 a9_52 a9_53 v9_54 v9_55 a9_56 a9_57 v9_58 a9_59 a9_60 a9_61)), (a9_34, .inl (cyI, 202, .inl g9_34))]) [0, 1] rfl
            refine va_calli (va_runV (As := [.int 1]) (rest := []) ⟨hx, hb, hml, hown, hts⟩ (c_X9_single l dC dI cyI cyZ cyJ H.size o9 v9_0 v9_1 v9_2 v9_3 a9_4 a9_5 a9_6 a9_7 a9_8 a9_9 a9_10 a9_11 a9_12 v9_13 v9_14 v9_15 v9_16 v9_17 v9_18 a9_19 v9_20 v9_21 v9_22 a9_23 a9_24 a9_25 a9_26 a9_27 a9_28 a9_29 a9_30 a9_31 a9_32 a9_33 a9_34 v9_35 v9_36 a9_37 a9_38 a9_39 a9_40 a9_41 v9_42 a9_43 a9_44 a9_45 a9_46 a9_47 v9_48 v9_49 v9_50 v9_51 a9_52 a9_53 v9_54 v9_55 a9_56 a9_57 v9_58 a9_59 a9_60 a9_61 g9_34 1 r_47 h_47) (cwV 1 hts gX9_moves_X9_single rfl rfl rfl (by decide +kernel) ⟨Nat.le_of_ble_eq_true rfl, Nat.le_of_ble_eq_true rfl⟩) (x_pV hN hK hPc (ci := 9) (q0 := 0) rfl rfl) rfl rfl hl.1 rfl (lv_room (Nat.le_of_ble_eq_true rfl)) dX9_moves_109 ⟨Nat.le_of_ble_eq_true rfl, Nat.le_of_ble_eq_true rfl⟩) hS x_nA (x_nf hA hS) (fun q_47 u t H1 locs ht hvm hw hB hz1 hk1 hS => ?_)
            have hP := x_kp hP hk1
            clear ht hvm hB hz1 hk1 t u hPc
            generalize H1 = H at hP hS ⊢
            obtain ⟨hw, b_47⟩ := hw
            obtain rfl := hw.symm
            refine lv_if_eq (tgt := 123) hx hb dX9_moves_112 (by decide) (fun c_48 => ?_) (fun c_48 => ?_)
            · replace hf := x_ip c_48 hf
              refine lv_iconst (v := 0) hx hb dX9_moves_123 (by decide) ?_
              obtain rfl := Option.some.inj hf
              have hP9 := hP.sub (ws' := [(o9, .inr (9, x_O9 v9_0 v9_1 v9_2 v9_3 a9_4 a9_5 a9_6 a9_7 a9_8 a9_9 a9_10 a9_11 a9_12 v9_13 v9_14 v9_15 v9_16 v9_17 v9_18 a9_19 v9_20 v9_21 v9_22 a9_23 a9_24 a9_25 a9_26 a9_27 a9_28 a9_29 a9_30 a9_31 a9_32 a9_33 a9_34 v9_35 v9_36 a9_37 a9_38 a9_39 a9_40 a9_41 v9_42 a9_43 a9_44 a9_45 a9_46 a9_47 v9_48 v9_49 v9_50 v9_51 a9_52 a9_53 v9_54 v9_55 a9_56 a9_57 v9_58 a9_59 a9_60 a9_61)), (a9_34, .inl (cyI, 202, .inl g9_34)), (a9_61, .inl (cyI, 2, .inl g9_61))]) [0, 1, 2] rfl
              have hD9 := hD.sub (ws' := [(o9, .inr (9, x_O9 v9_0 v9_1 v9_2 v9_3 a9_4 a9_5 a9_6 a9_7 a9_8 a9_9 a9_10 a9_11 a9_12 v9_13 v9_14 v9_15 v9_16 v9_17 v9_18 a9_19 v9_20 v9_21 v9_22 a9_23 a9_24 a9_25 a9_26 a9_27 a9_28 a9_29 a9_30 a9_31 a9_32 a9_33 a9_34 v9_35 v9_36 a9_37 a9_38 a9_39 a9_40 a9_41 v9_42 a9_43 a9_44 a9_45 a9_46 a9_47 v9_48 v9_49 v9_50 v9_51 a9_52 a9_53 v9_54 v9_55 a9_56 a9_57 v9_58 a9_59 a9_60 a9_61)), (a9_34, .inl (cyI, 202, .inl g9_34)), (a9_61, .inl (cyI, 2, .inl g9_61))]) [0, 1, 2] (by decide) rfl
              exact W.zret (ty := .boolean) hx hb hr rfl (fun t ht hW => ⟨⟨_, (), rfl, ⟨rfl, rfl⟩, by rw [ht]; exact hP9, va_K.moved hW.alike hK, hD9⟩, hS.F ht⟩) hS.2.2 dX9_moves_124
            · replace hf := x_in c_48 hf
              refine lv_aload_n hx hb dX9_moves_115 rfl (lv_at hl 2 rfl) ?_
              refine lv_iconst (v := 2) hx hb dX9_moves_116 (by decide) ?_
              obtain ⟨r_49, h_49, hf⟩ := x_bi hf
              have hPc := hP.sub (ws' := [(o9, .inr (9, x_O9 v9_0 v9_1 v9_2 v9_3 a9_4 a9_5 a9_6 a9_7 a9_8 a9_9 a9_10 a9_11 a9_12 v9_13 v9_14 v9_15 v9_16 v9_17 v9_18 a9_19 v9_20 v9_21 v9_22 a9_23 a9_24 a9_25 a9_26 a9_27 a9_28 a9_29 a9_30 a9_31 a9_32 a9_33 a9_34 v9_35 v9_36 a9_37 a9_38 a9_39 a9_40 a9_41 v9_42 a9_43 a9_44 a9_45 a9_46 a9_47 v9_48 v9_49 v9_50 v9_51 a9_52 a9_53 v9_54 v9_55 a9_56 a9_57 v9_58 a9_59 a9_60 a9_61)), (a9_34, .inl (cyI, 202, .inl g9_34))]) [0, 1] rfl
              refine va_calli (va_runV (As := [.int 2]) (rest := []) ⟨hx, hb, hml, hown, hts⟩ (c_X9_single l dC dI cyI cyZ cyJ H.size o9 v9_0 v9_1 v9_2 v9_3 a9_4 a9_5 a9_6 a9_7 a9_8 a9_9 a9_10 a9_11 a9_12 v9_13 v9_14 v9_15 v9_16 v9_17 v9_18 a9_19 v9_20 v9_21 v9_22 a9_23 a9_24 a9_25 a9_26 a9_27 a9_28 a9_29 a9_30 a9_31 a9_32 a9_33 a9_34 v9_35 v9_36 a9_37 a9_38 a9_39 a9_40 a9_41 v9_42 a9_43 a9_44 a9_45 a9_46 a9_47 v9_48 v9_49 v9_50 v9_51 a9_52 a9_53 v9_54 v9_55 a9_56 a9_57 v9_58 a9_59 a9_60 a9_61 g9_34 2 r_49 h_49) (cwV 1 hts gX9_moves_X9_single rfl rfl rfl (by decide +kernel) ⟨Nat.le_of_ble_eq_true rfl, Nat.le_of_ble_eq_true rfl⟩) (x_pV hN hK hPc (ci := 9) (q0 := 0) rfl rfl) rfl rfl hl.1 rfl (lv_room (Nat.le_of_ble_eq_true rfl)) dX9_moves_117 ⟨Nat.le_of_ble_eq_true rfl, Nat.le_of_ble_eq_true rfl⟩) hS x_nA (x_nf hA hS) (fun q_49 u t H1 locs ht hvm hw hB hz1 hk1 hS => ?_)
              have hP := x_kp hP hk1
              clear ht hvm hB hz1 hk1 t u hPc
              generalize H1 = H at hP hS ⊢
              obtain ⟨hw, b_49⟩ := hw
              obtain rfl := hw.symm
              refine lv_if_ne (tgt := 125) hx hb dX9_moves_120 (by decide) (fun c_50 => ?_) (fun c_50 => ?_)
              · replace hf := x_in c_50 hf
                refine lv_aload_n hx hb dX9_moves_125 rfl (lv_at hl 2 rfl) ?_
                refine va_get (D := (dC, dI)) (ci := 9) (v := .ref a9_34) (C := RX9) (T := TX9) (N := 62) hx hb hts i_X9_moves_X9 hown hK hP 0 rfl rfl 34 (by decide) k_3 (fun _ h9 => h9) rfl dX9_moves_126 ?_
                refine lv_aload_n hx hb dX9_moves_129 rfl (lv_at hl 2 rfl) ?_
                refine va_get (D := (dC, dI)) (ci := 9) (v := .int v9_35) (C := RX9) (T := TX9) (N := 62) hx hb hts i_X9_moves_X9 hown hK hP 0 rfl rfl 35 (by decide) k_1 (fun _ h9 => h9) rfl dX9_moves_130 ?_
                refine lv_iconst (v := 2) hx hb dX9_moves_133 (by decide) ?_
                refine lv_isub hx hb dX9_moves_134 ?_
                refine lv_iload_n hx hb dX9_moves_135 rfl (lv_at hl 1 rfl) ?_
                obtain ⟨g_51, hf⟩ := x_gu hf
                refine va_iast hx hb hK hP hD hS 1 0 rfl rfl (x_gdin g_51) dX9_moves_136 (fun H locs hP hD hS => ?_)
                have hP : va_P (dC, dI) vwCl [(o9, .inr (9, x_O9 v9_0 v9_1 v9_2 v9_3 a9_4 a9_5 a9_6 a9_7 a9_8 a9_9 a9_10 a9_11 a9_12 v9_13 v9_14 v9_15 v9_16 v9_17 v9_18 a9_19 v9_20 v9_21 v9_22 a9_23 a9_24 a9_25 a9_26 a9_27 a9_28 a9_29 a9_30 a9_31 a9_32 a9_33 a9_34 v9_35 v9_36 a9_37 a9_38 a9_39 a9_40 a9_41 v9_42 a9_43 a9_44 a9_45 a9_46 a9_47 v9_48 v9_49 v9_50 v9_51 a9_52 a9_53 v9_54 v9_55 a9_56 a9_57 v9_58 a9_59 a9_60 a9_61)), (a9_34, .inl (cyI, 202, .inl (upd g9_34 (Int32.toNatClampNeg (v9_35 - (2 : Int32))) 0))), (a9_61, .inl (cyI, 2, .inl g9_61))] H := hP
                have hD : va_D A [(o9, .inr (9, x_O9 v9_0 v9_1 v9_2 v9_3 a9_4 a9_5 a9_6 a9_7 a9_8 a9_9 a9_10 a9_11 a9_12 v9_13 v9_14 v9_15 v9_16 v9_17 v9_18 a9_19 v9_20 v9_21 v9_22 a9_23 a9_24 a9_25 a9_26 a9_27 a9_28 a9_29 a9_30 a9_31 a9_32 a9_33 a9_34 v9_35 v9_36 a9_37 a9_38 a9_39 a9_40 a9_41 v9_42 a9_43 a9_44 a9_45 a9_46 a9_47 v9_48 v9_49 v9_50 v9_51 a9_52 a9_53 v9_54 v9_55 a9_56 a9_57 v9_58 a9_59 a9_60 a9_61)), (a9_34, .inl (cyI, 202, .inl (upd g9_34 (Int32.toNatClampNeg (v9_35 - (2 : Int32))) 0))), (a9_61, .inl (cyI, 2, .inl g9_61))] := hD
                refine lv_aload_n hx hb dX9_moves_137 rfl (lv_at hl 2 rfl) ?_
                refine va_get (D := (dC, dI)) (ci := 9) (v := .ref a9_34) (C := RX9) (T := TX9) (N := 62) hx hb hts i_X9_moves_X9 hown hK hP 0 rfl rfl 34 (by decide) k_3 (fun _ h9 => h9) rfl dX9_moves_138 ?_
                refine lv_aload_n hx hb dX9_moves_141 rfl (lv_at hl 2 rfl) ?_
                refine va_get (D := (dC, dI)) (ci := 9) (v := .int v9_35) (C := RX9) (T := TX9) (N := 62) hx hb hts i_X9_moves_X9 hown hK hP 0 rfl rfl 35 (by decide) k_1 (fun _ h9 => h9) rfl dX9_moves_142 ?_
                refine lv_iconst (v := 1) hx hb dX9_moves_145 (by decide) ?_
                refine lv_isub hx hb dX9_moves_146 ?_
                refine lv_iload_n hx hb dX9_moves_147 rfl (lv_at hl 0 rfl) ?_
                obtain ⟨g_52, hf⟩ := x_gu hf
                refine va_iast hx hb hK hP hD hS 1 0 rfl rfl (x_gdin g_52) dX9_moves_148 (fun H locs hP hD hS => ?_)
                have hP : va_P (dC, dI) vwCl [(o9, .inr (9, x_O9 v9_0 v9_1 v9_2 v9_3 a9_4 a9_5 a9_6 a9_7 a9_8 a9_9 a9_10 a9_11 a9_12 v9_13 v9_14 v9_15 v9_16 v9_17 v9_18 a9_19 v9_20 v9_21 v9_22 a9_23 a9_24 a9_25 a9_26 a9_27 a9_28 a9_29 a9_30 a9_31 a9_32 a9_33 a9_34 v9_35 v9_36 a9_37 a9_38 a9_39 a9_40 a9_41 v9_42 a9_43 a9_44 a9_45 a9_46 a9_47 v9_48 v9_49 v9_50 v9_51 a9_52 a9_53 v9_54 v9_55 a9_56 a9_57 v9_58 a9_59 a9_60 a9_61)), (a9_34, .inl (cyI, 202, .inl (upd (upd g9_34 (Int32.toNatClampNeg (v9_35 - (2 : Int32))) 0) (Int32.toNatClampNeg (v9_35 - (1 : Int32))) 0))), (a9_61, .inl (cyI, 2, .inl g9_61))] H := hP
                have hD : va_D A [(o9, .inr (9, x_O9 v9_0 v9_1 v9_2 v9_3 a9_4 a9_5 a9_6 a9_7 a9_8 a9_9 a9_10 a9_11 a9_12 v9_13 v9_14 v9_15 v9_16 v9_17 v9_18 a9_19 v9_20 v9_21 v9_22 a9_23 a9_24 a9_25 a9_26 a9_27 a9_28 a9_29 a9_30 a9_31 a9_32 a9_33 a9_34 v9_35 v9_36 a9_37 a9_38 a9_39 a9_40 a9_41 v9_42 a9_43 a9_44 a9_45 a9_46 a9_47 v9_48 v9_49 v9_50 v9_51 a9_52 a9_53 v9_54 v9_55 a9_56 a9_57 v9_58 a9_59 a9_60 a9_61)), (a9_34, .inl (cyI, 202, .inl (upd (upd g9_34 (Int32.toNatClampNeg (v9_35 - (2 : Int32))) 0) (Int32.toNatClampNeg (v9_35 - (1 : Int32))) 0))), (a9_61, .inl (cyI, 2, .inl g9_61))] := hD
                refine lv_iconst (v := 1) hx hb dX9_moves_149 (by decide) ?_
                obtain rfl := Option.some.inj hf
                have hP9 := hP.sub (ws' := [(o9, .inr (9, x_O9 v9_0 v9_1 v9_2 v9_3 a9_4 a9_5 a9_6 a9_7 a9_8 a9_9 a9_10 a9_11 a9_12 v9_13 v9_14 v9_15 v9_16 v9_17 v9_18 a9_19 v9_20 v9_21 v9_22 a9_23 a9_24 a9_25 a9_26 a9_27 a9_28 a9_29 a9_30 a9_31 a9_32 a9_33 a9_34 v9_35 v9_36 a9_37 a9_38 a9_39 a9_40 a9_41 v9_42 a9_43 a9_44 a9_45 a9_46 a9_47 v9_48 v9_49 v9_50 v9_51 a9_52 a9_53 v9_54 v9_55 a9_56 a9_57 v9_58 a9_59 a9_60 a9_61)), (a9_34, .inl (cyI, 202, .inl (upd (upd g9_34 (Int32.toNatClampNeg (v9_35 - (2 : Int32))) 0) (Int32.toNatClampNeg (v9_35 - (1 : Int32))) 0))), (a9_61, .inl (cyI, 2, .inl g9_61))]) [0, 1, 2] rfl
                have hD9 := hD.sub (ws' := [(o9, .inr (9, x_O9 v9_0 v9_1 v9_2 v9_3 a9_4 a9_5 a9_6 a9_7 a9_8 a9_9 a9_10 a9_11 a9_12 v9_13 v9_14 v9_15 v9_16 v9_17 v9_18 a9_19 v9_20 v9_21 v9_22 a9_23 a9_24 a9_25 a9_26 a9_27 a9_28 a9_29 a9_30 a9_31 a9_32 a9_33 a9_34 v9_35 v9_36 a9_37 a9_38 a9_39 a9_40 a9_41 v9_42 a9_43 a9_44 a9_45 a9_46 a9_47 v9_48 v9_49 v9_50 v9_51 a9_52 a9_53 v9_54 v9_55 a9_56 a9_57 v9_58 a9_59 a9_60 a9_61)), (a9_34, .inl (cyI, 202, .inl (upd (upd g9_34 (Int32.toNatClampNeg (v9_35 - (2 : Int32))) 0) (Int32.toNatClampNeg (v9_35 - (1 : Int32))) 0))), (a9_61, .inl (cyI, 2, .inl g9_61))]) [0, 1, 2] (by decide) rfl
                exact W.zret (ty := .boolean) hx hb hr rfl (fun t ht hW => ⟨⟨_, (), rfl, ⟨rfl, rfl⟩, by rw [ht]; exact hP9, va_K.moved hW.alike hK, hD9⟩, hS.F ht⟩) hS.2.2 dX9_moves_150
              · replace hf := x_ip c_50 hf
                refine lv_iconst (v := 0) hx hb dX9_moves_123 (by decide) ?_
                obtain rfl := Option.some.inj hf
                have hP9 := hP.sub (ws' := [(o9, .inr (9, x_O9 v9_0 v9_1 v9_2 v9_3 a9_4 a9_5 a9_6 a9_7 a9_8 a9_9 a9_10 a9_11 a9_12 v9_13 v9_14 v9_15 v9_16 v9_17 v9_18 a9_19 v9_20 v9_21 v9_22 a9_23 a9_24 a9_25 a9_26 a9_27 a9_28 a9_29 a9_30 a9_31 a9_32 a9_33 a9_34 v9_35 v9_36 a9_37 a9_38 a9_39 a9_40 a9_41 v9_42 a9_43 a9_44 a9_45 a9_46 a9_47 v9_48 v9_49 v9_50 v9_51 a9_52 a9_53 v9_54 v9_55 a9_56 a9_57 v9_58 a9_59 a9_60 a9_61)), (a9_34, .inl (cyI, 202, .inl g9_34)), (a9_61, .inl (cyI, 2, .inl g9_61))]) [0, 1, 2] rfl
                have hD9 := hD.sub (ws' := [(o9, .inr (9, x_O9 v9_0 v9_1 v9_2 v9_3 a9_4 a9_5 a9_6 a9_7 a9_8 a9_9 a9_10 a9_11 a9_12 v9_13 v9_14 v9_15 v9_16 v9_17 v9_18 a9_19 v9_20 v9_21 v9_22 a9_23 a9_24 a9_25 a9_26 a9_27 a9_28 a9_29 a9_30 a9_31 a9_32 a9_33 a9_34 v9_35 v9_36 a9_37 a9_38 a9_39 a9_40 a9_41 v9_42 a9_43 a9_44 a9_45 a9_46 a9_47 v9_48 v9_49 v9_50 v9_51 a9_52 a9_53 v9_54 v9_55 a9_56 a9_57 v9_58 a9_59 a9_60 a9_61)), (a9_34, .inl (cyI, 202, .inl g9_34)), (a9_61, .inl (cyI, 2, .inl g9_61))]) [0, 1, 2] (by decide) rfl
                exact W.zret (ty := .boolean) hx hb hr rfl (fun t ht hW => ⟨⟨_, (), rfl, ⟨rfl, rfl⟩, by rw [ht]; exact hP9, va_K.moved hW.alike hK, hD9⟩, hS.F ht⟩) hS.2.2 dX9_moves_124
        · replace hf := x_ip c_30 hf
          exact (hWW _ _ _ _ _).mpr ((J v9_35 (0, p1, 0, 0, 0, 0, 0, 0, g9_34, g9_61) _ hf rfl _ _ _ _ _ _ _ _ _ _ rfl).1 rfl H locs ls hP hD hS (lv_sub hl [2, 3] rfl))
    · replace hf := x_in c_28 hf
      refine lv_aload_n hx hb dX9_moves_31 rfl (lv_at hl 1 rfl) ?_
      refine va_get (D := (dC, dI)) (ci := 9) (v := .ref a9_34) (C := RX9) (T := TX9) (N := 62) hx hb hts i_X9_moves_X9 hown hK hP 0 rfl rfl 34 (by decide) k_3 (fun _ h9 => h9) rfl dX9_moves_32 ?_
      refine lv_aload_n hx hb dX9_moves_35 rfl (lv_at hl 1 rfl) ?_
      refine va_get (D := (dC, dI)) (ci := 9) (v := .int v9_35) (C := RX9) (T := TX9) (N := 62) hx hb hts i_X9_moves_X9 hown hK hP 0 rfl rfl 35 (by decide) k_1 (fun _ h9 => h9) rfl dX9_moves_36 ?_
      refine lv_iconst (v := 2) hx hb dX9_moves_39 (by decide) ?_
      refine lv_isub hx hb dX9_moves_40 ?_
      obtain ⟨g_53, hf⟩ := x_gu hf
      refine va_iald hx hb hK hP 1 0 rfl rfl (x_gdin g_53) dX9_moves_41 ?_
      refine lv_goto (tgt := 46) hx hb dX9_moves_42 (by decide) ?_
      refine lv_istore_n (lv' := [(3, .int (g9_34 (Int32.toNatClampNeg (v9_35 - (2 : Int32))))), (2, .int 0), (0, .ref o9), (1, .int p1)]) hx hb dX9_moves_46 rfl hl (by decide) rfl (fun ls hl => ?_)
      refine lv_iload_n hx hb dX9_moves_47 rfl (lv_at hl 3 rfl) ?_
      refine lv_bipush (v := 87) hx hb dX9_moves_48 (by decide) ?_
      refine lv_icmp_eq (tgt := 59) hx hb dX9_moves_50 (by decide) (fun c_54 => ?_) (fun c_54 => ?_)
      · replace hf := x_ip c_54 hf
        exact (hWW _ _ _ _ _).mpr ((J v9_35 (0, p1, 0, 0, 0, 0, 0, 0, g9_34, g9_61) _ hf rfl _ _ _ _ _ _ _ _ _ _ rfl).1 rfl H locs ls hP hD hS (lv_sub hl [2, 3] rfl))
      · replace hf := x_in c_54 hf
        refine lv_iload_n hx hb dX9_moves_53 rfl (lv_at hl 3 rfl) ?_
        refine lv_bipush (v := 88) hx hb dX9_moves_54 (by decide) ?_
        refine lv_icmp_ne (tgt := 101) hx hb dX9_moves_56 (by decide) (fun c_55 => ?_) (fun c_55 => ?_)
        · replace hf := x_in c_55 hf
          refine lv_iload_n hx hb dX9_moves_101 rfl (lv_at hl 3 rfl) ?_
          refine lv_bipush (v := 95) hx hb dX9_moves_102 (by decide) ?_
          refine lv_icmp_ne (tgt := 151) hx hb dX9_moves_104 (by decide) (fun c_56 => ?_) (fun c_56 => ?_)
          · replace hf := x_in c_56 hf
            refine lv_iload_n hx hb dX9_moves_151 rfl (lv_at hl 3 rfl) ?_
            refine lv_bipush (v := 91) hx hb dX9_moves_152 (by decide) ?_
            refine lv_icmp_gt (tgt := 161) hx hb dX9_moves_154 (by decide) (fun c_57 => ?_) (fun c_57 => ?_)
            · replace hf := x_ip c_57 hf
              refine lv_iconst (v := 2) hx hb dX9_moves_161 (by decide) ?_
              refine lv_istore (lv' := [(4, .int 2), (3, .int (g9_34 (Int32.toNatClampNeg (v9_35 - (2 : Int32))))), (2, .int 0), (0, .ref o9), (1, .int p1)]) hx hb dX9_moves_162 hl (by decide) rfl (fun ls hl => ?_)
              refine lv_iload_n hx hb dX9_moves_164 rfl (lv_at hl 4 rfl) ?_
              refine lv_bipush (v := 91) hx hb dX9_moves_165 (by decide) ?_
              refine lv_icmp_gt (tgt := 177) hx hb dX9_moves_167 (by decide) (fun c_58 => ?_) (fun c_58 => ?_)
              · replace hf := x_ip c_58 hf
                refine lv_iload_n hx hb dX9_moves_177 rfl (lv_at hl 4 rfl) ?_
                refine lv_bipush (v := 92) hx hb dX9_moves_178 (by decide) ?_
                refine lv_isub hx hb dX9_moves_180 ?_
                refine lv_istore (lv' := [(5, .int (p1 - (92 : Int32))), (4, .int 2), (3, .int (g9_34 (Int32.toNatClampNeg (v9_35 - (2 : Int32))))), (2, .int 0), (0, .ref o9), (1, .int p1)]) hx hb dX9_moves_181 hl (by decide) rfl (fun ls hl => ?_)
                refine lv_iload hx hb dX9_moves_183 (lv_at hl 1 rfl) ?_
                refine lv_iconst (v := 1) hx hb dX9_moves_185 (by decide) ?_
                refine lv_icmp_ne (tgt := 200) hx hb dX9_moves_186 (by decide) (fun _ => ?_) (fun c_59 => absurd c_59 (by decide))
                refine lv_aload_n hx hb dX9_moves_200 rfl (lv_at hl 4 rfl) ?_
                refine lv_iconst (v := 2) hx hb dX9_moves_201 (by decide) ?_
                obtain ⟨r_60, h_60, hf⟩ := x_bi hf
                have hPc := hP.sub (ws' := [(o9, .inr (9, x_O9 v9_0 v9_1 v9_2 v9_3 a9_4 a9_5 a9_6 a9_7 a9_8 a9_9 a9_10 a9_11 a9_12 v9_13 v9_14 v9_15 v9_16 v9_17 v9_18 a9_19 v9_20 v9_21 v9_22 a9_23 a9_24 a9_25 a9_26 a9_27 a9_28 a9_29 a9_30 a9_31 a9_32 a9_33 a9_34 v9_35 v9_36 a9_37 a9_38 a9_39 a9_40 a9_41 v9_42 a9_43 a9_44 a9_45 a9_46 a9_47 v9_48 v9_49 v9_50 v9_51 a9_52 a9_53 v9_54 v9_55 a9_56 a9_57 v9_58 a9_59 a9_60 a9_61)), (a9_34, .inl (cyI, 202, .inl g9_34))]) [0, 1] rfl
                refine va_calli (va_runV (As := [.int 2]) (rest := []) ⟨hx, hb, hml, hown, hts⟩ (c_X9_pair l dC dI cyI cyZ cyJ H.size o9 v9_0 v9_1 v9_2 v9_3 a9_4 a9_5 a9_6 a9_7 a9_8 a9_9 a9_10 a9_11 a9_12 v9_13 v9_14 v9_15 v9_16 v9_17 v9_18 a9_19 v9_20 v9_21 v9_22 a9_23 a9_24 a9_25 a9_26 a9_27 a9_28 a9_29 a9_30 a9_31 a9_32 a9_33 a9_34 v9_35 v9_36 a9_37 a9_38 a9_39 a9_40 a9_41 v9_42 a9_43 a9_44 a9_45 a9_46 a9_47 v9_48 v9_49 v9_50 v9_51 a9_52 a9_53 v9_54 v9_55 a9_56 a9_57 v9_58 a9_59 a9_60 a9_61 g9_34 2 r_60 h_60) (cwV 1 hts gX9_moves_X9_pair rfl rfl rfl (by decide +kernel) ⟨Nat.le_of_ble_eq_true rfl, Nat.le_of_ble_eq_true rfl⟩) (x_pV hN hK hPc (ci := 9) (q0 := 0) rfl rfl) rfl rfl hl.1 rfl (lv_room (Nat.le_of_ble_eq_true rfl)) dX9_moves_202 ⟨Nat.le_of_ble_eq_true rfl, Nat.le_of_ble_eq_true rfl⟩) hS x_nA (x_nf hA hS) (fun q_60 u t H1 locs ht hvm hw hB hz1 hk1 hS => ?_)
                have hP := x_kp hP hk1
                clear ht hvm hB hz1 hk1 t u hPc
                generalize H1 = H at hP hS ⊢
                obtain ⟨hw, b_60⟩ := hw
                obtain rfl := hw.symm
                refine lv_if_ne (tgt := 210) hx hb dX9_moves_205 (by decide) (fun c_61 => ?_) (fun c_61 => ?_)
                · replace hf := x_in c_61 hf
                  exact (hWW _ _ _ _ _).mpr ((J v9_35 (2, 0, 0, g9_34 (Int32.toNatClampNeg (v9_35 - (2 : Int32))), 2, p1 - (92 : Int32), 0, 0, g9_34, g9_61) _ hf rfl _ _ _ _ _ _ _ _ _ _ rfl).2.2.1 rfl H locs ls hP hD hS (lv_sub hl [4, 3, 2, 1, 0] rfl))
                · replace hf := x_ip c_61 hf
                  refine lv_iconst (v := 0) hx hb dX9_moves_208 (by decide) ?_
                  obtain rfl := Option.some.inj hf
                  have hP9 := hP.sub (ws' := [(o9, .inr (9, x_O9 v9_0 v9_1 v9_2 v9_3 a9_4 a9_5 a9_6 a9_7 a9_8 a9_9 a9_10 a9_11 a9_12 v9_13 v9_14 v9_15 v9_16 v9_17 v9_18 a9_19 v9_20 v9_21 v9_22 a9_23 a9_24 a9_25 a9_26 a9_27 a9_28 a9_29 a9_30 a9_31 a9_32 a9_33 a9_34 v9_35 v9_36 a9_37 a9_38 a9_39 a9_40 a9_41 v9_42 a9_43 a9_44 a9_45 a9_46 a9_47 v9_48 v9_49 v9_50 v9_51 a9_52 a9_53 v9_54 v9_55 a9_56 a9_57 v9_58 a9_59 a9_60 a9_61)), (a9_34, .inl (cyI, 202, .inl g9_34)), (a9_61, .inl (cyI, 2, .inl g9_61))]) [0, 1, 2] rfl
                  have hD9 := hD.sub (ws' := [(o9, .inr (9, x_O9 v9_0 v9_1 v9_2 v9_3 a9_4 a9_5 a9_6 a9_7 a9_8 a9_9 a9_10 a9_11 a9_12 v9_13 v9_14 v9_15 v9_16 v9_17 v9_18 a9_19 v9_20 v9_21 v9_22 a9_23 a9_24 a9_25 a9_26 a9_27 a9_28 a9_29 a9_30 a9_31 a9_32 a9_33 a9_34 v9_35 v9_36 a9_37 a9_38 a9_39 a9_40 a9_41 v9_42 a9_43 a9_44 a9_45 a9_46 a9_47 v9_48 v9_49 v9_50 v9_51 a9_52 a9_53 v9_54 v9_55 a9_56 a9_57 v9_58 a9_59 a9_60 a9_61)), (a9_34, .inl (cyI, 202, .inl g9_34)), (a9_61, .inl (cyI, 2, .inl g9_61))]) [0, 1, 2] (by decide) rfl
                  exact W.zret (ty := .boolean) hx hb hr rfl (fun t ht hW => ⟨⟨_, (), rfl, ⟨rfl, rfl⟩, by rw [ht]; exact hP9, va_K.moved hW.alike hK, hD9⟩, hS.F ht⟩) hS.2.2 dX9_moves_209
              · replace hf := x_in c_58 hf
                refine lv_iload_n hx hb dX9_moves_170 rfl (lv_at hl 4 rfl) ?_
                refine lv_bipush (v := 89) hx hb dX9_moves_171 (by decide) ?_
                refine lv_isub hx hb dX9_moves_173 ?_
                refine lv_goto (tgt := 181) hx hb dX9_moves_174 (by decide) ?_
                refine lv_istore (lv' := [(5, .int (p1 - (89 : Int32))), (4, .int 2), (3, .int (g9_34 (Int32.toNatClampNeg (v9_35 - (2 : Int32))))), (2, .int 0), (0, .ref o9), (1, .int p1)]) hx hb dX9_moves_181 hl (by decide) rfl (fun ls hl => ?_)
                refine lv_iload hx hb dX9_moves_183 (lv_at hl 1 rfl) ?_
                refine lv_iconst (v := 1) hx hb dX9_moves_185 (by decide) ?_
                refine lv_icmp_ne (tgt := 200) hx hb dX9_moves_186 (by decide) (fun _ => ?_) (fun c_62 => absurd c_62 (by decide))
                refine lv_aload_n hx hb dX9_moves_200 rfl (lv_at hl 4 rfl) ?_
                refine lv_iconst (v := 2) hx hb dX9_moves_201 (by decide) ?_
                obtain ⟨r_63, h_63, hf⟩ := x_bi hf
                have hPc := hP.sub (ws' := [(o9, .inr (9, x_O9 v9_0 v9_1 v9_2 v9_3 a9_4 a9_5 a9_6 a9_7 a9_8 a9_9 a9_10 a9_11 a9_12 v9_13 v9_14 v9_15 v9_16 v9_17 v9_18 a9_19 v9_20 v9_21 v9_22 a9_23 a9_24 a9_25 a9_26 a9_27 a9_28 a9_29 a9_30 a9_31 a9_32 a9_33 a9_34 v9_35 v9_36 a9_37 a9_38 a9_39 a9_40 a9_41 v9_42 a9_43 a9_44 a9_45 a9_46 a9_47 v9_48 v9_49 v9_50 v9_51 a9_52 a9_53 v9_54 v9_55 a9_56 a9_57 v9_58 a9_59 a9_60 a9_61)), (a9_34, .inl (cyI, 202, .inl g9_34))]) [0, 1] rfl
                refine va_calli (va_runV (As := [.int 2]) (rest := []) ⟨hx, hb, hml, hown, hts⟩ (c_X9_pair l dC dI cyI cyZ cyJ H.size o9 v9_0 v9_1 v9_2 v9_3 a9_4 a9_5 a9_6 a9_7 a9_8 a9_9 a9_10 a9_11 a9_12 v9_13 v9_14 v9_15 v9_16 v9_17 v9_18 a9_19 v9_20 v9_21 v9_22 a9_23 a9_24 a9_25 a9_26 a9_27 a9_28 a9_29 a9_30 a9_31 a9_32 a9_33 a9_34 v9_35 v9_36 a9_37 a9_38 a9_39 a9_40 a9_41 v9_42 a9_43 a9_44 a9_45 a9_46 a9_47 v9_48 v9_49 v9_50 v9_51 a9_52 a9_53 v9_54 v9_55 a9_56 a9_57 v9_58 a9_59 a9_60 a9_61 g9_34 2 r_63 h_63) (cwV 1 hts gX9_moves_X9_pair rfl rfl rfl (by decide +kernel) ⟨Nat.le_of_ble_eq_true rfl, Nat.le_of_ble_eq_true rfl⟩) (x_pV hN hK hPc (ci := 9) (q0 := 0) rfl rfl) rfl rfl hl.1 rfl (lv_room (Nat.le_of_ble_eq_true rfl)) dX9_moves_202 ⟨Nat.le_of_ble_eq_true rfl, Nat.le_of_ble_eq_true rfl⟩) hS x_nA (x_nf hA hS) (fun q_63 u t H1 locs ht hvm hw hB hz1 hk1 hS => ?_)
                have hP := x_kp hP hk1
                clear ht hvm hB hz1 hk1 t u hPc
                generalize H1 = H at hP hS ⊢
                obtain ⟨hw, b_63⟩ := hw
                obtain rfl := hw.symm
                refine lv_if_ne (tgt := 210) hx hb dX9_moves_205 (by decide) (fun c_64 => ?_) (fun c_64 => ?_)
                · replace hf := x_in c_64 hf
                  exact (hWW _ _ _ _ _).mpr ((J v9_35 (2, 0, 0, g9_34 (Int32.toNatClampNeg (v9_35 - (2 : Int32))), 2, p1 - (89 : Int32), 0, 0, g9_34, g9_61) _ hf rfl _ _ _ _ _ _ _ _ _ _ rfl).2.2.1 rfl H locs ls hP hD hS (lv_sub hl [4, 3, 2, 1, 0] rfl))
                · replace hf := x_ip c_64 hf
                  refine lv_iconst (v := 0) hx hb dX9_moves_208 (by decide) ?_
                  obtain rfl := Option.some.inj hf
                  have hP9 := hP.sub (ws' := [(o9, .inr (9, x_O9 v9_0 v9_1 v9_2 v9_3 a9_4 a9_5 a9_6 a9_7 a9_8 a9_9 a9_10 a9_11 a9_12 v9_13 v9_14 v9_15 v9_16 v9_17 v9_18 a9_19 v9_20 v9_21 v9_22 a9_23 a9_24 a9_25 a9_26 a9_27 a9_28 a9_29 a9_30 a9_31 a9_32 a9_33 a9_34 v9_35 v9_36 a9_37 a9_38 a9_39 a9_40 a9_41 v9_42 a9_43 a9_44 a9_45 a9_46 a9_47 v9_48 v9_49 v9_50 v9_51 a9_52 a9_53 v9_54 v9_55 a9_56 a9_57 v9_58 a9_59 a9_60 a9_61)), (a9_34, .inl (cyI, 202, .inl g9_34)), (a9_61, .inl (cyI, 2, .inl g9_61))]) [0, 1, 2] rfl
                  have hD9 := hD.sub (ws' := [(o9, .inr (9, x_O9 v9_0 v9_1 v9_2 v9_3 a9_4 a9_5 a9_6 a9_7 a9_8 a9_9 a9_10 a9_11 a9_12 v9_13 v9_14 v9_15 v9_16 v9_17 v9_18 a9_19 v9_20 v9_21 v9_22 a9_23 a9_24 a9_25 a9_26 a9_27 a9_28 a9_29 a9_30 a9_31 a9_32 a9_33 a9_34 v9_35 v9_36 a9_37 a9_38 a9_39 a9_40 a9_41 v9_42 a9_43 a9_44 a9_45 a9_46 a9_47 v9_48 v9_49 v9_50 v9_51 a9_52 a9_53 v9_54 v9_55 a9_56 a9_57 v9_58 a9_59 a9_60 a9_61)), (a9_34, .inl (cyI, 202, .inl g9_34)), (a9_61, .inl (cyI, 2, .inl g9_61))]) [0, 1, 2] (by decide) rfl
                  exact W.zret (ty := .boolean) hx hb hr rfl (fun t ht hW => ⟨⟨_, (), rfl, ⟨rfl, rfl⟩, by rw [ht]; exact hP9, va_K.moved hW.alike hK, hD9⟩, hS.F ht⟩) hS.2.2 dX9_moves_209
            · replace hf := x_in c_57 hf
              refine lv_iconst (v := 1) hx hb dX9_moves_157 (by decide) ?_
              refine lv_goto (tgt := 162) hx hb dX9_moves_158 (by decide) ?_
              refine lv_istore (lv' := [(4, .int 1), (3, .int (g9_34 (Int32.toNatClampNeg (v9_35 - (2 : Int32))))), (2, .int 0), (0, .ref o9), (1, .int p1)]) hx hb dX9_moves_162 hl (by decide) rfl (fun ls hl => ?_)
              refine lv_iload_n hx hb dX9_moves_164 rfl (lv_at hl 4 rfl) ?_
              refine lv_bipush (v := 91) hx hb dX9_moves_165 (by decide) ?_
              refine lv_icmp_gt (tgt := 177) hx hb dX9_moves_167 (by decide) (fun c_65 => ?_) (fun c_65 => ?_)
              · replace hf := x_ip c_65 hf
                refine lv_iload_n hx hb dX9_moves_177 rfl (lv_at hl 4 rfl) ?_
                refine lv_bipush (v := 92) hx hb dX9_moves_178 (by decide) ?_
                refine lv_isub hx hb dX9_moves_180 ?_
                refine lv_istore (lv' := [(5, .int (p1 - (92 : Int32))), (4, .int 1), (3, .int (g9_34 (Int32.toNatClampNeg (v9_35 - (2 : Int32))))), (2, .int 0), (0, .ref o9), (1, .int p1)]) hx hb dX9_moves_181 hl (by decide) rfl (fun ls hl => ?_)
                refine lv_iload hx hb dX9_moves_183 (lv_at hl 1 rfl) ?_
                refine lv_iconst (v := 1) hx hb dX9_moves_185 (by decide) ?_
                refine lv_icmp_ne (tgt := 200) hx hb dX9_moves_186 (by decide) (fun c_66 => absurd (by decide) c_66) (fun _ => ?_)
                refine lv_aload_n hx hb dX9_moves_189 rfl (lv_at hl 4 rfl) ?_
                refine lv_iconst (v := 1) hx hb dX9_moves_190 (by decide) ?_
                obtain ⟨r_67, h_67, hf⟩ := x_bi hf
                have hPc := hP.sub (ws' := [(o9, .inr (9, x_O9 v9_0 v9_1 v9_2 v9_3 a9_4 a9_5 a9_6 a9_7 a9_8 a9_9 a9_10 a9_11 a9_12 v9_13 v9_14 v9_15 v9_16 v9_17 v9_18 a9_19 v9_20 v9_21 v9_22 a9_23 a9_24 a9_25 a9_26 a9_27 a9_28 a9_29 a9_30 a9_31 a9_32 a9_33 a9_34 v9_35 v9_36 a9_37 a9_38 a9_39 a9_40 a9_41 v9_42 a9_43 a9_44 a9_45 a9_46 a9_47 v9_48 v9_49 v9_50 v9_51 a9_52 a9_53 v9_54 v9_55 a9_56 a9_57 v9_58 a9_59 a9_60 a9_61)), (a9_34, .inl (cyI, 202, .inl g9_34))]) [0, 1] rfl
                refine va_calli (va_runV (As := [.int 1]) (rest := []) ⟨hx, hb, hml, hown, hts⟩ (c_X9_single l dC dI cyI cyZ cyJ H.size o9 v9_0 v9_1 v9_2 v9_3 a9_4 a9_5 a9_6 a9_7 a9_8 a9_9 a9_10 a9_11 a9_12 v9_13 v9_14 v9_15 v9_16 v9_17 v9_18 a9_19 v9_20 v9_21 v9_22 a9_23 a9_24 a9_25 a9_26 a9_27 a9_28 a9_29 a9_30 a9_31 a9_32 a9_33 a9_34 v9_35 v9_36 a9_37 a9_38 a9_39 a9_40 a9_41 v9_42 a9_43 a9_44 a9_45 a9_46 a9_47 v9_48 v9_49 v9_50 v9_51 a9_52 a9_53 v9_54 v9_55 a9_56 a9_57 v9_58 a9_59 a9_60 a9_61 g9_34 1 r_67 h_67) (cwV 1 hts gX9_moves_X9_single rfl rfl rfl (by decide +kernel) ⟨Nat.le_of_ble_eq_true rfl, Nat.le_of_ble_eq_true rfl⟩) (x_pV hN hK hPc (ci := 9) (q0 := 0) rfl rfl) rfl rfl hl.1 rfl (lv_room (Nat.le_of_ble_eq_true rfl)) dX9_moves_191 ⟨Nat.le_of_ble_eq_true rfl, Nat.le_of_ble_eq_true rfl⟩) hS x_nA (x_nf hA hS) (fun q_67 u t H1 locs ht hvm hw hB hz1 hk1 hS => ?_)
                have hP := x_kp hP hk1
                clear ht hvm hB hz1 hk1 t u hPc
                generalize H1 = H at hP hS ⊢
                obtain ⟨hw, b_67⟩ := hw
                obtain rfl := hw.symm
                refine lv_if_eq (tgt := 208) hx hb dX9_moves_194 (by decide) (fun c_68 => ?_) (fun c_68 => ?_)
                · replace hf := x_ip c_68 hf
                  refine lv_iconst (v := 0) hx hb dX9_moves_208 (by decide) ?_
                  obtain rfl := Option.some.inj hf
                  have hP9 := hP.sub (ws' := [(o9, .inr (9, x_O9 v9_0 v9_1 v9_2 v9_3 a9_4 a9_5 a9_6 a9_7 a9_8 a9_9 a9_10 a9_11 a9_12 v9_13 v9_14 v9_15 v9_16 v9_17 v9_18 a9_19 v9_20 v9_21 v9_22 a9_23 a9_24 a9_25 a9_26 a9_27 a9_28 a9_29 a9_30 a9_31 a9_32 a9_33 a9_34 v9_35 v9_36 a9_37 a9_38 a9_39 a9_40 a9_41 v9_42 a9_43 a9_44 a9_45 a9_46 a9_47 v9_48 v9_49 v9_50 v9_51 a9_52 a9_53 v9_54 v9_55 a9_56 a9_57 v9_58 a9_59 a9_60 a9_61)), (a9_34, .inl (cyI, 202, .inl g9_34)), (a9_61, .inl (cyI, 2, .inl g9_61))]) [0, 1, 2] rfl
                  have hD9 := hD.sub (ws' := [(o9, .inr (9, x_O9 v9_0 v9_1 v9_2 v9_3 a9_4 a9_5 a9_6 a9_7 a9_8 a9_9 a9_10 a9_11 a9_12 v9_13 v9_14 v9_15 v9_16 v9_17 v9_18 a9_19 v9_20 v9_21 v9_22 a9_23 a9_24 a9_25 a9_26 a9_27 a9_28 a9_29 a9_30 a9_31 a9_32 a9_33 a9_34 v9_35 v9_36 a9_37 a9_38 a9_39 a9_40 a9_41 v9_42 a9_43 a9_44 a9_45 a9_46 a9_47 v9_48 v9_49 v9_50 v9_51 a9_52 a9_53 v9_54 v9_55 a9_56 a9_57 v9_58 a9_59 a9_60 a9_61)), (a9_34, .inl (cyI, 202, .inl g9_34)), (a9_61, .inl (cyI, 2, .inl g9_61))]) [0, 1, 2] (by decide) rfl
                  exact W.zret (ty := .boolean) hx hb hr rfl (fun t ht hW => ⟨⟨_, (), rfl, ⟨rfl, rfl⟩, by rw [ht]; exact hP9, va_K.moved hW.alike hK, hD9⟩, hS.F ht⟩) hS.2.2 dX9_moves_209
                · replace hf := x_in c_68 hf
                  refine lv_goto (tgt := 210) hx hb dX9_moves_197 (by decide) ?_
                  exact (hWW _ _ _ _ _).mpr ((J v9_35 (2, 0, 0, g9_34 (Int32.toNatClampNeg (v9_35 - (2 : Int32))), 1, p1 - (92 : Int32), 0, 0, g9_34, g9_61) _ hf rfl _ _ _ _ _ _ _ _ _ _ rfl).2.2.1 rfl H locs ls hP hD hS (lv_sub hl [4, 3, 2, 1, 0] rfl))
              · replace hf := x_in c_65 hf
                refine lv_iload_n hx hb dX9_moves_170 rfl (lv_at hl 4 rfl) ?_
                refine lv_bipush (v := 89) hx hb dX9_moves_171 (by decide) ?_
                refine lv_isub hx hb dX9_moves_173 ?_
                refine lv_goto (tgt := 181) hx hb dX9_moves_174 (by decide) ?_
                refine lv_istore (lv' := [(5, .int (p1 - (89 : Int32))), (4, .int 1), (3, .int (g9_34 (Int32.toNatClampNeg (v9_35 - (2 : Int32))))), (2, .int 0), (0, .ref o9), (1, .int p1)]) hx hb dX9_moves_181 hl (by decide) rfl (fun ls hl => ?_)
                refine lv_iload hx hb dX9_moves_183 (lv_at hl 1 rfl) ?_
                refine lv_iconst (v := 1) hx hb dX9_moves_185 (by decide) ?_
                refine lv_icmp_ne (tgt := 200) hx hb dX9_moves_186 (by decide) (fun c_69 => absurd (by decide) c_69) (fun _ => ?_)
                refine lv_aload_n hx hb dX9_moves_189 rfl (lv_at hl 4 rfl) ?_
                refine lv_iconst (v := 1) hx hb dX9_moves_190 (by decide) ?_
                obtain ⟨r_70, h_70, hf⟩ := x_bi hf
                have hPc := hP.sub (ws' := [(o9, .inr (9, x_O9 v9_0 v9_1 v9_2 v9_3 a9_4 a9_5 a9_6 a9_7 a9_8 a9_9 a9_10 a9_11 a9_12 v9_13 v9_14 v9_15 v9_16 v9_17 v9_18 a9_19 v9_20 v9_21 v9_22 a9_23 a9_24 a9_25 a9_26 a9_27 a9_28 a9_29 a9_30 a9_31 a9_32 a9_33 a9_34 v9_35 v9_36 a9_37 a9_38 a9_39 a9_40 a9_41 v9_42 a9_43 a9_44 a9_45 a9_46 a9_47 v9_48 v9_49 v9_50 v9_51 a9_52 a9_53 v9_54 v9_55 a9_56 a9_57 v9_58 a9_59 a9_60 a9_61)), (a9_34, .inl (cyI, 202, .inl g9_34))]) [0, 1] rfl
                refine va_calli (va_runV (As := [.int 1]) (rest := []) ⟨hx, hb, hml, hown, hts⟩ (c_X9_single l dC dI cyI cyZ cyJ H.size o9 v9_0 v9_1 v9_2 v9_3 a9_4 a9_5 a9_6 a9_7 a9_8 a9_9 a9_10 a9_11 a9_12 v9_13 v9_14 v9_15 v9_16 v9_17 v9_18 a9_19 v9_20 v9_21 v9_22 a9_23 a9_24 a9_25 a9_26 a9_27 a9_28 a9_29 a9_30 a9_31 a9_32 a9_33 a9_34 v9_35 v9_36 a9_37 a9_38 a9_39 a9_40 a9_41 v9_42 a9_43 a9_44 a9_45 a9_46 a9_47 v9_48 v9_49 v9_50 v9_51 a9_52 a9_53 v9_54 v9_55 a9_56 a9_57 v9_58 a9_59 a9_60 a9_61 g9_34 1 r_70 h_70) (cwV 1 hts gX9_moves_X9_single rfl rfl rfl (by decide +kernel) ⟨Nat.le_of_ble_eq_true rfl, Nat.le_of_ble_eq_true rfl⟩) (x_pV hN hK hPc (ci := 9) (q0 := 0) rfl rfl) rfl rfl hl.1 rfl (lv_room (Nat.le_of_ble_eq_true rfl)) dX9_moves_191 ⟨Nat.le_of_ble_eq_true rfl, Nat.le_of_ble_eq_true rfl⟩) hS x_nA (x_nf hA hS) (fun q_70 u t H1 locs ht hvm hw hB hz1 hk1 hS => ?_)
                have hP := x_kp hP hk1
                clear ht hvm hB hz1 hk1 t u hPc
                generalize H1 = H at hP hS ⊢
                obtain ⟨hw, b_70⟩ := hw
                obtain rfl := hw.symm
                refine lv_if_eq (tgt := 208) hx hb dX9_moves_194 (by decide) (fun c_71 => ?_) (fun c_71 => ?_)
                · replace hf := x_ip c_71 hf
                  refine lv_iconst (v := 0) hx hb dX9_moves_208 (by decide) ?_
                  obtain rfl := Option.some.inj hf
                  have hP9 := hP.sub (ws' := [(o9, .inr (9, x_O9 v9_0 v9_1 v9_2 v9_3 a9_4 a9_5 a9_6 a9_7 a9_8 a9_9 a9_10 a9_11 a9_12 v9_13 v9_14 v9_15 v9_16 v9_17 v9_18 a9_19 v9_20 v9_21 v9_22 a9_23 a9_24 a9_25 a9_26 a9_27 a9_28 a9_29 a9_30 a9_31 a9_32 a9_33 a9_34 v9_35 v9_36 a9_37 a9_38 a9_39 a9_40 a9_41 v9_42 a9_43 a9_44 a9_45 a9_46 a9_47 v9_48 v9_49 v9_50 v9_51 a9_52 a9_53 v9_54 v9_55 a9_56 a9_57 v9_58 a9_59 a9_60 a9_61)), (a9_34, .inl (cyI, 202, .inl g9_34)), (a9_61, .inl (cyI, 2, .inl g9_61))]) [0, 1, 2] rfl
                  have hD9 := hD.sub (ws' := [(o9, .inr (9, x_O9 v9_0 v9_1 v9_2 v9_3 a9_4 a9_5 a9_6 a9_7 a9_8 a9_9 a9_10 a9_11 a9_12 v9_13 v9_14 v9_15 v9_16 v9_17 v9_18 a9_19 v9_20 v9_21 v9_22 a9_23 a9_24 a9_25 a9_26 a9_27 a9_28 a9_29 a9_30 a9_31 a9_32 a9_33 a9_34 v9_35 v9_36 a9_37 a9_38 a9_39 a9_40 a9_41 v9_42 a9_43 a9_44 a9_45 a9_46 a9_47 v9_48 v9_49 v9_50 v9_51 a9_52 a9_53 v9_54 v9_55 a9_56 a9_57 v9_58 a9_59 a9_60 a9_61)), (a9_34, .inl (cyI, 202, .inl g9_34)), (a9_61, .inl (cyI, 2, .inl g9_61))]) [0, 1, 2] (by decide) rfl
                  exact W.zret (ty := .boolean) hx hb hr rfl (fun t ht hW => ⟨⟨_, (), rfl, ⟨rfl, rfl⟩, by rw [ht]; exact hP9, va_K.moved hW.alike hK, hD9⟩, hS.F ht⟩) hS.2.2 dX9_moves_209
                · replace hf := x_in c_71 hf
                  refine lv_goto (tgt := 210) hx hb dX9_moves_197 (by decide) ?_
                  exact (hWW _ _ _ _ _).mpr ((J v9_35 (2, 0, 0, g9_34 (Int32.toNatClampNeg (v9_35 - (2 : Int32))), 1, p1 - (89 : Int32), 0, 0, g9_34, g9_61) _ hf rfl _ _ _ _ _ _ _ _ _ _ rfl).2.2.1 rfl H locs ls hP hD hS (lv_sub hl [4, 3, 2, 1, 0] rfl))
          · replace hf := x_ip c_56 hf
            refine lv_aload_n hx hb dX9_moves_107 rfl (lv_at hl 2 rfl) ?_
            refine lv_iconst (v := 1) hx hb dX9_moves_108 (by decide) ?_
            obtain ⟨r_72, h_72, hf⟩ := x_bi hf
            have hPc := hP.sub (ws' := [(o9, .inr (9, x_O9 v9_0 v9_1 v9_2 v9_3 a9_4 a9_5 a9_6 a9_7 a9_8 a9_9 a9_10 a9_11 a9_12 v9_13 v9_14 v9_15 v9_16 v9_17 v9_18 a9_19 v9_20 v9_21 v9_22 a9_23 a9_24 a9_25 a9_26 a9_27 a9_28 a9_29 a9_30 a9_31 a9_32 a9_33 a9_34 v9_35 v9_36 a9_37 a9_38 a9_39 a9_40 a9_41 v9_42 a9_43 a9_44 a9_45 a9_46 a9_47 v9_48 v9_49 v9_50 v9_51 a9_52 a9_53 v9_54 v9_55 a9_56 a9_57 v9_58 a9_59 a9_60 a9_61)), (a9_34, .inl (cyI, 202, .inl g9_34))]) [0, 1] rfl
            refine va_calli (va_runV (As := [.int 1]) (rest := []) ⟨hx, hb, hml, hown, hts⟩ (c_X9_single l dC dI cyI cyZ cyJ H.size o9 v9_0 v9_1 v9_2 v9_3 a9_4 a9_5 a9_6 a9_7 a9_8 a9_9 a9_10 a9_11 a9_12 v9_13 v9_14 v9_15 v9_16 v9_17 v9_18 a9_19 v9_20 v9_21 v9_22 a9_23 a9_24 a9_25 a9_26 a9_27 a9_28 a9_29 a9_30 a9_31 a9_32 a9_33 a9_34 v9_35 v9_36 a9_37 a9_38 a9_39 a9_40 a9_41 v9_42 a9_43 a9_44 a9_45 a9_46 a9_47 v9_48 v9_49 v9_50 v9_51 a9_52 a9_53 v9_54 v9_55 a9_56 a9_57 v9_58 a9_59 a9_60 a9_61 g9_34 1 r_72 h_72) (cwV 1 hts gX9_moves_X9_single rfl rfl rfl (by decide +kernel) ⟨Nat.le_of_ble_eq_true rfl, Nat.le_of_ble_eq_true rfl⟩) (x_pV hN hK hPc (ci := 9) (q0 := 0) rfl rfl) rfl rfl hl.1 rfl (lv_room (Nat.le_of_ble_eq_true rfl)) dX9_moves_109 ⟨Nat.le_of_ble_eq_true rfl, Nat.le_of_ble_eq_true rfl⟩) hS x_nA (x_nf hA hS) (fun q_72 u t H1 locs ht hvm hw hB hz1 hk1 hS => ?_)
            have hP := x_kp hP hk1
            clear ht hvm hB hz1 hk1 t u hPc
            generalize H1 = H at hP hS ⊢
            obtain ⟨hw, b_72⟩ := hw
            obtain rfl := hw.symm
            refine lv_if_eq (tgt := 123) hx hb dX9_moves_112 (by decide) (fun c_73 => ?_) (fun c_73 => ?_)
            · replace hf := x_ip c_73 hf
              refine lv_iconst (v := 0) hx hb dX9_moves_123 (by decide) ?_
              obtain rfl := Option.some.inj hf
              have hP9 := hP.sub (ws' := [(o9, .inr (9, x_O9 v9_0 v9_1 v9_2 v9_3 a9_4 a9_5 a9_6 a9_7 a9_8 a9_9 a9_10 a9_11 a9_12 v9_13 v9_14 v9_15 v9_16 v9_17 v9_18 a9_19 v9_20 v9_21 v9_22 a9_23 a9_24 a9_25 a9_26 a9_27 a9_28 a9_29 a9_30 a9_31 a9_32 a9_33 a9_34 v9_35 v9_36 a9_37 a9_38 a9_39 a9_40 a9_41 v9_42 a9_43 a9_44 a9_45 a9_46 a9_47 v9_48 v9_49 v9_50 v9_51 a9_52 a9_53 v9_54 v9_55 a9_56 a9_57 v9_58 a9_59 a9_60 a9_61)), (a9_34, .inl (cyI, 202, .inl g9_34)), (a9_61, .inl (cyI, 2, .inl g9_61))]) [0, 1, 2] rfl
              have hD9 := hD.sub (ws' := [(o9, .inr (9, x_O9 v9_0 v9_1 v9_2 v9_3 a9_4 a9_5 a9_6 a9_7 a9_8 a9_9 a9_10 a9_11 a9_12 v9_13 v9_14 v9_15 v9_16 v9_17 v9_18 a9_19 v9_20 v9_21 v9_22 a9_23 a9_24 a9_25 a9_26 a9_27 a9_28 a9_29 a9_30 a9_31 a9_32 a9_33 a9_34 v9_35 v9_36 a9_37 a9_38 a9_39 a9_40 a9_41 v9_42 a9_43 a9_44 a9_45 a9_46 a9_47 v9_48 v9_49 v9_50 v9_51 a9_52 a9_53 v9_54 v9_55 a9_56 a9_57 v9_58 a9_59 a9_60 a9_61)), (a9_34, .inl (cyI, 202, .inl g9_34)), (a9_61, .inl (cyI, 2, .inl g9_61))]) [0, 1, 2] (by decide) rfl
              exact W.zret (ty := .boolean) hx hb hr rfl (fun t ht hW => ⟨⟨_, (), rfl, ⟨rfl, rfl⟩, by rw [ht]; exact hP9, va_K.moved hW.alike hK, hD9⟩, hS.F ht⟩) hS.2.2 dX9_moves_124
            · replace hf := x_in c_73 hf
              refine lv_aload_n hx hb dX9_moves_115 rfl (lv_at hl 2 rfl) ?_
              refine lv_iconst (v := 2) hx hb dX9_moves_116 (by decide) ?_
              obtain ⟨r_74, h_74, hf⟩ := x_bi hf
              have hPc := hP.sub (ws' := [(o9, .inr (9, x_O9 v9_0 v9_1 v9_2 v9_3 a9_4 a9_5 a9_6 a9_7 a9_8 a9_9 a9_10 a9_11 a9_12 v9_13 v9_14 v9_15 v9_16 v9_17 v9_18 a9_19 v9_20 v9_21 v9_22 a9_23 a9_24 a9_25 a9_26 a9_27 a9_28 a9_29 a9_30 a9_31 a9_32 a9_33 a9_34 v9_35 v9_36 a9_37 a9_38 a9_39 a9_40 a9_41 v9_42 a9_43 a9_44 a9_45 a9_46 a9_47 v9_48 v9_49 v9_50 v9_51 a9_52 a9_53 v9_54 v9_55 a9_56 a9_57 v9_58 a9_59 a9_60 a9_61)), (a9_34, .inl (cyI, 202, .inl g9_34))]) [0, 1] rfl
              refine va_calli (va_runV (As := [.int 2]) (rest := []) ⟨hx, hb, hml, hown, hts⟩ (c_X9_single l dC dI cyI cyZ cyJ H.size o9 v9_0 v9_1 v9_2 v9_3 a9_4 a9_5 a9_6 a9_7 a9_8 a9_9 a9_10 a9_11 a9_12 v9_13 v9_14 v9_15 v9_16 v9_17 v9_18 a9_19 v9_20 v9_21 v9_22 a9_23 a9_24 a9_25 a9_26 a9_27 a9_28 a9_29 a9_30 a9_31 a9_32 a9_33 a9_34 v9_35 v9_36 a9_37 a9_38 a9_39 a9_40 a9_41 v9_42 a9_43 a9_44 a9_45 a9_46 a9_47 v9_48 v9_49 v9_50 v9_51 a9_52 a9_53 v9_54 v9_55 a9_56 a9_57 v9_58 a9_59 a9_60 a9_61 g9_34 2 r_74 h_74) (cwV 1 hts gX9_moves_X9_single rfl rfl rfl (by decide +kernel) ⟨Nat.le_of_ble_eq_true rfl, Nat.le_of_ble_eq_true rfl⟩) (x_pV hN hK hPc (ci := 9) (q0 := 0) rfl rfl) rfl rfl hl.1 rfl (lv_room (Nat.le_of_ble_eq_true rfl)) dX9_moves_117 ⟨Nat.le_of_ble_eq_true rfl, Nat.le_of_ble_eq_true rfl⟩) hS x_nA (x_nf hA hS) (fun q_74 u t H1 locs ht hvm hw hB hz1 hk1 hS => ?_)
              have hP := x_kp hP hk1
              clear ht hvm hB hz1 hk1 t u hPc
              generalize H1 = H at hP hS ⊢
              obtain ⟨hw, b_74⟩ := hw
              obtain rfl := hw.symm
              refine lv_if_ne (tgt := 125) hx hb dX9_moves_120 (by decide) (fun c_75 => ?_) (fun c_75 => ?_)
              · replace hf := x_in c_75 hf
                refine lv_aload_n hx hb dX9_moves_125 rfl (lv_at hl 2 rfl) ?_
                refine va_get (D := (dC, dI)) (ci := 9) (v := .ref a9_34) (C := RX9) (T := TX9) (N := 62) hx hb hts i_X9_moves_X9 hown hK hP 0 rfl rfl 34 (by decide) k_3 (fun _ h9 => h9) rfl dX9_moves_126 ?_
                refine lv_aload_n hx hb dX9_moves_129 rfl (lv_at hl 2 rfl) ?_
                refine va_get (D := (dC, dI)) (ci := 9) (v := .int v9_35) (C := RX9) (T := TX9) (N := 62) hx hb hts i_X9_moves_X9 hown hK hP 0 rfl rfl 35 (by decide) k_1 (fun _ h9 => h9) rfl dX9_moves_130 ?_
                refine lv_iconst (v := 2) hx hb dX9_moves_133 (by decide) ?_
                refine lv_isub hx hb dX9_moves_134 ?_
                refine lv_iload_n hx hb dX9_moves_135 rfl (lv_at hl 1 rfl) ?_
                obtain ⟨g_76, hf⟩ := x_gu hf
                refine va_iast hx hb hK hP hD hS 1 0 rfl rfl (x_gdin g_76) dX9_moves_136 (fun H locs hP hD hS => ?_)
                have hP : va_P (dC, dI) vwCl [(o9, .inr (9, x_O9 v9_0 v9_1 v9_2 v9_3 a9_4 a9_5 a9_6 a9_7 a9_8 a9_9 a9_10 a9_11 a9_12 v9_13 v9_14 v9_15 v9_16 v9_17 v9_18 a9_19 v9_20 v9_21 v9_22 a9_23 a9_24 a9_25 a9_26 a9_27 a9_28 a9_29 a9_30 a9_31 a9_32 a9_33 a9_34 v9_35 v9_36 a9_37 a9_38 a9_39 a9_40 a9_41 v9_42 a9_43 a9_44 a9_45 a9_46 a9_47 v9_48 v9_49 v9_50 v9_51 a9_52 a9_53 v9_54 v9_55 a9_56 a9_57 v9_58 a9_59 a9_60 a9_61)), (a9_34, .inl (cyI, 202, .inl (upd g9_34 (Int32.toNatClampNeg (v9_35 - (2 : Int32))) 0))), (a9_61, .inl (cyI, 2, .inl g9_61))] H := hP
                have hD : va_D A [(o9, .inr (9, x_O9 v9_0 v9_1 v9_2 v9_3 a9_4 a9_5 a9_6 a9_7 a9_8 a9_9 a9_10 a9_11 a9_12 v9_13 v9_14 v9_15 v9_16 v9_17 v9_18 a9_19 v9_20 v9_21 v9_22 a9_23 a9_24 a9_25 a9_26 a9_27 a9_28 a9_29 a9_30 a9_31 a9_32 a9_33 a9_34 v9_35 v9_36 a9_37 a9_38 a9_39 a9_40 a9_41 v9_42 a9_43 a9_44 a9_45 a9_46 a9_47 v9_48 v9_49 v9_50 v9_51 a9_52 a9_53 v9_54 v9_55 a9_56 a9_57 v9_58 a9_59 a9_60 a9_61)), (a9_34, .inl (cyI, 202, .inl (upd g9_34 (Int32.toNatClampNeg (v9_35 - (2 : Int32))) 0))), (a9_61, .inl (cyI, 2, .inl g9_61))] := hD
                refine lv_aload_n hx hb dX9_moves_137 rfl (lv_at hl 2 rfl) ?_
                refine va_get (D := (dC, dI)) (ci := 9) (v := .ref a9_34) (C := RX9) (T := TX9) (N := 62) hx hb hts i_X9_moves_X9 hown hK hP 0 rfl rfl 34 (by decide) k_3 (fun _ h9 => h9) rfl dX9_moves_138 ?_
                refine lv_aload_n hx hb dX9_moves_141 rfl (lv_at hl 2 rfl) ?_
                refine va_get (D := (dC, dI)) (ci := 9) (v := .int v9_35) (C := RX9) (T := TX9) (N := 62) hx hb hts i_X9_moves_X9 hown hK hP 0 rfl rfl 35 (by decide) k_1 (fun _ h9 => h9) rfl dX9_moves_142 ?_
                refine lv_iconst (v := 1) hx hb dX9_moves_145 (by decide) ?_
                refine lv_isub hx hb dX9_moves_146 ?_
                refine lv_iload_n hx hb dX9_moves_147 rfl (lv_at hl 0 rfl) ?_
                obtain ⟨g_77, hf⟩ := x_gu hf
                refine va_iast hx hb hK hP hD hS 1 0 rfl rfl (x_gdin g_77) dX9_moves_148 (fun H locs hP hD hS => ?_)
                have hP : va_P (dC, dI) vwCl [(o9, .inr (9, x_O9 v9_0 v9_1 v9_2 v9_3 a9_4 a9_5 a9_6 a9_7 a9_8 a9_9 a9_10 a9_11 a9_12 v9_13 v9_14 v9_15 v9_16 v9_17 v9_18 a9_19 v9_20 v9_21 v9_22 a9_23 a9_24 a9_25 a9_26 a9_27 a9_28 a9_29 a9_30 a9_31 a9_32 a9_33 a9_34 v9_35 v9_36 a9_37 a9_38 a9_39 a9_40 a9_41 v9_42 a9_43 a9_44 a9_45 a9_46 a9_47 v9_48 v9_49 v9_50 v9_51 a9_52 a9_53 v9_54 v9_55 a9_56 a9_57 v9_58 a9_59 a9_60 a9_61)), (a9_34, .inl (cyI, 202, .inl (upd (upd g9_34 (Int32.toNatClampNeg (v9_35 - (2 : Int32))) 0) (Int32.toNatClampNeg (v9_35 - (1 : Int32))) (g9_34 (Int32.toNatClampNeg (v9_35 - (2 : Int32))))))), (a9_61, .inl (cyI, 2, .inl g9_61))] H := hP
                have hD : va_D A [(o9, .inr (9, x_O9 v9_0 v9_1 v9_2 v9_3 a9_4 a9_5 a9_6 a9_7 a9_8 a9_9 a9_10 a9_11 a9_12 v9_13 v9_14 v9_15 v9_16 v9_17 v9_18 a9_19 v9_20 v9_21 v9_22 a9_23 a9_24 a9_25 a9_26 a9_27 a9_28 a9_29 a9_30 a9_31 a9_32 a9_33 a9_34 v9_35 v9_36 a9_37 a9_38 a9_39 a9_40 a9_41 v9_42 a9_43 a9_44 a9_45 a9_46 a9_47 v9_48 v9_49 v9_50 v9_51 a9_52 a9_53 v9_54 v9_55 a9_56 a9_57 v9_58 a9_59 a9_60 a9_61)), (a9_34, .inl (cyI, 202, .inl (upd (upd g9_34 (Int32.toNatClampNeg (v9_35 - (2 : Int32))) 0) (Int32.toNatClampNeg (v9_35 - (1 : Int32))) (g9_34 (Int32.toNatClampNeg (v9_35 - (2 : Int32))))))), (a9_61, .inl (cyI, 2, .inl g9_61))] := hD
                refine lv_iconst (v := 1) hx hb dX9_moves_149 (by decide) ?_
                obtain rfl := Option.some.inj hf
                have hP9 := hP.sub (ws' := [(o9, .inr (9, x_O9 v9_0 v9_1 v9_2 v9_3 a9_4 a9_5 a9_6 a9_7 a9_8 a9_9 a9_10 a9_11 a9_12 v9_13 v9_14 v9_15 v9_16 v9_17 v9_18 a9_19 v9_20 v9_21 v9_22 a9_23 a9_24 a9_25 a9_26 a9_27 a9_28 a9_29 a9_30 a9_31 a9_32 a9_33 a9_34 v9_35 v9_36 a9_37 a9_38 a9_39 a9_40 a9_41 v9_42 a9_43 a9_44 a9_45 a9_46 a9_47 v9_48 v9_49 v9_50 v9_51 a9_52 a9_53 v9_54 v9_55 a9_56 a9_57 v9_58 a9_59 a9_60 a9_61)), (a9_34, .inl (cyI, 202, .inl (upd (upd g9_34 (Int32.toNatClampNeg (v9_35 - (2 : Int32))) 0) (Int32.toNatClampNeg (v9_35 - (1 : Int32))) (g9_34 (Int32.toNatClampNeg (v9_35 - (2 : Int32))))))), (a9_61, .inl (cyI, 2, .inl g9_61))]) [0, 1, 2] rfl
                have hD9 := hD.sub (ws' := [(o9, .inr (9, x_O9 v9_0 v9_1 v9_2 v9_3 a9_4 a9_5 a9_6 a9_7 a9_8 a9_9 a9_10 a9_11 a9_12 v9_13 v9_14 v9_15 v9_16 v9_17 v9_18 a9_19 v9_20 v9_21 v9_22 a9_23 a9_24 a9_25 a9_26 a9_27 a9_28 a9_29 a9_30 a9_31 a9_32 a9_33 a9_34 v9_35 v9_36 a9_37 a9_38 a9_39 a9_40 a9_41 v9_42 a9_43 a9_44 a9_45 a9_46 a9_47 v9_48 v9_49 v9_50 v9_51 a9_52 a9_53 v9_54 v9_55 a9_56 a9_57 v9_58 a9_59 a9_60 a9_61)), (a9_34, .inl (cyI, 202, .inl (upd (upd g9_34 (Int32.toNatClampNeg (v9_35 - (2 : Int32))) 0) (Int32.toNatClampNeg (v9_35 - (1 : Int32))) (g9_34 (Int32.toNatClampNeg (v9_35 - (2 : Int32))))))), (a9_61, .inl (cyI, 2, .inl g9_61))]) [0, 1, 2] (by decide) rfl
                exact W.zret (ty := .boolean) hx hb hr rfl (fun t ht hW => ⟨⟨_, (), rfl, ⟨rfl, rfl⟩, by rw [ht]; exact hP9, va_K.moved hW.alike hK, hD9⟩, hS.F ht⟩) hS.2.2 dX9_moves_150
              · replace hf := x_ip c_75 hf
                refine lv_iconst (v := 0) hx hb dX9_moves_123 (by decide) ?_
                obtain rfl := Option.some.inj hf
                have hP9 := hP.sub (ws' := [(o9, .inr (9, x_O9 v9_0 v9_1 v9_2 v9_3 a9_4 a9_5 a9_6 a9_7 a9_8 a9_9 a9_10 a9_11 a9_12 v9_13 v9_14 v9_15 v9_16 v9_17 v9_18 a9_19 v9_20 v9_21 v9_22 a9_23 a9_24 a9_25 a9_26 a9_27 a9_28 a9_29 a9_30 a9_31 a9_32 a9_33 a9_34 v9_35 v9_36 a9_37 a9_38 a9_39 a9_40 a9_41 v9_42 a9_43 a9_44 a9_45 a9_46 a9_47 v9_48 v9_49 v9_50 v9_51 a9_52 a9_53 v9_54 v9_55 a9_56 a9_57 v9_58 a9_59 a9_60 a9_61)), (a9_34, .inl (cyI, 202, .inl g9_34)), (a9_61, .inl (cyI, 2, .inl g9_61))]) [0, 1, 2] rfl
                have hD9 := hD.sub (ws' := [(o9, .inr (9, x_O9 v9_0 v9_1 v9_2 v9_3 a9_4 a9_5 a9_6 a9_7 a9_8 a9_9 a9_10 a9_11 a9_12 v9_13 v9_14 v9_15 v9_16 v9_17 v9_18 a9_19 v9_20 v9_21 v9_22 a9_23 a9_24 a9_25 a9_26 a9_27 a9_28 a9_29 a9_30 a9_31 a9_32 a9_33 a9_34 v9_35 v9_36 a9_37 a9_38 a9_39 a9_40 a9_41 v9_42 a9_43 a9_44 a9_45 a9_46 a9_47 v9_48 v9_49 v9_50 v9_51 a9_52 a9_53 v9_54 v9_55 a9_56 a9_57 v9_58 a9_59 a9_60 a9_61)), (a9_34, .inl (cyI, 202, .inl g9_34)), (a9_61, .inl (cyI, 2, .inl g9_61))]) [0, 1, 2] (by decide) rfl
                exact W.zret (ty := .boolean) hx hb hr rfl (fun t ht hW => ⟨⟨_, (), rfl, ⟨rfl, rfl⟩, by rw [ht]; exact hP9, va_K.moved hW.alike hK, hD9⟩, hS.F ht⟩) hS.2.2 dX9_moves_124
        · replace hf := x_ip c_55 hf
          exact (hWW _ _ _ _ _).mpr ((J v9_35 (0, p1, 0, 0, 0, 0, 0, 0, g9_34, g9_61) _ hf rfl _ _ _ _ _ _ _ _ _ _ rfl).1 rfl H locs ls hP hD hS (lv_sub hl [2, 3] rfl))
  · replace hf := x_in c_27 hf
    refine lv_aload_n hx hb dX9_moves_7 rfl (lv_at hl 0 rfl) ?_
    refine va_get (D := (dC, dI)) (ci := 9) (v := .ref a9_34) (C := RX9) (T := TX9) (N := 62) hx hb hts i_X9_moves_X9 hown hK hP 0 rfl rfl 34 (by decide) k_3 (fun _ h9 => h9) rfl dX9_moves_8 ?_
    refine lv_aload_n hx hb dX9_moves_11 rfl (lv_at hl 0 rfl) ?_
    refine va_get (D := (dC, dI)) (ci := 9) (v := .int v9_35) (C := RX9) (T := TX9) (N := 62) hx hb hts i_X9_moves_X9 hown hK hP 0 rfl rfl 35 (by decide) k_1 (fun _ h9 => h9) rfl dX9_moves_12 ?_
    refine lv_iconst (v := 1) hx hb dX9_moves_15 (by decide) ?_
    refine lv_isub hx hb dX9_moves_16 ?_
    obtain ⟨g_78, hf⟩ := x_gu hf
    refine va_iald hx hb hK hP 1 0 rfl rfl (x_gdin g_78) dX9_moves_17 ?_
    refine lv_goto (tgt := 22) hx hb dX9_moves_18 (by decide) ?_
    refine lv_istore_n (lv' := [(2, .int (g9_34 (Int32.toNatClampNeg (v9_35 - (1 : Int32))))), (0, .ref o9), (1, .int p1)]) hx hb dX9_moves_22 rfl hl (by decide) rfl (fun ls hl => ?_)
    refine lv_aload_n hx hb dX9_moves_23 rfl (lv_at hl 1 rfl) ?_
    refine va_get (D := (dC, dI)) (ci := 9) (v := .int v9_35) (C := RX9) (T := TX9) (N := 62) hx hb hts i_X9_moves_X9 hown hK hP 0 rfl rfl 35 (by decide) k_1 (fun _ h9 => h9) rfl dX9_moves_24 ?_
    refine lv_iconst (v := 1) hx hb dX9_moves_27 (by decide) ?_
    refine lv_icmp_le (tgt := 45) hx hb dX9_moves_28 (by decide) (fun c_79 => ?_) (fun c_79 => ?_)
    · replace hf := x_ip c_79 hf
      refine lv_iconst (v := 0) hx hb dX9_moves_45 (by decide) ?_
      refine lv_istore_n (lv' := [(3, .int 0), (2, .int (g9_34 (Int32.toNatClampNeg (v9_35 - (1 : Int32))))), (0, .ref o9), (1, .int p1)]) hx hb dX9_moves_46 rfl hl (by decide) rfl (fun ls hl => ?_)
      refine lv_iload_n hx hb dX9_moves_47 rfl (lv_at hl 3 rfl) ?_
      refine lv_bipush (v := 87) hx hb dX9_moves_48 (by decide) ?_
      refine lv_icmp_eq (tgt := 59) hx hb dX9_moves_50 (by decide) (fun c_80 => ?_) (fun c_80 => ?_)
      · replace hf := x_ip c_80 hf
        exact (hWW _ _ _ _ _).mpr ((J v9_35 (0, p1, 0, 0, 0, 0, 0, 0, g9_34, g9_61) _ hf rfl _ _ _ _ _ _ _ _ _ _ rfl).1 rfl H locs ls hP hD hS (lv_sub hl [2, 3] rfl))
      · replace hf := x_in c_80 hf
        refine lv_iload_n hx hb dX9_moves_53 rfl (lv_at hl 3 rfl) ?_
        refine lv_bipush (v := 88) hx hb dX9_moves_54 (by decide) ?_
        refine lv_icmp_ne (tgt := 101) hx hb dX9_moves_56 (by decide) (fun c_81 => ?_) (fun c_81 => ?_)
        · replace hf := x_in c_81 hf
          refine lv_iload_n hx hb dX9_moves_101 rfl (lv_at hl 3 rfl) ?_
          refine lv_bipush (v := 95) hx hb dX9_moves_102 (by decide) ?_
          refine lv_icmp_ne (tgt := 151) hx hb dX9_moves_104 (by decide) (fun c_82 => ?_) (fun c_82 => ?_)
          · replace hf := x_in c_82 hf
            refine lv_iload_n hx hb dX9_moves_151 rfl (lv_at hl 3 rfl) ?_
            refine lv_bipush (v := 91) hx hb dX9_moves_152 (by decide) ?_
            refine lv_icmp_gt (tgt := 161) hx hb dX9_moves_154 (by decide) (fun c_83 => ?_) (fun c_83 => ?_)
            · replace hf := x_ip c_83 hf
              refine lv_iconst (v := 2) hx hb dX9_moves_161 (by decide) ?_
              refine lv_istore (lv' := [(4, .int 2), (3, .int 0), (2, .int (g9_34 (Int32.toNatClampNeg (v9_35 - (1 : Int32))))), (0, .ref o9), (1, .int p1)]) hx hb dX9_moves_162 hl (by decide) rfl (fun ls hl => ?_)
              refine lv_iload_n hx hb dX9_moves_164 rfl (lv_at hl 4 rfl) ?_
              refine lv_bipush (v := 91) hx hb dX9_moves_165 (by decide) ?_
              refine lv_icmp_gt (tgt := 177) hx hb dX9_moves_167 (by decide) (fun c_84 => ?_) (fun c_84 => ?_)
              · replace hf := x_ip c_84 hf
                refine lv_iload_n hx hb dX9_moves_177 rfl (lv_at hl 4 rfl) ?_
                refine lv_bipush (v := 92) hx hb dX9_moves_178 (by decide) ?_
                refine lv_isub hx hb dX9_moves_180 ?_
                refine lv_istore (lv' := [(5, .int (p1 - (92 : Int32))), (4, .int 2), (3, .int 0), (2, .int (g9_34 (Int32.toNatClampNeg (v9_35 - (1 : Int32))))), (0, .ref o9), (1, .int p1)]) hx hb dX9_moves_181 hl (by decide) rfl (fun ls hl => ?_)
                refine lv_iload hx hb dX9_moves_183 (lv_at hl 1 rfl) ?_
                refine lv_iconst (v := 1) hx hb dX9_moves_185 (by decide) ?_
                refine lv_icmp_ne (tgt := 200) hx hb dX9_moves_186 (by decide) (fun _ => ?_) (fun c_85 => absurd c_85 (by decide))
                refine lv_aload_n hx hb dX9_moves_200 rfl (lv_at hl 4 rfl) ?_
                refine lv_iconst (v := 2) hx hb dX9_moves_201 (by decide) ?_
                obtain ⟨r_86, h_86, hf⟩ := x_bi hf
                have hPc := hP.sub (ws' := [(o9, .inr (9, x_O9 v9_0 v9_1 v9_2 v9_3 a9_4 a9_5 a9_6 a9_7 a9_8 a9_9 a9_10 a9_11 a9_12 v9_13 v9_14 v9_15 v9_16 v9_17 v9_18 a9_19 v9_20 v9_21 v9_22 a9_23 a9_24 a9_25 a9_26 a9_27 a9_28 a9_29 a9_30 a9_31 a9_32 a9_33 a9_34 v9_35 v9_36 a9_37 a9_38 a9_39 a9_40 a9_41 v9_42 a9_43 a9_44 a9_45 a9_46 a9_47 v9_48 v9_49 v9_50 v9_51 a9_52 a9_53 v9_54 v9_55 a9_56 a9_57 v9_58 a9_59 a9_60 a9_61)), (a9_34, .inl (cyI, 202, .inl g9_34))]) [0, 1] rfl
                refine va_calli (va_runV (As := [.int 2]) (rest := []) ⟨hx, hb, hml, hown, hts⟩ (c_X9_pair l dC dI cyI cyZ cyJ H.size o9 v9_0 v9_1 v9_2 v9_3 a9_4 a9_5 a9_6 a9_7 a9_8 a9_9 a9_10 a9_11 a9_12 v9_13 v9_14 v9_15 v9_16 v9_17 v9_18 a9_19 v9_20 v9_21 v9_22 a9_23 a9_24 a9_25 a9_26 a9_27 a9_28 a9_29 a9_30 a9_31 a9_32 a9_33 a9_34 v9_35 v9_36 a9_37 a9_38 a9_39 a9_40 a9_41 v9_42 a9_43 a9_44 a9_45 a9_46 a9_47 v9_48 v9_49 v9_50 v9_51 a9_52 a9_53 v9_54 v9_55 a9_56 a9_57 v9_58 a9_59 a9_60 a9_61 g9_34 2 r_86 h_86) (cwV 1 hts gX9_moves_X9_pair rfl rfl rfl (by decide +kernel) ⟨Nat.le_of_ble_eq_true rfl, Nat.le_of_ble_eq_true rfl⟩) (x_pV hN hK hPc (ci := 9) (q0 := 0) rfl rfl) rfl rfl hl.1 rfl (lv_room (Nat.le_of_ble_eq_true rfl)) dX9_moves_202 ⟨Nat.le_of_ble_eq_true rfl, Nat.le_of_ble_eq_true rfl⟩) hS x_nA (x_nf hA hS) (fun q_86 u t H1 locs ht hvm hw hB hz1 hk1 hS => ?_)
                have hP := x_kp hP hk1
                clear ht hvm hB hz1 hk1 t u hPc
                generalize H1 = H at hP hS ⊢
                obtain ⟨hw, b_86⟩ := hw
                obtain rfl := hw.symm
                refine lv_if_ne (tgt := 210) hx hb dX9_moves_205 (by decide) (fun c_87 => ?_) (fun c_87 => ?_)
                · replace hf := x_in c_87 hf
                  exact (hWW _ _ _ _ _).mpr ((J v9_35 (2, 0, g9_34 (Int32.toNatClampNeg (v9_35 - (1 : Int32))), 0, 2, p1 - (92 : Int32), 0, 0, g9_34, g9_61) _ hf rfl _ _ _ _ _ _ _ _ _ _ rfl).2.2.1 rfl H locs ls hP hD hS (lv_sub hl [4, 3, 2, 1, 0] rfl))
                · replace hf := x_ip c_87 hf
                  refine lv_iconst (v := 0) hx hb dX9_moves_208 (by decide) ?_
                  obtain rfl := Option.some.inj hf
                  have hP9 := hP.sub (ws' := [(o9, .inr (9, x_O9 v9_0 v9_1 v9_2 v9_3 a9_4 a9_5 a9_6 a9_7 a9_8 a9_9 a9_10 a9_11 a9_12 v9_13 v9_14 v9_15 v9_16 v9_17 v9_18 a9_19 v9_20 v9_21 v9_22 a9_23 a9_24 a9_25 a9_26 a9_27 a9_28 a9_29 a9_30 a9_31 a9_32 a9_33 a9_34 v9_35 v9_36 a9_37 a9_38 a9_39 a9_40 a9_41 v9_42 a9_43 a9_44 a9_45 a9_46 a9_47 v9_48 v9_49 v9_50 v9_51 a9_52 a9_53 v9_54 v9_55 a9_56 a9_57 v9_58 a9_59 a9_60 a9_61)), (a9_34, .inl (cyI, 202, .inl g9_34)), (a9_61, .inl (cyI, 2, .inl g9_61))]) [0, 1, 2] rfl
                  have hD9 := hD.sub (ws' := [(o9, .inr (9, x_O9 v9_0 v9_1 v9_2 v9_3 a9_4 a9_5 a9_6 a9_7 a9_8 a9_9 a9_10 a9_11 a9_12 v9_13 v9_14 v9_15 v9_16 v9_17 v9_18 a9_19 v9_20 v9_21 v9_22 a9_23 a9_24 a9_25 a9_26 a9_27 a9_28 a9_29 a9_30 a9_31 a9_32 a9_33 a9_34 v9_35 v9_36 a9_37 a9_38 a9_39 a9_40 a9_41 v9_42 a9_43 a9_44 a9_45 a9_46 a9_47 v9_48 v9_49 v9_50 v9_51 a9_52 a9_53 v9_54 v9_55 a9_56 a9_57 v9_58 a9_59 a9_60 a9_61)), (a9_34, .inl (cyI, 202, .inl g9_34)), (a9_61, .inl (cyI, 2, .inl g9_61))]) [0, 1, 2] (by decide) rfl
                  exact W.zret (ty := .boolean) hx hb hr rfl (fun t ht hW => ⟨⟨_, (), rfl, ⟨rfl, rfl⟩, by rw [ht]; exact hP9, va_K.moved hW.alike hK, hD9⟩, hS.F ht⟩) hS.2.2 dX9_moves_209
              · replace hf := x_in c_84 hf
                refine lv_iload_n hx hb dX9_moves_170 rfl (lv_at hl 4 rfl) ?_
                refine lv_bipush (v := 89) hx hb dX9_moves_171 (by decide) ?_
                refine lv_isub hx hb dX9_moves_173 ?_
                refine lv_goto (tgt := 181) hx hb dX9_moves_174 (by decide) ?_
                refine lv_istore (lv' := [(5, .int (p1 - (89 : Int32))), (4, .int 2), (3, .int 0), (2, .int (g9_34 (Int32.toNatClampNeg (v9_35 - (1 : Int32))))), (0, .ref o9), (1, .int p1)]) hx hb dX9_moves_181 hl (by decide) rfl (fun ls hl => ?_)
                refine lv_iload hx hb dX9_moves_183 (lv_at hl 1 rfl) ?_
                refine lv_iconst (v := 1) hx hb dX9_moves_185 (by decide) ?_
                refine lv_icmp_ne (tgt := 200) hx hb dX9_moves_186 (by decide) (fun _ => ?_) (fun c_88 => absurd c_88 (by decide))
                refine lv_aload_n hx hb dX9_moves_200 rfl (lv_at hl 4 rfl) ?_
                refine lv_iconst (v := 2) hx hb dX9_moves_201 (by decide) ?_
                obtain ⟨r_89, h_89, hf⟩ := x_bi hf
                have hPc := hP.sub (ws' := [(o9, .inr (9, x_O9 v9_0 v9_1 v9_2 v9_3 a9_4 a9_5 a9_6 a9_7 a9_8 a9_9 a9_10 a9_11 a9_12 v9_13 v9_14 v9_15 v9_16 v9_17 v9_18 a9_19 v9_20 v9_21 v9_22 a9_23 a9_24 a9_25 a9_26 a9_27 a9_28 a9_29 a9_30 a9_31 a9_32 a9_33 a9_34 v9_35 v9_36 a9_37 a9_38 a9_39 a9_40 a9_41 v9_42 a9_43 a9_44 a9_45 a9_46 a9_47 v9_48 v9_49 v9_50 v9_51 a9_52 a9_53 v9_54 v9_55 a9_56 a9_57 v9_58 a9_59 a9_60 a9_61)), (a9_34, .inl (cyI, 202, .inl g9_34))]) [0, 1] rfl
                refine va_calli (va_runV (As := [.int 2]) (rest := []) ⟨hx, hb, hml, hown, hts⟩ (c_X9_pair l dC dI cyI cyZ cyJ H.size o9 v9_0 v9_1 v9_2 v9_3 a9_4 a9_5 a9_6 a9_7 a9_8 a9_9 a9_10 a9_11 a9_12 v9_13 v9_14 v9_15 v9_16 v9_17 v9_18 a9_19 v9_20 v9_21 v9_22 a9_23 a9_24 a9_25 a9_26 a9_27 a9_28 a9_29 a9_30 a9_31 a9_32 a9_33 a9_34 v9_35 v9_36 a9_37 a9_38 a9_39 a9_40 a9_41 v9_42 a9_43 a9_44 a9_45 a9_46 a9_47 v9_48 v9_49 v9_50 v9_51 a9_52 a9_53 v9_54 v9_55 a9_56 a9_57 v9_58 a9_59 a9_60 a9_61 g9_34 2 r_89 h_89) (cwV 1 hts gX9_moves_X9_pair rfl rfl rfl (by decide +kernel) ⟨Nat.le_of_ble_eq_true rfl, Nat.le_of_ble_eq_true rfl⟩) (x_pV hN hK hPc (ci := 9) (q0 := 0) rfl rfl) rfl rfl hl.1 rfl (lv_room (Nat.le_of_ble_eq_true rfl)) dX9_moves_202 ⟨Nat.le_of_ble_eq_true rfl, Nat.le_of_ble_eq_true rfl⟩) hS x_nA (x_nf hA hS) (fun q_89 u t H1 locs ht hvm hw hB hz1 hk1 hS => ?_)
                have hP := x_kp hP hk1
                clear ht hvm hB hz1 hk1 t u hPc
                generalize H1 = H at hP hS ⊢
                obtain ⟨hw, b_89⟩ := hw
                obtain rfl := hw.symm
                refine lv_if_ne (tgt := 210) hx hb dX9_moves_205 (by decide) (fun c_90 => ?_) (fun c_90 => ?_)
                · replace hf := x_in c_90 hf
                  exact (hWW _ _ _ _ _).mpr ((J v9_35 (2, 0, g9_34 (Int32.toNatClampNeg (v9_35 - (1 : Int32))), 0, 2, p1 - (89 : Int32), 0, 0, g9_34, g9_61) _ hf rfl _ _ _ _ _ _ _ _ _ _ rfl).2.2.1 rfl H locs ls hP hD hS (lv_sub hl [4, 3, 2, 1, 0] rfl))
                · replace hf := x_ip c_90 hf
                  refine lv_iconst (v := 0) hx hb dX9_moves_208 (by decide) ?_
                  obtain rfl := Option.some.inj hf
                  have hP9 := hP.sub (ws' := [(o9, .inr (9, x_O9 v9_0 v9_1 v9_2 v9_3 a9_4 a9_5 a9_6 a9_7 a9_8 a9_9 a9_10 a9_11 a9_12 v9_13 v9_14 v9_15 v9_16 v9_17 v9_18 a9_19 v9_20 v9_21 v9_22 a9_23 a9_24 a9_25 a9_26 a9_27 a9_28 a9_29 a9_30 a9_31 a9_32 a9_33 a9_34 v9_35 v9_36 a9_37 a9_38 a9_39 a9_40 a9_41 v9_42 a9_43 a9_44 a9_45 a9_46 a9_47 v9_48 v9_49 v9_50 v9_51 a9_52 a9_53 v9_54 v9_55 a9_56 a9_57 v9_58 a9_59 a9_60 a9_61)), (a9_34, .inl (cyI, 202, .inl g9_34)), (a9_61, .inl (cyI, 2, .inl g9_61))]) [0, 1, 2] rfl
                  have hD9 := hD.sub (ws' := [(o9, .inr (9, x_O9 v9_0 v9_1 v9_2 v9_3 a9_4 a9_5 a9_6 a9_7 a9_8 a9_9 a9_10 a9_11 a9_12 v9_13 v9_14 v9_15 v9_16 v9_17 v9_18 a9_19 v9_20 v9_21 v9_22 a9_23 a9_24 a9_25 a9_26 a9_27 a9_28 a9_29 a9_30 a9_31 a9_32 a9_33 a9_34 v9_35 v9_36 a9_37 a9_38 a9_39 a9_40 a9_41 v9_42 a9_43 a9_44 a9_45 a9_46 a9_47 v9_48 v9_49 v9_50 v9_51 a9_52 a9_53 v9_54 v9_55 a9_56 a9_57 v9_58 a9_59 a9_60 a9_61)), (a9_34, .inl (cyI, 202, .inl g9_34)), (a9_61, .inl (cyI, 2, .inl g9_61))]) [0, 1, 2] (by decide) rfl
                  exact W.zret (ty := .boolean) hx hb hr rfl (fun t ht hW => ⟨⟨_, (), rfl, ⟨rfl, rfl⟩, by rw [ht]; exact hP9, va_K.moved hW.alike hK, hD9⟩, hS.F ht⟩) hS.2.2 dX9_moves_209
            · replace hf := x_in c_83 hf
              refine lv_iconst (v := 1) hx hb dX9_moves_157 (by decide) ?_
              refine lv_goto (tgt := 162) hx hb dX9_moves_158 (by decide) ?_
              refine lv_istore (lv' := [(4, .int 1), (3, .int 0), (2, .int (g9_34 (Int32.toNatClampNeg (v9_35 - (1 : Int32))))), (0, .ref o9), (1, .int p1)]) hx hb dX9_moves_162 hl (by decide) rfl (fun ls hl => ?_)
              refine lv_iload_n hx hb dX9_moves_164 rfl (lv_at hl 4 rfl) ?_
              refine lv_bipush (v := 91) hx hb dX9_moves_165 (by decide) ?_
              refine lv_icmp_gt (tgt := 177) hx hb dX9_moves_167 (by decide) (fun c_91 => ?_) (fun c_91 => ?_)
              · replace hf := x_ip c_91 hf
                refine lv_iload_n hx hb dX9_moves_177 rfl (lv_at hl 4 rfl) ?_
                refine lv_bipush (v := 92) hx hb dX9_moves_178 (by decide) ?_
                refine lv_isub hx hb dX9_moves_180 ?_
                refine lv_istore (lv' := [(5, .int (p1 - (92 : Int32))), (4, .int 1), (3, .int 0), (2, .int (g9_34 (Int32.toNatClampNeg (v9_35 - (1 : Int32))))), (0, .ref o9), (1, .int p1)]) hx hb dX9_moves_181 hl (by decide) rfl (fun ls hl => ?_)
                refine lv_iload hx hb dX9_moves_183 (lv_at hl 1 rfl) ?_
                refine lv_iconst (v := 1) hx hb dX9_moves_185 (by decide) ?_
                refine lv_icmp_ne (tgt := 200) hx hb dX9_moves_186 (by decide) (fun c_92 => absurd (by decide) c_92) (fun _ => ?_)
                refine lv_aload_n hx hb dX9_moves_189 rfl (lv_at hl 4 rfl) ?_
                refine lv_iconst (v := 1) hx hb dX9_moves_190 (by decide) ?_
                obtain ⟨r_93, h_93, hf⟩ := x_bi hf
                have hPc := hP.sub (ws' := [(o9, .inr (9, x_O9 v9_0 v9_1 v9_2 v9_3 a9_4 a9_5 a9_6 a9_7 a9_8 a9_9 a9_10 a9_11 a9_12 v9_13 v9_14 v9_15 v9_16 v9_17 v9_18 a9_19 v9_20 v9_21 v9_22 a9_23 a9_24 a9_25 a9_26 a9_27 a9_28 a9_29 a9_30 a9_31 a9_32 a9_33 a9_34 v9_35 v9_36 a9_37 a9_38 a9_39 a9_40 a9_41 v9_42 a9_43 a9_44 a9_45 a9_46 a9_47 v9_48 v9_49 v9_50 v9_51 a9_52 a9_53 v9_54 v9_55 a9_56 a9_57 v9_58 a9_59 a9_60 a9_61)), (a9_34, .inl (cyI, 202, .inl g9_34))]) [0, 1] rfl
                refine va_calli (va_runV (As := [.int 1]) (rest := []) ⟨hx, hb, hml, hown, hts⟩ (c_X9_single l dC dI cyI cyZ cyJ H.size o9 v9_0 v9_1 v9_2 v9_3 a9_4 a9_5 a9_6 a9_7 a9_8 a9_9 a9_10 a9_11 a9_12 v9_13 v9_14 v9_15 v9_16 v9_17 v9_18 a9_19 v9_20 v9_21 v9_22 a9_23 a9_24 a9_25 a9_26 a9_27 a9_28 a9_29 a9_30 a9_31 a9_32 a9_33 a9_34 v9_35 v9_36 a9_37 a9_38 a9_39 a9_40 a9_41 v9_42 a9_43 a9_44 a9_45 a9_46 a9_47 v9_48 v9_49 v9_50 v9_51 a9_52 a9_53 v9_54 v9_55 a9_56 a9_57 v9_58 a9_59 a9_60 a9_61 g9_34 1 r_93 h_93) (cwV 1 hts gX9_moves_X9_single rfl rfl rfl (by decide +kernel) ⟨Nat.le_of_ble_eq_true rfl, Nat.le_of_ble_eq_true rfl⟩) (x_pV hN hK hPc (ci := 9) (q0 := 0) rfl rfl) rfl rfl hl.1 rfl (lv_room (Nat.le_of_ble_eq_true rfl)) dX9_moves_191 ⟨Nat.le_of_ble_eq_true rfl, Nat.le_of_ble_eq_true rfl⟩) hS x_nA (x_nf hA hS) (fun q_93 u t H1 locs ht hvm hw hB hz1 hk1 hS => ?_)
                have hP := x_kp hP hk1
                clear ht hvm hB hz1 hk1 t u hPc
                generalize H1 = H at hP hS ⊢
                obtain ⟨hw, b_93⟩ := hw
                obtain rfl := hw.symm
                refine lv_if_eq (tgt := 208) hx hb dX9_moves_194 (by decide) (fun c_94 => ?_) (fun c_94 => ?_)
                · replace hf := x_ip c_94 hf
                  refine lv_iconst (v := 0) hx hb dX9_moves_208 (by decide) ?_
                  obtain rfl := Option.some.inj hf
                  have hP9 := hP.sub (ws' := [(o9, .inr (9, x_O9 v9_0 v9_1 v9_2 v9_3 a9_4 a9_5 a9_6 a9_7 a9_8 a9_9 a9_10 a9_11 a9_12 v9_13 v9_14 v9_15 v9_16 v9_17 v9_18 a9_19 v9_20 v9_21 v9_22 a9_23 a9_24 a9_25 a9_26 a9_27 a9_28 a9_29 a9_30 a9_31 a9_32 a9_33 a9_34 v9_35 v9_36 a9_37 a9_38 a9_39 a9_40 a9_41 v9_42 a9_43 a9_44 a9_45 a9_46 a9_47 v9_48 v9_49 v9_50 v9_51 a9_52 a9_53 v9_54 v9_55 a9_56 a9_57 v9_58 a9_59 a9_60 a9_61)), (a9_34, .inl (cyI, 202, .inl g9_34)), (a9_61, .inl (cyI, 2, .inl g9_61))]) [0, 1, 2] rfl
                  have hD9 := hD.sub (ws' := [(o9, .inr (9, x_O9 v9_0 v9_1 v9_2 v9_3 a9_4 a9_5 a9_6 a9_7 a9_8 a9_9 a9_10 a9_11 a9_12 v9_13 v9_14 v9_15 v9_16 v9_17 v9_18 a9_19 v9_20 v9_21 v9_22 a9_23 a9_24 a9_25 a9_26 a9_27 a9_28 a9_29 a9_30 a9_31 a9_32 a9_33 a9_34 v9_35 v9_36 a9_37 a9_38 a9_39 a9_40 a9_41 v9_42 a9_43 a9_44 a9_45 a9_46 a9_47 v9_48 v9_49 v9_50 v9_51 a9_52 a9_53 v9_54 v9_55 a9_56 a9_57 v9_58 a9_59 a9_60 a9_61)), (a9_34, .inl (cyI, 202, .inl g9_34)), (a9_61, .inl (cyI, 2, .inl g9_61))]) [0, 1, 2] (by decide) rfl
                  exact W.zret (ty := .boolean) hx hb hr rfl (fun t ht hW => ⟨⟨_, (), rfl, ⟨rfl, rfl⟩, by rw [ht]; exact hP9, va_K.moved hW.alike hK, hD9⟩, hS.F ht⟩) hS.2.2 dX9_moves_209
                · replace hf := x_in c_94 hf
                  refine lv_goto (tgt := 210) hx hb dX9_moves_197 (by decide) ?_
                  exact (hWW _ _ _ _ _).mpr ((J v9_35 (2, 0, g9_34 (Int32.toNatClampNeg (v9_35 - (1 : Int32))), 0, 1, p1 - (92 : Int32), 0, 0, g9_34, g9_61) _ hf rfl _ _ _ _ _ _ _ _ _ _ rfl).2.2.1 rfl H locs ls hP hD hS (lv_sub hl [4, 3, 2, 1, 0] rfl))
              · replace hf := x_in c_91 hf
                refine lv_iload_n hx hb dX9_moves_170 rfl (lv_at hl 4 rfl) ?_
                refine lv_bipush (v := 89) hx hb dX9_moves_171 (by decide) ?_
                refine lv_isub hx hb dX9_moves_173 ?_
                refine lv_goto (tgt := 181) hx hb dX9_moves_174 (by decide) ?_
                refine lv_istore (lv' := [(5, .int (p1 - (89 : Int32))), (4, .int 1), (3, .int 0), (2, .int (g9_34 (Int32.toNatClampNeg (v9_35 - (1 : Int32))))), (0, .ref o9), (1, .int p1)]) hx hb dX9_moves_181 hl (by decide) rfl (fun ls hl => ?_)
                refine lv_iload hx hb dX9_moves_183 (lv_at hl 1 rfl) ?_
                refine lv_iconst (v := 1) hx hb dX9_moves_185 (by decide) ?_
                refine lv_icmp_ne (tgt := 200) hx hb dX9_moves_186 (by decide) (fun c_95 => absurd (by decide) c_95) (fun _ => ?_)
                refine lv_aload_n hx hb dX9_moves_189 rfl (lv_at hl 4 rfl) ?_
                refine lv_iconst (v := 1) hx hb dX9_moves_190 (by decide) ?_
                obtain ⟨r_96, h_96, hf⟩ := x_bi hf
                have hPc := hP.sub (ws' := [(o9, .inr (9, x_O9 v9_0 v9_1 v9_2 v9_3 a9_4 a9_5 a9_6 a9_7 a9_8 a9_9 a9_10 a9_11 a9_12 v9_13 v9_14 v9_15 v9_16 v9_17 v9_18 a9_19 v9_20 v9_21 v9_22 a9_23 a9_24 a9_25 a9_26 a9_27 a9_28 a9_29 a9_30 a9_31 a9_32 a9_33 a9_34 v9_35 v9_36 a9_37 a9_38 a9_39 a9_40 a9_41 v9_42 a9_43 a9_44 a9_45 a9_46 a9_47 v9_48 v9_49 v9_50 v9_51 a9_52 a9_53 v9_54 v9_55 a9_56 a9_57 v9_58 a9_59 a9_60 a9_61)), (a9_34, .inl (cyI, 202, .inl g9_34))]) [0, 1] rfl
                refine va_calli (va_runV (As := [.int 1]) (rest := []) ⟨hx, hb, hml, hown, hts⟩ (c_X9_single l dC dI cyI cyZ cyJ H.size o9 v9_0 v9_1 v9_2 v9_3 a9_4 a9_5 a9_6 a9_7 a9_8 a9_9 a9_10 a9_11 a9_12 v9_13 v9_14 v9_15 v9_16 v9_17 v9_18 a9_19 v9_20 v9_21 v9_22 a9_23 a9_24 a9_25 a9_26 a9_27 a9_28 a9_29 a9_30 a9_31 a9_32 a9_33 a9_34 v9_35 v9_36 a9_37 a9_38 a9_39 a9_40 a9_41 v9_42 a9_43 a9_44 a9_45 a9_46 a9_47 v9_48 v9_49 v9_50 v9_51 a9_52 a9_53 v9_54 v9_55 a9_56 a9_57 v9_58 a9_59 a9_60 a9_61 g9_34 1 r_96 h_96) (cwV 1 hts gX9_moves_X9_single rfl rfl rfl (by decide +kernel) ⟨Nat.le_of_ble_eq_true rfl, Nat.le_of_ble_eq_true rfl⟩) (x_pV hN hK hPc (ci := 9) (q0 := 0) rfl rfl) rfl rfl hl.1 rfl (lv_room (Nat.le_of_ble_eq_true rfl)) dX9_moves_191 ⟨Nat.le_of_ble_eq_true rfl, Nat.le_of_ble_eq_true rfl⟩) hS x_nA (x_nf hA hS) (fun q_96 u t H1 locs ht hvm hw hB hz1 hk1 hS => ?_)
                have hP := x_kp hP hk1
                clear ht hvm hB hz1 hk1 t u hPc
                generalize H1 = H at hP hS ⊢
                obtain ⟨hw, b_96⟩ := hw
                obtain rfl := hw.symm
                refine lv_if_eq (tgt := 208) hx hb dX9_moves_194 (by decide) (fun c_97 => ?_) (fun c_97 => ?_)
                · replace hf := x_ip c_97 hf
                  refine lv_iconst (v := 0) hx hb dX9_moves_208 (by decide) ?_
                  obtain rfl := Option.some.inj hf
                  have hP9 := hP.sub (ws' := [(o9, .inr (9, x_O9 v9_0 v9_1 v9_2 v9_3 a9_4 a9_5 a9_6 a9_7 a9_8 a9_9 a9_10 a9_11 a9_12 v9_13 v9_14 v9_15 v9_16 v9_17 v9_18 a9_19 v9_20 v9_21 v9_22 a9_23 a9_24 a9_25 a9_26 a9_27 a9_28 a9_29 a9_30 a9_31 a9_32 a9_33 a9_34 v9_35 v9_36 a9_37 a9_38 a9_39 a9_40 a9_41 v9_42 a9_43 a9_44 a9_45 a9_46 a9_47 v9_48 v9_49 v9_50 v9_51 a9_52 a9_53 v9_54 v9_55 a9_56 a9_57 v9_58 a9_59 a9_60 a9_61)), (a9_34, .inl (cyI, 202, .inl g9_34)), (a9_61, .inl (cyI, 2, .inl g9_61))]) [0, 1, 2] rfl
                  have hD9 := hD.sub (ws' := [(o9, .inr (9, x_O9 v9_0 v9_1 v9_2 v9_3 a9_4 a9_5 a9_6 a9_7 a9_8 a9_9 a9_10 a9_11 a9_12 v9_13 v9_14 v9_15 v9_16 v9_17 v9_18 a9_19 v9_20 v9_21 v9_22 a9_23 a9_24 a9_25 a9_26 a9_27 a9_28 a9_29 a9_30 a9_31 a9_32 a9_33 a9_34 v9_35 v9_36 a9_37 a9_38 a9_39 a9_40 a9_41 v9_42 a9_43 a9_44 a9_45 a9_46 a9_47 v9_48 v9_49 v9_50 v9_51 a9_52 a9_53 v9_54 v9_55 a9_56 a9_57 v9_58 a9_59 a9_60 a9_61)), (a9_34, .inl (cyI, 202, .inl g9_34)), (a9_61, .inl (cyI, 2, .inl g9_61))]) [0, 1, 2] (by decide) rfl
                  exact W.zret (ty := .boolean) hx hb hr rfl (fun t ht hW => ⟨⟨_, (), rfl, ⟨rfl, rfl⟩, by rw [ht]; exact hP9, va_K.moved hW.alike hK, hD9⟩, hS.F ht⟩) hS.2.2 dX9_moves_209
                · replace hf := x_in c_97 hf
                  refine lv_goto (tgt := 210) hx hb dX9_moves_197 (by decide) ?_
                  exact (hWW _ _ _ _ _).mpr ((J v9_35 (2, 0, g9_34 (Int32.toNatClampNeg (v9_35 - (1 : Int32))), 0, 1, p1 - (89 : Int32), 0, 0, g9_34, g9_61) _ hf rfl _ _ _ _ _ _ _ _ _ _ rfl).2.2.1 rfl H locs ls hP hD hS (lv_sub hl [4, 3, 2, 1, 0] rfl))
          · replace hf := x_ip c_82 hf
            refine lv_aload_n hx hb dX9_moves_107 rfl (lv_at hl 2 rfl) ?_
            refine lv_iconst (v := 1) hx hb dX9_moves_108 (by decide) ?_
            obtain ⟨r_98, h_98, hf⟩ := x_bi hf
            have hPc := hP.sub (ws' := [(o9, .inr (9, x_O9 v9_0 v9_1 v9_2 v9_3 a9_4 a9_5 a9_6 a9_7 a9_8 a9_9 a9_10 a9_11 a9_12 v9_13 v9_14 v9_15 v9_16 v9_17 v9_18 a9_19 v9_20 v9_21 v9_22 a9_23 a9_24 a9_25 a9_26 a9_27 a9_28 a9_29 a9_30 a9_31 a9_32 a9_33 a9_34 v9_35 v9_36 a9_37 a9_38 a9_39 a9_40 a9_41 v9_42 a9_43 a9_44 a9_45 a9_46 a9_47 v9_48 v9_49 v9_50 v9_51 a9_52 a9_53 v9_54 v9_55 a9_56 a9_57 v9_58 a9_59 a9_60 a9_61)), (a9_34, .inl (cyI, 202, .inl g9_34))]) [0, 1] rfl
            refine va_calli (va_runV (As := [.int 1]) (rest := []) ⟨hx, hb, hml, hown, hts⟩ (c_X9_single l dC dI cyI cyZ cyJ H.size o9 v9_0 v9_1 v9_2 v9_3 a9_4 a9_5 a9_6 a9_7 a9_8 a9_9 a9_10 a9_11 a9_12 v9_13 v9_14 v9_15 v9_16 v9_17 v9_18 a9_19 v9_20 v9_21 v9_22 a9_23 a9_24 a9_25 a9_26 a9_27 a9_28 a9_29 a9_30 a9_31 a9_32 a9_33 a9_34 v9_35 v9_36 a9_37 a9_38 a9_39 a9_40 a9_41 v9_42 a9_43 a9_44 a9_45 a9_46 a9_47 v9_48 v9_49 v9_50 v9_51 a9_52 a9_53 v9_54 v9_55 a9_56 a9_57 v9_58 a9_59 a9_60 a9_61 g9_34 1 r_98 h_98) (cwV 1 hts gX9_moves_X9_single rfl rfl rfl (by decide +kernel) ⟨Nat.le_of_ble_eq_true rfl, Nat.le_of_ble_eq_true rfl⟩) (x_pV hN hK hPc (ci := 9) (q0 := 0) rfl rfl) rfl rfl hl.1 rfl (lv_room (Nat.le_of_ble_eq_true rfl)) dX9_moves_109 ⟨Nat.le_of_ble_eq_true rfl, Nat.le_of_ble_eq_true rfl⟩) hS x_nA (x_nf hA hS) (fun q_98 u t H1 locs ht hvm hw hB hz1 hk1 hS => ?_)
            have hP := x_kp hP hk1
            clear ht hvm hB hz1 hk1 t u hPc
            generalize H1 = H at hP hS ⊢
            obtain ⟨hw, b_98⟩ := hw
            obtain rfl := hw.symm
            refine lv_if_eq (tgt := 123) hx hb dX9_moves_112 (by decide) (fun c_99 => ?_) (fun c_99 => ?_)
            · replace hf := x_ip c_99 hf
              refine lv_iconst (v := 0) hx hb dX9_moves_123 (by decide) ?_
              obtain rfl := Option.some.inj hf
              have hP9 := hP.sub (ws' := [(o9, .inr (9, x_O9 v9_0 v9_1 v9_2 v9_3 a9_4 a9_5 a9_6 a9_7 a9_8 a9_9 a9_10 a9_11 a9_12 v9_13 v9_14 v9_15 v9_16 v9_17 v9_18 a9_19 v9_20 v9_21 v9_22 a9_23 a9_24 a9_25 a9_26 a9_27 a9_28 a9_29 a9_30 a9_31 a9_32 a9_33 a9_34 v9_35 v9_36 a9_37 a9_38 a9_39 a9_40 a9_41 v9_42 a9_43 a9_44 a9_45 a9_46 a9_47 v9_48 v9_49 v9_50 v9_51 a9_52 a9_53 v9_54 v9_55 a9_56 a9_57 v9_58 a9_59 a9_60 a9_61)), (a9_34, .inl (cyI, 202, .inl g9_34)), (a9_61, .inl (cyI, 2, .inl g9_61))]) [0, 1, 2] rfl
              have hD9 := hD.sub (ws' := [(o9, .inr (9, x_O9 v9_0 v9_1 v9_2 v9_3 a9_4 a9_5 a9_6 a9_7 a9_8 a9_9 a9_10 a9_11 a9_12 v9_13 v9_14 v9_15 v9_16 v9_17 v9_18 a9_19 v9_20 v9_21 v9_22 a9_23 a9_24 a9_25 a9_26 a9_27 a9_28 a9_29 a9_30 a9_31 a9_32 a9_33 a9_34 v9_35 v9_36 a9_37 a9_38 a9_39 a9_40 a9_41 v9_42 a9_43 a9_44 a9_45 a9_46 a9_47 v9_48 v9_49 v9_50 v9_51 a9_52 a9_53 v9_54 v9_55 a9_56 a9_57 v9_58 a9_59 a9_60 a9_61)), (a9_34, .inl (cyI, 202, .inl g9_34)), (a9_61, .inl (cyI, 2, .inl g9_61))]) [0, 1, 2] (by decide) rfl
              exact W.zret (ty := .boolean) hx hb hr rfl (fun t ht hW => ⟨⟨_, (), rfl, ⟨rfl, rfl⟩, by rw [ht]; exact hP9, va_K.moved hW.alike hK, hD9⟩, hS.F ht⟩) hS.2.2 dX9_moves_124
            · replace hf := x_in c_99 hf
              refine lv_aload_n hx hb dX9_moves_115 rfl (lv_at hl 2 rfl) ?_
              refine lv_iconst (v := 2) hx hb dX9_moves_116 (by decide) ?_
              obtain ⟨r_100, h_100, hf⟩ := x_bi hf
              have hPc := hP.sub (ws' := [(o9, .inr (9, x_O9 v9_0 v9_1 v9_2 v9_3 a9_4 a9_5 a9_6 a9_7 a9_8 a9_9 a9_10 a9_11 a9_12 v9_13 v9_14 v9_15 v9_16 v9_17 v9_18 a9_19 v9_20 v9_21 v9_22 a9_23 a9_24 a9_25 a9_26 a9_27 a9_28 a9_29 a9_30 a9_31 a9_32 a9_33 a9_34 v9_35 v9_36 a9_37 a9_38 a9_39 a9_40 a9_41 v9_42 a9_43 a9_44 a9_45 a9_46 a9_47 v9_48 v9_49 v9_50 v9_51 a9_52 a9_53 v9_54 v9_55 a9_56 a9_57 v9_58 a9_59 a9_60 a9_61)), (a9_34, .inl (cyI, 202, .inl g9_34))]) [0, 1] rfl
              refine va_calli (va_runV (As := [.int 2]) (rest := []) ⟨hx, hb, hml, hown, hts⟩ (c_X9_single l dC dI cyI cyZ cyJ H.size o9 v9_0 v9_1 v9_2 v9_3 a9_4 a9_5 a9_6 a9_7 a9_8 a9_9 a9_10 a9_11 a9_12 v9_13 v9_14 v9_15 v9_16 v9_17 v9_18 a9_19 v9_20 v9_21 v9_22 a9_23 a9_24 a9_25 a9_26 a9_27 a9_28 a9_29 a9_30 a9_31 a9_32 a9_33 a9_34 v9_35 v9_36 a9_37 a9_38 a9_39 a9_40 a9_41 v9_42 a9_43 a9_44 a9_45 a9_46 a9_47 v9_48 v9_49 v9_50 v9_51 a9_52 a9_53 v9_54 v9_55 a9_56 a9_57 v9_58 a9_59 a9_60 a9_61 g9_34 2 r_100 h_100) (cwV 1 hts gX9_moves_X9_single rfl rfl rfl (by decide +kernel) ⟨Nat.le_of_ble_eq_true rfl, Nat.le_of_ble_eq_true rfl⟩) (x_pV hN hK hPc (ci := 9) (q0 := 0) rfl rfl) rfl rfl hl.1 rfl (lv_room (Nat.le_of_ble_eq_true rfl)) dX9_moves_117 ⟨Nat.le_of_ble_eq_true rfl, Nat.le_of_ble_eq_true rfl⟩) hS x_nA (x_nf hA hS) (fun q_100 u t H1 locs ht hvm hw hB hz1 hk1 hS => ?_)
              have hP := x_kp hP hk1
              clear ht hvm hB hz1 hk1 t u hPc
              generalize H1 = H at hP hS ⊢
              obtain ⟨hw, b_100⟩ := hw
              obtain rfl := hw.symm
              refine lv_if_ne (tgt := 125) hx hb dX9_moves_120 (by decide) (fun c_101 => ?_) (fun c_101 => ?_)
              · replace hf := x_in c_101 hf
                refine lv_aload_n hx hb dX9_moves_125 rfl (lv_at hl 2 rfl) ?_
                refine va_get (D := (dC, dI)) (ci := 9) (v := .ref a9_34) (C := RX9) (T := TX9) (N := 62) hx hb hts i_X9_moves_X9 hown hK hP 0 rfl rfl 34 (by decide) k_3 (fun _ h9 => h9) rfl dX9_moves_126 ?_
                refine lv_aload_n hx hb dX9_moves_129 rfl (lv_at hl 2 rfl) ?_
                refine va_get (D := (dC, dI)) (ci := 9) (v := .int v9_35) (C := RX9) (T := TX9) (N := 62) hx hb hts i_X9_moves_X9 hown hK hP 0 rfl rfl 35 (by decide) k_1 (fun _ h9 => h9) rfl dX9_moves_130 ?_
                refine lv_iconst (v := 2) hx hb dX9_moves_133 (by decide) ?_
                refine lv_isub hx hb dX9_moves_134 ?_
                refine lv_iload_n hx hb dX9_moves_135 rfl (lv_at hl 1 rfl) ?_
                obtain ⟨g_102, hf⟩ := x_gu hf
                refine va_iast hx hb hK hP hD hS 1 0 rfl rfl (x_gdin g_102) dX9_moves_136 (fun H locs hP hD hS => ?_)
                have hP : va_P (dC, dI) vwCl [(o9, .inr (9, x_O9 v9_0 v9_1 v9_2 v9_3 a9_4 a9_5 a9_6 a9_7 a9_8 a9_9 a9_10 a9_11 a9_12 v9_13 v9_14 v9_15 v9_16 v9_17 v9_18 a9_19 v9_20 v9_21 v9_22 a9_23 a9_24 a9_25 a9_26 a9_27 a9_28 a9_29 a9_30 a9_31 a9_32 a9_33 a9_34 v9_35 v9_36 a9_37 a9_38 a9_39 a9_40 a9_41 v9_42 a9_43 a9_44 a9_45 a9_46 a9_47 v9_48 v9_49 v9_50 v9_51 a9_52 a9_53 v9_54 v9_55 a9_56 a9_57 v9_58 a9_59 a9_60 a9_61)), (a9_34, .inl (cyI, 202, .inl (upd g9_34 (Int32.toNatClampNeg (v9_35 - (2 : Int32))) (g9_34 (Int32.toNatClampNeg (v9_35 - (1 : Int32))))))), (a9_61, .inl (cyI, 2, .inl g9_61))] H := hP
                have hD : va_D A [(o9, .inr (9, x_O9 v9_0 v9_1 v9_2 v9_3 a9_4 a9_5 a9_6 a9_7 a9_8 a9_9 a9_10 a9_11 a9_12 v9_13 v9_14 v9_15 v9_16 v9_17 v9_18 a9_19 v9_20 v9_21 v9_22 a9_23 a9_24 a9_25 a9_26 a9_27 a9_28 a9_29 a9_30 a9_31 a9_32 a9_33 a9_34 v9_35 v9_36 a9_37 a9_38 a9_39 a9_40 a9_41 v9_42 a9_43 a9_44 a9_45 a9_46 a9_47 v9_48 v9_49 v9_50 v9_51 a9_52 a9_53 v9_54 v9_55 a9_56 a9_57 v9_58 a9_59 a9_60 a9_61)), (a9_34, .inl (cyI, 202, .inl (upd g9_34 (Int32.toNatClampNeg (v9_35 - (2 : Int32))) (g9_34 (Int32.toNatClampNeg (v9_35 - (1 : Int32))))))), (a9_61, .inl (cyI, 2, .inl g9_61))] := hD
                refine lv_aload_n hx hb dX9_moves_137 rfl (lv_at hl 2 rfl) ?_
                refine va_get (D := (dC, dI)) (ci := 9) (v := .ref a9_34) (C := RX9) (T := TX9) (N := 62) hx hb hts i_X9_moves_X9 hown hK hP 0 rfl rfl 34 (by decide) k_3 (fun _ h9 => h9) rfl dX9_moves_138 ?_
                refine lv_aload_n hx hb dX9_moves_141 rfl (lv_at hl 2 rfl) ?_
                refine va_get (D := (dC, dI)) (ci := 9) (v := .int v9_35) (C := RX9) (T := TX9) (N := 62) hx hb hts i_X9_moves_X9 hown hK hP 0 rfl rfl 35 (by decide) k_1 (fun _ h9 => h9) rfl dX9_moves_142 ?_
                refine lv_iconst (v := 1) hx hb dX9_moves_145 (by decide) ?_
                refine lv_isub hx hb dX9_moves_146 ?_
                refine lv_iload_n hx hb dX9_moves_147 rfl (lv_at hl 0 rfl) ?_
                obtain ⟨g_103, hf⟩ := x_gu hf
                refine va_iast hx hb hK hP hD hS 1 0 rfl rfl (x_gdin g_103) dX9_moves_148 (fun H locs hP hD hS => ?_)
                have hP : va_P (dC, dI) vwCl [(o9, .inr (9, x_O9 v9_0 v9_1 v9_2 v9_3 a9_4 a9_5 a9_6 a9_7 a9_8 a9_9 a9_10 a9_11 a9_12 v9_13 v9_14 v9_15 v9_16 v9_17 v9_18 a9_19 v9_20 v9_21 v9_22 a9_23 a9_24 a9_25 a9_26 a9_27 a9_28 a9_29 a9_30 a9_31 a9_32 a9_33 a9_34 v9_35 v9_36 a9_37 a9_38 a9_39 a9_40 a9_41 v9_42 a9_43 a9_44 a9_45 a9_46 a9_47 v9_48 v9_49 v9_50 v9_51 a9_52 a9_53 v9_54 v9_55 a9_56 a9_57 v9_58 a9_59 a9_60 a9_61)), (a9_34, .inl (cyI, 202, .inl (upd (upd g9_34 (Int32.toNatClampNeg (v9_35 - (2 : Int32))) (g9_34 (Int32.toNatClampNeg (v9_35 - (1 : Int32))))) (Int32.toNatClampNeg (v9_35 - (1 : Int32))) 0))), (a9_61, .inl (cyI, 2, .inl g9_61))] H := hP
                have hD : va_D A [(o9, .inr (9, x_O9 v9_0 v9_1 v9_2 v9_3 a9_4 a9_5 a9_6 a9_7 a9_8 a9_9 a9_10 a9_11 a9_12 v9_13 v9_14 v9_15 v9_16 v9_17 v9_18 a9_19 v9_20 v9_21 v9_22 a9_23 a9_24 a9_25 a9_26 a9_27 a9_28 a9_29 a9_30 a9_31 a9_32 a9_33 a9_34 v9_35 v9_36 a9_37 a9_38 a9_39 a9_40 a9_41 v9_42 a9_43 a9_44 a9_45 a9_46 a9_47 v9_48 v9_49 v9_50 v9_51 a9_52 a9_53 v9_54 v9_55 a9_56 a9_57 v9_58 a9_59 a9_60 a9_61)), (a9_34, .inl (cyI, 202, .inl (upd (upd g9_34 (Int32.toNatClampNeg (v9_35 - (2 : Int32))) (g9_34 (Int32.toNatClampNeg (v9_35 - (1 : Int32))))) (Int32.toNatClampNeg (v9_35 - (1 : Int32))) 0))), (a9_61, .inl (cyI, 2, .inl g9_61))] := hD
                refine lv_iconst (v := 1) hx hb dX9_moves_149 (by decide) ?_
                obtain rfl := Option.some.inj hf
                have hP9 := hP.sub (ws' := [(o9, .inr (9, x_O9 v9_0 v9_1 v9_2 v9_3 a9_4 a9_5 a9_6 a9_7 a9_8 a9_9 a9_10 a9_11 a9_12 v9_13 v9_14 v9_15 v9_16 v9_17 v9_18 a9_19 v9_20 v9_21 v9_22 a9_23 a9_24 a9_25 a9_26 a9_27 a9_28 a9_29 a9_30 a9_31 a9_32 a9_33 a9_34 v9_35 v9_36 a9_37 a9_38 a9_39 a9_40 a9_41 v9_42 a9_43 a9_44 a9_45 a9_46 a9_47 v9_48 v9_49 v9_50 v9_51 a9_52 a9_53 v9_54 v9_55 a9_56 a9_57 v9_58 a9_59 a9_60 a9_61)), (a9_34, .inl (cyI, 202, .inl (upd (upd g9_34 (Int32.toNatClampNeg (v9_35 - (2 : Int32))) (g9_34 (Int32.toNatClampNeg (v9_35 - (1 : Int32))))) (Int32.toNatClampNeg (v9_35 - (1 : Int32))) 0))), (a9_61, .inl (cyI, 2, .inl g9_61))]) [0, 1, 2] rfl
                have hD9 := hD.sub (ws' := [(o9, .inr (9, x_O9 v9_0 v9_1 v9_2 v9_3 a9_4 a9_5 a9_6 a9_7 a9_8 a9_9 a9_10 a9_11 a9_12 v9_13 v9_14 v9_15 v9_16 v9_17 v9_18 a9_19 v9_20 v9_21 v9_22 a9_23 a9_24 a9_25 a9_26 a9_27 a9_28 a9_29 a9_30 a9_31 a9_32 a9_33 a9_34 v9_35 v9_36 a9_37 a9_38 a9_39 a9_40 a9_41 v9_42 a9_43 a9_44 a9_45 a9_46 a9_47 v9_48 v9_49 v9_50 v9_51 a9_52 a9_53 v9_54 v9_55 a9_56 a9_57 v9_58 a9_59 a9_60 a9_61)), (a9_34, .inl (cyI, 202, .inl (upd (upd g9_34 (Int32.toNatClampNeg (v9_35 - (2 : Int32))) (g9_34 (Int32.toNatClampNeg (v9_35 - (1 : Int32))))) (Int32.toNatClampNeg (v9_35 - (1 : Int32))) 0))), (a9_61, .inl (cyI, 2, .inl g9_61))]) [0, 1, 2] (by decide) rfl
                exact W.zret (ty := .boolean) hx hb hr rfl (fun t ht hW => ⟨⟨_, (), rfl, ⟨rfl, rfl⟩, by rw [ht]; exact hP9, va_K.moved hW.alike hK, hD9⟩, hS.F ht⟩) hS.2.2 dX9_moves_150
              · replace hf := x_ip c_101 hf
                refine lv_iconst (v := 0) hx hb dX9_moves_123 (by decide) ?_
                obtain rfl := Option.some.inj hf
                have hP9 := hP.sub (ws' := [(o9, .inr (9, x_O9 v9_0 v9_1 v9_2 v9_3 a9_4 a9_5 a9_6 a9_7 a9_8 a9_9 a9_10 a9_11 a9_12 v9_13 v9_14 v9_15 v9_16 v9_17 v9_18 a9_19 v9_20 v9_21 v9_22 a9_23 a9_24 a9_25 a9_26 a9_27 a9_28 a9_29 a9_30 a9_31 a9_32 a9_33 a9_34 v9_35 v9_36 a9_37 a9_38 a9_39 a9_40 a9_41 v9_42 a9_43 a9_44 a9_45 a9_46 a9_47 v9_48 v9_49 v9_50 v9_51 a9_52 a9_53 v9_54 v9_55 a9_56 a9_57 v9_58 a9_59 a9_60 a9_61)), (a9_34, .inl (cyI, 202, .inl g9_34)), (a9_61, .inl (cyI, 2, .inl g9_61))]) [0, 1, 2] rfl
                have hD9 := hD.sub (ws' := [(o9, .inr (9, x_O9 v9_0 v9_1 v9_2 v9_3 a9_4 a9_5 a9_6 a9_7 a9_8 a9_9 a9_10 a9_11 a9_12 v9_13 v9_14 v9_15 v9_16 v9_17 v9_18 a9_19 v9_20 v9_21 v9_22 a9_23 a9_24 a9_25 a9_26 a9_27 a9_28 a9_29 a9_30 a9_31 a9_32 a9_33 a9_34 v9_35 v9_36 a9_37 a9_38 a9_39 a9_40 a9_41 v9_42 a9_43 a9_44 a9_45 a9_46 a9_47 v9_48 v9_49 v9_50 v9_51 a9_52 a9_53 v9_54 v9_55 a9_56 a9_57 v9_58 a9_59 a9_60 a9_61)), (a9_34, .inl (cyI, 202, .inl g9_34)), (a9_61, .inl (cyI, 2, .inl g9_61))]) [0, 1, 2] (by decide) rfl
                exact W.zret (ty := .boolean) hx hb hr rfl (fun t ht hW => ⟨⟨_, (), rfl, ⟨rfl, rfl⟩, by rw [ht]; exact hP9, va_K.moved hW.alike hK, hD9⟩, hS.F ht⟩) hS.2.2 dX9_moves_124
        · replace hf := x_ip c_81 hf
          exact (hWW _ _ _ _ _).mpr ((J v9_35 (0, p1, 0, 0, 0, 0, 0, 0, g9_34, g9_61) _ hf rfl _ _ _ _ _ _ _ _ _ _ rfl).1 rfl H locs ls hP hD hS (lv_sub hl [2, 3] rfl))
    · replace hf := x_in c_79 hf
      refine lv_aload_n hx hb dX9_moves_31 rfl (lv_at hl 1 rfl) ?_
      refine va_get (D := (dC, dI)) (ci := 9) (v := .ref a9_34) (C := RX9) (T := TX9) (N := 62) hx hb hts i_X9_moves_X9 hown hK hP 0 rfl rfl 34 (by decide) k_3 (fun _ h9 => h9) rfl dX9_moves_32 ?_
      refine lv_aload_n hx hb dX9_moves_35 rfl (lv_at hl 1 rfl) ?_
      refine va_get (D := (dC, dI)) (ci := 9) (v := .int v9_35) (C := RX9) (T := TX9) (N := 62) hx hb hts i_X9_moves_X9 hown hK hP 0 rfl rfl 35 (by decide) k_1 (fun _ h9 => h9) rfl dX9_moves_36 ?_
      refine lv_iconst (v := 2) hx hb dX9_moves_39 (by decide) ?_
      refine lv_isub hx hb dX9_moves_40 ?_
      obtain ⟨g_104, hf⟩ := x_gu hf
      refine va_iald hx hb hK hP 1 0 rfl rfl (x_gdin g_104) dX9_moves_41 ?_
      refine lv_goto (tgt := 46) hx hb dX9_moves_42 (by decide) ?_
      refine lv_istore_n (lv' := [(3, .int (g9_34 (Int32.toNatClampNeg (v9_35 - (2 : Int32))))), (2, .int (g9_34 (Int32.toNatClampNeg (v9_35 - (1 : Int32))))), (0, .ref o9), (1, .int p1)]) hx hb dX9_moves_46 rfl hl (by decide) rfl (fun ls hl => ?_)
      refine lv_iload_n hx hb dX9_moves_47 rfl (lv_at hl 3 rfl) ?_
      refine lv_bipush (v := 87) hx hb dX9_moves_48 (by decide) ?_
      refine lv_icmp_eq (tgt := 59) hx hb dX9_moves_50 (by decide) (fun c_105 => ?_) (fun c_105 => ?_)
      · replace hf := x_ip c_105 hf
        exact (hWW _ _ _ _ _).mpr ((J v9_35 (0, p1, 0, 0, 0, 0, 0, 0, g9_34, g9_61) _ hf rfl _ _ _ _ _ _ _ _ _ _ rfl).1 rfl H locs ls hP hD hS (lv_sub hl [2, 3] rfl))
      · replace hf := x_in c_105 hf
        refine lv_iload_n hx hb dX9_moves_53 rfl (lv_at hl 3 rfl) ?_
        refine lv_bipush (v := 88) hx hb dX9_moves_54 (by decide) ?_
        refine lv_icmp_ne (tgt := 101) hx hb dX9_moves_56 (by decide) (fun c_106 => ?_) (fun c_106 => ?_)
        · replace hf := x_in c_106 hf
          refine lv_iload_n hx hb dX9_moves_101 rfl (lv_at hl 3 rfl) ?_
          refine lv_bipush (v := 95) hx hb dX9_moves_102 (by decide) ?_
          refine lv_icmp_ne (tgt := 151) hx hb dX9_moves_104 (by decide) (fun c_107 => ?_) (fun c_107 => ?_)
          · replace hf := x_in c_107 hf
            refine lv_iload_n hx hb dX9_moves_151 rfl (lv_at hl 3 rfl) ?_
            refine lv_bipush (v := 91) hx hb dX9_moves_152 (by decide) ?_
            refine lv_icmp_gt (tgt := 161) hx hb dX9_moves_154 (by decide) (fun c_108 => ?_) (fun c_108 => ?_)
            · replace hf := x_ip c_108 hf
              refine lv_iconst (v := 2) hx hb dX9_moves_161 (by decide) ?_
              refine lv_istore (lv' := [(4, .int 2), (3, .int (g9_34 (Int32.toNatClampNeg (v9_35 - (2 : Int32))))), (2, .int (g9_34 (Int32.toNatClampNeg (v9_35 - (1 : Int32))))), (0, .ref o9), (1, .int p1)]) hx hb dX9_moves_162 hl (by decide) rfl (fun ls hl => ?_)
              refine lv_iload_n hx hb dX9_moves_164 rfl (lv_at hl 4 rfl) ?_
              refine lv_bipush (v := 91) hx hb dX9_moves_165 (by decide) ?_
              refine lv_icmp_gt (tgt := 177) hx hb dX9_moves_167 (by decide) (fun c_109 => ?_) (fun c_109 => ?_)
              · replace hf := x_ip c_109 hf
                refine lv_iload_n hx hb dX9_moves_177 rfl (lv_at hl 4 rfl) ?_
                refine lv_bipush (v := 92) hx hb dX9_moves_178 (by decide) ?_
                refine lv_isub hx hb dX9_moves_180 ?_
                refine lv_istore (lv' := [(5, .int (p1 - (92 : Int32))), (4, .int 2), (3, .int (g9_34 (Int32.toNatClampNeg (v9_35 - (2 : Int32))))), (2, .int (g9_34 (Int32.toNatClampNeg (v9_35 - (1 : Int32))))), (0, .ref o9), (1, .int p1)]) hx hb dX9_moves_181 hl (by decide) rfl (fun ls hl => ?_)
                refine lv_iload hx hb dX9_moves_183 (lv_at hl 1 rfl) ?_
                refine lv_iconst (v := 1) hx hb dX9_moves_185 (by decide) ?_
                refine lv_icmp_ne (tgt := 200) hx hb dX9_moves_186 (by decide) (fun _ => ?_) (fun c_110 => absurd c_110 (by decide))
                refine lv_aload_n hx hb dX9_moves_200 rfl (lv_at hl 4 rfl) ?_
                refine lv_iconst (v := 2) hx hb dX9_moves_201 (by decide) ?_
                obtain ⟨r_111, h_111, hf⟩ := x_bi hf
                have hPc := hP.sub (ws' := [(o9, .inr (9, x_O9 v9_0 v9_1 v9_2 v9_3 a9_4 a9_5 a9_6 a9_7 a9_8 a9_9 a9_10 a9_11 a9_12 v9_13 v9_14 v9_15 v9_16 v9_17 v9_18 a9_19 v9_20 v9_21 v9_22 a9_23 a9_24 a9_25 a9_26 a9_27 a9_28 a9_29 a9_30 a9_31 a9_32 a9_33 a9_34 v9_35 v9_36 a9_37 a9_38 a9_39 a9_40 a9_41 v9_42 a9_43 a9_44 a9_45 a9_46 a9_47 v9_48 v9_49 v9_50 v9_51 a9_52 a9_53 v9_54 v9_55 a9_56 a9_57 v9_58 a9_59 a9_60 a9_61)), (a9_34, .inl (cyI, 202, .inl g9_34))]) [0, 1] rfl
                refine va_calli (va_runV (As := [.int 2]) (rest := []) ⟨hx, hb, hml, hown, hts⟩ (c_X9_pair l dC dI cyI cyZ cyJ H.size o9 v9_0 v9_1 v9_2 v9_3 a9_4 a9_5 a9_6 a9_7 a9_8 a9_9 a9_10 a9_11 a9_12 v9_13 v9_14 v9_15 v9_16 v9_17 v9_18 a9_19 v9_20 v9_21 v9_22 a9_23 a9_24 a9_25 a9_26 a9_27 a9_28 a9_29 a9_30 a9_31 a9_32 a9_33 a9_34 v9_35 v9_36 a9_37 a9_38 a9_39 a9_40 a9_41 v9_42 a9_43 a9_44 a9_45 a9_46 a9_47 v9_48 v9_49 v9_50 v9_51 a9_52 a9_53 v9_54 v9_55 a9_56 a9_57 v9_58 a9_59 a9_60 a9_61 g9_34 2 r_111 h_111) (cwV 1 hts gX9_moves_X9_pair rfl rfl rfl (by decide +kernel) ⟨Nat.le_of_ble_eq_true rfl, Nat.le_of_ble_eq_true rfl⟩) (x_pV hN hK hPc (ci := 9) (q0 := 0) rfl rfl) rfl rfl hl.1 rfl (lv_room (Nat.le_of_ble_eq_true rfl)) dX9_moves_202 ⟨Nat.le_of_ble_eq_true rfl, Nat.le_of_ble_eq_true rfl⟩) hS x_nA (x_nf hA hS) (fun q_111 u t H1 locs ht hvm hw hB hz1 hk1 hS => ?_)
                have hP := x_kp hP hk1
                clear ht hvm hB hz1 hk1 t u hPc
                generalize H1 = H at hP hS ⊢
                obtain ⟨hw, b_111⟩ := hw
                obtain rfl := hw.symm
                refine lv_if_ne (tgt := 210) hx hb dX9_moves_205 (by decide) (fun c_112 => ?_) (fun c_112 => ?_)
                · replace hf := x_in c_112 hf
                  exact (hWW _ _ _ _ _).mpr ((J v9_35 (2, 0, g9_34 (Int32.toNatClampNeg (v9_35 - (1 : Int32))), g9_34 (Int32.toNatClampNeg (v9_35 - (2 : Int32))), 2, p1 - (92 : Int32), 0, 0, g9_34, g9_61) _ hf rfl _ _ _ _ _ _ _ _ _ _ rfl).2.2.1 rfl H locs ls hP hD hS (lv_sub hl [4, 3, 2, 1, 0] rfl))
                · replace hf := x_ip c_112 hf
                  refine lv_iconst (v := 0) hx hb dX9_moves_208 (by decide) ?_
                  obtain rfl := Option.some.inj hf
                  have hP9 := hP.sub (ws' := [(o9, .inr (9, x_O9 v9_0 v9_1 v9_2 v9_3 a9_4 a9_5 a9_6 a9_7 a9_8 a9_9 a9_10 a9_11 a9_12 v9_13 v9_14 v9_15 v9_16 v9_17 v9_18 a9_19 v9_20 v9_21 v9_22 a9_23 a9_24 a9_25 a9_26 a9_27 a9_28 a9_29 a9_30 a9_31 a9_32 a9_33 a9_34 v9_35 v9_36 a9_37 a9_38 a9_39 a9_40 a9_41 v9_42 a9_43 a9_44 a9_45 a9_46 a9_47 v9_48 v9_49 v9_50 v9_51 a9_52 a9_53 v9_54 v9_55 a9_56 a9_57 v9_58 a9_59 a9_60 a9_61)), (a9_34, .inl (cyI, 202, .inl g9_34)), (a9_61, .inl (cyI, 2, .inl g9_61))]) [0, 1, 2] rfl
                  have hD9 := hD.sub (ws' := [(o9, .inr (9, x_O9 v9_0 v9_1 v9_2 v9_3 a9_4 a9_5 a9_6 a9_7 a9_8 a9_9 a9_10 a9_11 a9_12 v9_13 v9_14 v9_15 v9_16 v9_17 v9_18 a9_19 v9_20 v9_21 v9_22 a9_23 a9_24 a9_25 a9_26 a9_27 a9_28 a9_29 a9_30 a9_31 a9_32 a9_33 a9_34 v9_35 v9_36 a9_37 a9_38 a9_39 a9_40 a9_41 v9_42 a9_43 a9_44 a9_45 a9_46 a9_47 v9_48 v9_49 v9_50 v9_51 a9_52 a9_53 v9_54 v9_55 a9_56 a9_57 v9_58 a9_59 a9_60 a9_61)), (a9_34, .inl (cyI, 202, .inl g9_34)), (a9_61, .inl (cyI, 2, .inl g9_61))]) [0, 1, 2] (by decide) rfl
                  exact W.zret (ty := .boolean) hx hb hr rfl (fun t ht hW => ⟨⟨_, (), rfl, ⟨rfl, rfl⟩, by rw [ht]; exact hP9, va_K.moved hW.alike hK, hD9⟩, hS.F ht⟩) hS.2.2 dX9_moves_209
              · replace hf := x_in c_109 hf
                refine lv_iload_n hx hb dX9_moves_170 rfl (lv_at hl 4 rfl) ?_
                refine lv_bipush (v := 89) hx hb dX9_moves_171 (by decide) ?_
                refine lv_isub hx hb dX9_moves_173 ?_
                refine lv_goto (tgt := 181) hx hb dX9_moves_174 (by decide) ?_
                refine lv_istore (lv' := [(5, .int (p1 - (89 : Int32))), (4, .int 2), (3, .int (g9_34 (Int32.toNatClampNeg (v9_35 - (2 : Int32))))), (2, .int (g9_34 (Int32.toNatClampNeg (v9_35 - (1 : Int32))))), (0, .ref o9), (1, .int p1)]) hx hb dX9_moves_181 hl (by decide) rfl (fun ls hl => ?_)
                refine lv_iload hx hb dX9_moves_183 (lv_at hl 1 rfl) ?_
                refine lv_iconst (v := 1) hx hb dX9_moves_185 (by decide) ?_
                refine lv_icmp_ne (tgt := 200) hx hb dX9_moves_186 (by decide) (fun _ => ?_) (fun c_113 => absurd c_113 (by decide))
                refine lv_aload_n hx hb dX9_moves_200 rfl (lv_at hl 4 rfl) ?_
                refine lv_iconst (v := 2) hx hb dX9_moves_201 (by decide) ?_
                obtain ⟨r_114, h_114, hf⟩ := x_bi hf
                have hPc := hP.sub (ws' := [(o9, .inr (9, x_O9 v9_0 v9_1 v9_2 v9_3 a9_4 a9_5 a9_6 a9_7 a9_8 a9_9 a9_10 a9_11 a9_12 v9_13 v9_14 v9_15 v9_16 v9_17 v9_18 a9_19 v9_20 v9_21 v9_22 a9_23 a9_24 a9_25 a9_26 a9_27 a9_28 a9_29 a9_30 a9_31 a9_32 a9_33 a9_34 v9_35 v9_36 a9_37 a9_38 a9_39 a9_40 a9_41 v9_42 a9_43 a9_44 a9_45 a9_46 a9_47 v9_48 v9_49 v9_50 v9_51 a9_52 a9_53 v9_54 v9_55 a9_56 a9_57 v9_58 a9_59 a9_60 a9_61)), (a9_34, .inl (cyI, 202, .inl g9_34))]) [0, 1] rfl
                refine va_calli (va_runV (As := [.int 2]) (rest := []) ⟨hx, hb, hml, hown, hts⟩ (c_X9_pair l dC dI cyI cyZ cyJ H.size o9 v9_0 v9_1 v9_2 v9_3 a9_4 a9_5 a9_6 a9_7 a9_8 a9_9 a9_10 a9_11 a9_12 v9_13 v9_14 v9_15 v9_16 v9_17 v9_18 a9_19 v9_20 v9_21 v9_22 a9_23 a9_24 a9_25 a9_26 a9_27 a9_28 a9_29 a9_30 a9_31 a9_32 a9_33 a9_34 v9_35 v9_36 a9_37 a9_38 a9_39 a9_40 a9_41 v9_42 a9_43 a9_44 a9_45 a9_46 a9_47 v9_48 v9_49 v9_50 v9_51 a9_52 a9_53 v9_54 v9_55 a9_56 a9_57 v9_58 a9_59 a9_60 a9_61 g9_34 2 r_114 h_114) (cwV 1 hts gX9_moves_X9_pair rfl rfl rfl (by decide +kernel) ⟨Nat.le_of_ble_eq_true rfl, Nat.le_of_ble_eq_true rfl⟩) (x_pV hN hK hPc (ci := 9) (q0 := 0) rfl rfl) rfl rfl hl.1 rfl (lv_room (Nat.le_of_ble_eq_true rfl)) dX9_moves_202 ⟨Nat.le_of_ble_eq_true rfl, Nat.le_of_ble_eq_true rfl⟩) hS x_nA (x_nf hA hS) (fun q_114 u t H1 locs ht hvm hw hB hz1 hk1 hS => ?_)
                have hP := x_kp hP hk1
                clear ht hvm hB hz1 hk1 t u hPc
                generalize H1 = H at hP hS ⊢
                obtain ⟨hw, b_114⟩ := hw
                obtain rfl := hw.symm
                refine lv_if_ne (tgt := 210) hx hb dX9_moves_205 (by decide) (fun c_115 => ?_) (fun c_115 => ?_)
                · replace hf := x_in c_115 hf
                  exact (hWW _ _ _ _ _).mpr ((J v9_35 (2, 0, g9_34 (Int32.toNatClampNeg (v9_35 - (1 : Int32))), g9_34 (Int32.toNatClampNeg (v9_35 - (2 : Int32))), 2, p1 - (89 : Int32), 0, 0, g9_34, g9_61) _ hf rfl _ _ _ _ _ _ _ _ _ _ rfl).2.2.1 rfl H locs ls hP hD hS (lv_sub hl [4, 3, 2, 1, 0] rfl))
                · replace hf := x_ip c_115 hf
                  refine lv_iconst (v := 0) hx hb dX9_moves_208 (by decide) ?_
                  obtain rfl := Option.some.inj hf
                  have hP9 := hP.sub (ws' := [(o9, .inr (9, x_O9 v9_0 v9_1 v9_2 v9_3 a9_4 a9_5 a9_6 a9_7 a9_8 a9_9 a9_10 a9_11 a9_12 v9_13 v9_14 v9_15 v9_16 v9_17 v9_18 a9_19 v9_20 v9_21 v9_22 a9_23 a9_24 a9_25 a9_26 a9_27 a9_28 a9_29 a9_30 a9_31 a9_32 a9_33 a9_34 v9_35 v9_36 a9_37 a9_38 a9_39 a9_40 a9_41 v9_42 a9_43 a9_44 a9_45 a9_46 a9_47 v9_48 v9_49 v9_50 v9_51 a9_52 a9_53 v9_54 v9_55 a9_56 a9_57 v9_58 a9_59 a9_60 a9_61)), (a9_34, .inl (cyI, 202, .inl g9_34)), (a9_61, .inl (cyI, 2, .inl g9_61))]) [0, 1, 2] rfl
                  have hD9 := hD.sub (ws' := [(o9, .inr (9, x_O9 v9_0 v9_1 v9_2 v9_3 a9_4 a9_5 a9_6 a9_7 a9_8 a9_9 a9_10 a9_11 a9_12 v9_13 v9_14 v9_15 v9_16 v9_17 v9_18 a9_19 v9_20 v9_21 v9_22 a9_23 a9_24 a9_25 a9_26 a9_27 a9_28 a9_29 a9_30 a9_31 a9_32 a9_33 a9_34 v9_35 v9_36 a9_37 a9_38 a9_39 a9_40 a9_41 v9_42 a9_43 a9_44 a9_45 a9_46 a9_47 v9_48 v9_49 v9_50 v9_51 a9_52 a9_53 v9_54 v9_55 a9_56 a9_57 v9_58 a9_59 a9_60 a9_61)), (a9_34, .inl (cyI, 202, .inl g9_34)), (a9_61, .inl (cyI, 2, .inl g9_61))]) [0, 1, 2] (by decide) rfl
                  exact W.zret (ty := .boolean) hx hb hr rfl (fun t ht hW => ⟨⟨_, (), rfl, ⟨rfl, rfl⟩, by rw [ht]; exact hP9, va_K.moved hW.alike hK, hD9⟩, hS.F ht⟩) hS.2.2 dX9_moves_209
            · replace hf := x_in c_108 hf
              refine lv_iconst (v := 1) hx hb dX9_moves_157 (by decide) ?_
              refine lv_goto (tgt := 162) hx hb dX9_moves_158 (by decide) ?_
              refine lv_istore (lv' := [(4, .int 1), (3, .int (g9_34 (Int32.toNatClampNeg (v9_35 - (2 : Int32))))), (2, .int (g9_34 (Int32.toNatClampNeg (v9_35 - (1 : Int32))))), (0, .ref o9), (1, .int p1)]) hx hb dX9_moves_162 hl (by decide) rfl (fun ls hl => ?_)
              refine lv_iload_n hx hb dX9_moves_164 rfl (lv_at hl 4 rfl) ?_
              refine lv_bipush (v := 91) hx hb dX9_moves_165 (by decide) ?_
              refine lv_icmp_gt (tgt := 177) hx hb dX9_moves_167 (by decide) (fun c_116 => ?_) (fun c_116 => ?_)
              · replace hf := x_ip c_116 hf
                refine lv_iload_n hx hb dX9_moves_177 rfl (lv_at hl 4 rfl) ?_
                refine lv_bipush (v := 92) hx hb dX9_moves_178 (by decide) ?_
                refine lv_isub hx hb dX9_moves_180 ?_
                refine lv_istore (lv' := [(5, .int (p1 - (92 : Int32))), (4, .int 1), (3, .int (g9_34 (Int32.toNatClampNeg (v9_35 - (2 : Int32))))), (2, .int (g9_34 (Int32.toNatClampNeg (v9_35 - (1 : Int32))))), (0, .ref o9), (1, .int p1)]) hx hb dX9_moves_181 hl (by decide) rfl (fun ls hl => ?_)
                refine lv_iload hx hb dX9_moves_183 (lv_at hl 1 rfl) ?_
                refine lv_iconst (v := 1) hx hb dX9_moves_185 (by decide) ?_
                refine lv_icmp_ne (tgt := 200) hx hb dX9_moves_186 (by decide) (fun c_117 => absurd (by decide) c_117) (fun _ => ?_)
                refine lv_aload_n hx hb dX9_moves_189 rfl (lv_at hl 4 rfl) ?_
                refine lv_iconst (v := 1) hx hb dX9_moves_190 (by decide) ?_
                obtain ⟨r_118, h_118, hf⟩ := x_bi hf
                have hPc := hP.sub (ws' := [(o9, .inr (9, x_O9 v9_0 v9_1 v9_2 v9_3 a9_4 a9_5 a9_6 a9_7 a9_8 a9_9 a9_10 a9_11 a9_12 v9_13 v9_14 v9_15 v9_16 v9_17 v9_18 a9_19 v9_20 v9_21 v9_22 a9_23 a9_24 a9_25 a9_26 a9_27 a9_28 a9_29 a9_30 a9_31 a9_32 a9_33 a9_34 v9_35 v9_36 a9_37 a9_38 a9_39 a9_40 a9_41 v9_42 a9_43 a9_44 a9_45 a9_46 a9_47 v9_48 v9_49 v9_50 v9_51 a9_52 a9_53 v9_54 v9_55 a9_56 a9_57 v9_58 a9_59 a9_60 a9_61)), (a9_34, .inl (cyI, 202, .inl g9_34))]) [0, 1] rfl
                refine va_calli (va_runV (As := [.int 1]) (rest := []) ⟨hx, hb, hml, hown, hts⟩ (c_X9_single l dC dI cyI cyZ cyJ H.size o9 v9_0 v9_1 v9_2 v9_3 a9_4 a9_5 a9_6 a9_7 a9_8 a9_9 a9_10 a9_11 a9_12 v9_13 v9_14 v9_15 v9_16 v9_17 v9_18 a9_19 v9_20 v9_21 v9_22 a9_23 a9_24 a9_25 a9_26 a9_27 a9_28 a9_29 a9_30 a9_31 a9_32 a9_33 a9_34 v9_35 v9_36 a9_37 a9_38 a9_39 a9_40 a9_41 v9_42 a9_43 a9_44 a9_45 a9_46 a9_47 v9_48 v9_49 v9_50 v9_51 a9_52 a9_53 v9_54 v9_55 a9_56 a9_57 v9_58 a9_59 a9_60 a9_61 g9_34 1 r_118 h_118) (cwV 1 hts gX9_moves_X9_single rfl rfl rfl (by decide +kernel) ⟨Nat.le_of_ble_eq_true rfl, Nat.le_of_ble_eq_true rfl⟩) (x_pV hN hK hPc (ci := 9) (q0 := 0) rfl rfl) rfl rfl hl.1 rfl (lv_room (Nat.le_of_ble_eq_true rfl)) dX9_moves_191 ⟨Nat.le_of_ble_eq_true rfl, Nat.le_of_ble_eq_true rfl⟩) hS x_nA (x_nf hA hS) (fun q_118 u t H1 locs ht hvm hw hB hz1 hk1 hS => ?_)
                have hP := x_kp hP hk1
                clear ht hvm hB hz1 hk1 t u hPc
                generalize H1 = H at hP hS ⊢
                obtain ⟨hw, b_118⟩ := hw
                obtain rfl := hw.symm
                refine lv_if_eq (tgt := 208) hx hb dX9_moves_194 (by decide) (fun c_119 => ?_) (fun c_119 => ?_)
                · replace hf := x_ip c_119 hf
                  refine lv_iconst (v := 0) hx hb dX9_moves_208 (by decide) ?_
                  obtain rfl := Option.some.inj hf
                  have hP9 := hP.sub (ws' := [(o9, .inr (9, x_O9 v9_0 v9_1 v9_2 v9_3 a9_4 a9_5 a9_6 a9_7 a9_8 a9_9 a9_10 a9_11 a9_12 v9_13 v9_14 v9_15 v9_16 v9_17 v9_18 a9_19 v9_20 v9_21 v9_22 a9_23 a9_24 a9_25 a9_26 a9_27 a9_28 a9_29 a9_30 a9_31 a9_32 a9_33 a9_34 v9_35 v9_36 a9_37 a9_38 a9_39 a9_40 a9_41 v9_42 a9_43 a9_44 a9_45 a9_46 a9_47 v9_48 v9_49 v9_50 v9_51 a9_52 a9_53 v9_54 v9_55 a9_56 a9_57 v9_58 a9_59 a9_60 a9_61)), (a9_34, .inl (cyI, 202, .inl g9_34)), (a9_61, .inl (cyI, 2, .inl g9_61))]) [0, 1, 2] rfl
                  have hD9 := hD.sub (ws' := [(o9, .inr (9, x_O9 v9_0 v9_1 v9_2 v9_3 a9_4 a9_5 a9_6 a9_7 a9_8 a9_9 a9_10 a9_11 a9_12 v9_13 v9_14 v9_15 v9_16 v9_17 v9_18 a9_19 v9_20 v9_21 v9_22 a9_23 a9_24 a9_25 a9_26 a9_27 a9_28 a9_29 a9_30 a9_31 a9_32 a9_33 a9_34 v9_35 v9_36 a9_37 a9_38 a9_39 a9_40 a9_41 v9_42 a9_43 a9_44 a9_45 a9_46 a9_47 v9_48 v9_49 v9_50 v9_51 a9_52 a9_53 v9_54 v9_55 a9_56 a9_57 v9_58 a9_59 a9_60 a9_61)), (a9_34, .inl (cyI, 202, .inl g9_34)), (a9_61, .inl (cyI, 2, .inl g9_61))]) [0, 1, 2] (by decide) rfl
                  exact W.zret (ty := .boolean) hx hb hr rfl (fun t ht hW => ⟨⟨_, (), rfl, ⟨rfl, rfl⟩, by rw [ht]; exact hP9, va_K.moved hW.alike hK, hD9⟩, hS.F ht⟩) hS.2.2 dX9_moves_209
                · replace hf := x_in c_119 hf
                  refine lv_goto (tgt := 210) hx hb dX9_moves_197 (by decide) ?_
                  exact (hWW _ _ _ _ _).mpr ((J v9_35 (2, 0, g9_34 (Int32.toNatClampNeg (v9_35 - (1 : Int32))), g9_34 (Int32.toNatClampNeg (v9_35 - (2 : Int32))), 1, p1 - (92 : Int32), 0, 0, g9_34, g9_61) _ hf rfl _ _ _ _ _ _ _ _ _ _ rfl).2.2.1 rfl H locs ls hP hD hS (lv_sub hl [4, 3, 2, 1, 0] rfl))
              · replace hf := x_in c_116 hf
                refine lv_iload_n hx hb dX9_moves_170 rfl (lv_at hl 4 rfl) ?_
                refine lv_bipush (v := 89) hx hb dX9_moves_171 (by decide) ?_
                refine lv_isub hx hb dX9_moves_173 ?_
                refine lv_goto (tgt := 181) hx hb dX9_moves_174 (by decide) ?_
                refine lv_istore (lv' := [(5, .int (p1 - (89 : Int32))), (4, .int 1), (3, .int (g9_34 (Int32.toNatClampNeg (v9_35 - (2 : Int32))))), (2, .int (g9_34 (Int32.toNatClampNeg (v9_35 - (1 : Int32))))), (0, .ref o9), (1, .int p1)]) hx hb dX9_moves_181 hl (by decide) rfl (fun ls hl => ?_)
                refine lv_iload hx hb dX9_moves_183 (lv_at hl 1 rfl) ?_
                refine lv_iconst (v := 1) hx hb dX9_moves_185 (by decide) ?_
                refine lv_icmp_ne (tgt := 200) hx hb dX9_moves_186 (by decide) (fun c_120 => absurd (by decide) c_120) (fun _ => ?_)
                refine lv_aload_n hx hb dX9_moves_189 rfl (lv_at hl 4 rfl) ?_
                refine lv_iconst (v := 1) hx hb dX9_moves_190 (by decide) ?_
                obtain ⟨r_121, h_121, hf⟩ := x_bi hf
                have hPc := hP.sub (ws' := [(o9, .inr (9, x_O9 v9_0 v9_1 v9_2 v9_3 a9_4 a9_5 a9_6 a9_7 a9_8 a9_9 a9_10 a9_11 a9_12 v9_13 v9_14 v9_15 v9_16 v9_17 v9_18 a9_19 v9_20 v9_21 v9_22 a9_23 a9_24 a9_25 a9_26 a9_27 a9_28 a9_29 a9_30 a9_31 a9_32 a9_33 a9_34 v9_35 v9_36 a9_37 a9_38 a9_39 a9_40 a9_41 v9_42 a9_43 a9_44 a9_45 a9_46 a9_47 v9_48 v9_49 v9_50 v9_51 a9_52 a9_53 v9_54 v9_55 a9_56 a9_57 v9_58 a9_59 a9_60 a9_61)), (a9_34, .inl (cyI, 202, .inl g9_34))]) [0, 1] rfl
                refine va_calli (va_runV (As := [.int 1]) (rest := []) ⟨hx, hb, hml, hown, hts⟩ (c_X9_single l dC dI cyI cyZ cyJ H.size o9 v9_0 v9_1 v9_2 v9_3 a9_4 a9_5 a9_6 a9_7 a9_8 a9_9 a9_10 a9_11 a9_12 v9_13 v9_14 v9_15 v9_16 v9_17 v9_18 a9_19 v9_20 v9_21 v9_22 a9_23 a9_24 a9_25 a9_26 a9_27 a9_28 a9_29 a9_30 a9_31 a9_32 a9_33 a9_34 v9_35 v9_36 a9_37 a9_38 a9_39 a9_40 a9_41 v9_42 a9_43 a9_44 a9_45 a9_46 a9_47 v9_48 v9_49 v9_50 v9_51 a9_52 a9_53 v9_54 v9_55 a9_56 a9_57 v9_58 a9_59 a9_60 a9_61 g9_34 1 r_121 h_121) (cwV 1 hts gX9_moves_X9_single rfl rfl rfl (by decide +kernel) ⟨Nat.le_of_ble_eq_true rfl, Nat.le_of_ble_eq_true rfl⟩) (x_pV hN hK hPc (ci := 9) (q0 := 0) rfl rfl) rfl rfl hl.1 rfl (lv_room (Nat.le_of_ble_eq_true rfl)) dX9_moves_191 ⟨Nat.le_of_ble_eq_true rfl, Nat.le_of_ble_eq_true rfl⟩) hS x_nA (x_nf hA hS) (fun q_121 u t H1 locs ht hvm hw hB hz1 hk1 hS => ?_)
                have hP := x_kp hP hk1
                clear ht hvm hB hz1 hk1 t u hPc
                generalize H1 = H at hP hS ⊢
                obtain ⟨hw, b_121⟩ := hw
                obtain rfl := hw.symm
                refine lv_if_eq (tgt := 208) hx hb dX9_moves_194 (by decide) (fun c_122 => ?_) (fun c_122 => ?_)
                · replace hf := x_ip c_122 hf
                  refine lv_iconst (v := 0) hx hb dX9_moves_208 (by decide) ?_
                  obtain rfl := Option.some.inj hf
                  have hP9 := hP.sub (ws' := [(o9, .inr (9, x_O9 v9_0 v9_1 v9_2 v9_3 a9_4 a9_5 a9_6 a9_7 a9_8 a9_9 a9_10 a9_11 a9_12 v9_13 v9_14 v9_15 v9_16 v9_17 v9_18 a9_19 v9_20 v9_21 v9_22 a9_23 a9_24 a9_25 a9_26 a9_27 a9_28 a9_29 a9_30 a9_31 a9_32 a9_33 a9_34 v9_35 v9_36 a9_37 a9_38 a9_39 a9_40 a9_41 v9_42 a9_43 a9_44 a9_45 a9_46 a9_47 v9_48 v9_49 v9_50 v9_51 a9_52 a9_53 v9_54 v9_55 a9_56 a9_57 v9_58 a9_59 a9_60 a9_61)), (a9_34, .inl (cyI, 202, .inl g9_34)), (a9_61, .inl (cyI, 2, .inl g9_61))]) [0, 1, 2] rfl
                  have hD9 := hD.sub (ws' := [(o9, .inr (9, x_O9 v9_0 v9_1 v9_2 v9_3 a9_4 a9_5 a9_6 a9_7 a9_8 a9_9 a9_10 a9_11 a9_12 v9_13 v9_14 v9_15 v9_16 v9_17 v9_18 a9_19 v9_20 v9_21 v9_22 a9_23 a9_24 a9_25 a9_26 a9_27 a9_28 a9_29 a9_30 a9_31 a9_32 a9_33 a9_34 v9_35 v9_36 a9_37 a9_38 a9_39 a9_40 a9_41 v9_42 a9_43 a9_44 a9_45 a9_46 a9_47 v9_48 v9_49 v9_50 v9_51 a9_52 a9_53 v9_54 v9_55 a9_56 a9_57 v9_58 a9_59 a9_60 a9_61)), (a9_34, .inl (cyI, 202, .inl g9_34)), (a9_61, .inl (cyI, 2, .inl g9_61))]) [0, 1, 2] (by decide) rfl
                  exact W.zret (ty := .boolean) hx hb hr rfl (fun t ht hW => ⟨⟨_, (), rfl, ⟨rfl, rfl⟩, by rw [ht]; exact hP9, va_K.moved hW.alike hK, hD9⟩, hS.F ht⟩) hS.2.2 dX9_moves_209
                · replace hf := x_in c_122 hf
                  refine lv_goto (tgt := 210) hx hb dX9_moves_197 (by decide) ?_
                  exact (hWW _ _ _ _ _).mpr ((J v9_35 (2, 0, g9_34 (Int32.toNatClampNeg (v9_35 - (1 : Int32))), g9_34 (Int32.toNatClampNeg (v9_35 - (2 : Int32))), 1, p1 - (89 : Int32), 0, 0, g9_34, g9_61) _ hf rfl _ _ _ _ _ _ _ _ _ _ rfl).2.2.1 rfl H locs ls hP hD hS (lv_sub hl [4, 3, 2, 1, 0] rfl))
          · replace hf := x_ip c_107 hf
            refine lv_aload_n hx hb dX9_moves_107 rfl (lv_at hl 2 rfl) ?_
            refine lv_iconst (v := 1) hx hb dX9_moves_108 (by decide) ?_
            obtain ⟨r_123, h_123, hf⟩ := x_bi hf
            have hPc := hP.sub (ws' := [(o9, .inr (9, x_O9 v9_0 v9_1 v9_2 v9_3 a9_4 a9_5 a9_6 a9_7 a9_8 a9_9 a9_10 a9_11 a9_12 v9_13 v9_14 v9_15 v9_16 v9_17 v9_18 a9_19 v9_20 v9_21 v9_22 a9_23 a9_24 a9_25 a9_26 a9_27 a9_28 a9_29 a9_30 a9_31 a9_32 a9_33 a9_34 v9_35 v9_36 a9_37 a9_38 a9_39 a9_40 a9_41 v9_42 a9_43 a9_44 a9_45 a9_46 a9_47 v9_48 v9_49 v9_50 v9_51 a9_52 a9_53 v9_54 v9_55 a9_56 a9_57 v9_58 a9_59 a9_60 a9_61)), (a9_34, .inl (cyI, 202, .inl g9_34))]) [0, 1] rfl
            refine va_calli (va_runV (As := [.int 1]) (rest := []) ⟨hx, hb, hml, hown, hts⟩ (c_X9_single l dC dI cyI cyZ cyJ H.size o9 v9_0 v9_1 v9_2 v9_3 a9_4 a9_5 a9_6 a9_7 a9_8 a9_9 a9_10 a9_11 a9_12 v9_13 v9_14 v9_15 v9_16 v9_17 v9_18 a9_19 v9_20 v9_21 v9_22 a9_23 a9_24 a9_25 a9_26 a9_27 a9_28 a9_29 a9_30 a9_31 a9_32 a9_33 a9_34 v9_35 v9_36 a9_37 a9_38 a9_39 a9_40 a9_41 v9_42 a9_43 a9_44 a9_45 a9_46 a9_47 v9_48 v9_49 v9_50 v9_51 a9_52 a9_53 v9_54 v9_55 a9_56 a9_57 v9_58 a9_59 a9_60 a9_61 g9_34 1 r_123 h_123) (cwV 1 hts gX9_moves_X9_single rfl rfl rfl (by decide +kernel) ⟨Nat.le_of_ble_eq_true rfl, Nat.le_of_ble_eq_true rfl⟩) (x_pV hN hK hPc (ci := 9) (q0 := 0) rfl rfl) rfl rfl hl.1 rfl (lv_room (Nat.le_of_ble_eq_true rfl)) dX9_moves_109 ⟨Nat.le_of_ble_eq_true rfl, Nat.le_of_ble_eq_true rfl⟩) hS x_nA (x_nf hA hS) (fun q_123 u t H1 locs ht hvm hw hB hz1 hk1 hS => ?_)
            have hP := x_kp hP hk1
            clear ht hvm hB hz1 hk1 t u hPc
            generalize H1 = H at hP hS ⊢
            obtain ⟨hw, b_123⟩ := hw
            obtain rfl := hw.symm
            refine lv_if_eq (tgt := 123) hx hb dX9_moves_112 (by decide) (fun c_124 => ?_) (fun c_124 => ?_)
            · replace hf := x_ip c_124 hf
              refine lv_iconst (v := 0) hx hb dX9_moves_123 (by decide) ?_
              obtain rfl := Option.some.inj hf
              have hP9 := hP.sub (ws' := [(o9, .inr (9, x_O9 v9_0 v9_1 v9_2 v9_3 a9_4 a9_5 a9_6 a9_7 a9_8 a9_9 a9_10 a9_11 a9_12 v9_13 v9_14 v9_15 v9_16 v9_17 v9_18 a9_19 v9_20 v9_21 v9_22 a9_23 a9_24 a9_25 a9_26 a9_27 a9_28 a9_29 a9_30 a9_31 a9_32 a9_33 a9_34 v9_35 v9_36 a9_37 a9_38 a9_39 a9_40 a9_41 v9_42 a9_43 a9_44 a9_45 a9_46 a9_47 v9_48 v9_49 v9_50 v9_51 a9_52 a9_53 v9_54 v9_55 a9_56 a9_57 v9_58 a9_59 a9_60 a9_61)), (a9_34, .inl (cyI, 202, .inl g9_34)), (a9_61, .inl (cyI, 2, .inl g9_61))]) [0, 1, 2] rfl
              have hD9 := hD.sub (ws' := [(o9, .inr (9, x_O9 v9_0 v9_1 v9_2 v9_3 a9_4 a9_5 a9_6 a9_7 a9_8 a9_9 a9_10 a9_11 a9_12 v9_13 v9_14 v9_15 v9_16 v9_17 v9_18 a9_19 v9_20 v9_21 v9_22 a9_23 a9_24 a9_25 a9_26 a9_27 a9_28 a9_29 a9_30 a9_31 a9_32 a9_33 a9_34 v9_35 v9_36 a9_37 a9_38 a9_39 a9_40 a9_41 v9_42 a9_43 a9_44 a9_45 a9_46 a9_47 v9_48 v9_49 v9_50 v9_51 a9_52 a9_53 v9_54 v9_55 a9_56 a9_57 v9_58 a9_59 a9_60 a9_61)), (a9_34, .inl (cyI, 202, .inl g9_34)), (a9_61, .inl (cyI, 2, .inl g9_61))]) [0, 1, 2] (by decide) rfl
              exact W.zret (ty := .boolean) hx hb hr rfl (fun t ht hW => ⟨⟨_, (), rfl, ⟨rfl, rfl⟩, by rw [ht]; exact hP9, va_K.moved hW.alike hK, hD9⟩, hS.F ht⟩) hS.2.2 dX9_moves_124
            · replace hf := x_in c_124 hf
              refine lv_aload_n hx hb dX9_moves_115 rfl (lv_at hl 2 rfl) ?_
              refine lv_iconst (v := 2) hx hb dX9_moves_116 (by decide) ?_
              obtain ⟨r_125, h_125, hf⟩ := x_bi hf
              have hPc := hP.sub (ws' := [(o9, .inr (9, x_O9 v9_0 v9_1 v9_2 v9_3 a9_4 a9_5 a9_6 a9_7 a9_8 a9_9 a9_10 a9_11 a9_12 v9_13 v9_14 v9_15 v9_16 v9_17 v9_18 a9_19 v9_20 v9_21 v9_22 a9_23 a9_24 a9_25 a9_26 a9_27 a9_28 a9_29 a9_30 a9_31 a9_32 a9_33 a9_34 v9_35 v9_36 a9_37 a9_38 a9_39 a9_40 a9_41 v9_42 a9_43 a9_44 a9_45 a9_46 a9_47 v9_48 v9_49 v9_50 v9_51 a9_52 a9_53 v9_54 v9_55 a9_56 a9_57 v9_58 a9_59 a9_60 a9_61)), (a9_34, .inl (cyI, 202, .inl g9_34))]) [0, 1] rfl
              refine va_calli (va_runV (As := [.int 2]) (rest := []) ⟨hx, hb, hml, hown, hts⟩ (c_X9_single l dC dI cyI cyZ cyJ H.size o9 v9_0 v9_1 v9_2 v9_3 a9_4 a9_5 a9_6 a9_7 a9_8 a9_9 a9_10 a9_11 a9_12 v9_13 v9_14 v9_15 v9_16 v9_17 v9_18 a9_19 v9_20 v9_21 v9_22 a9_23 a9_24 a9_25 a9_26 a9_27 a9_28 a9_29 a9_30 a9_31 a9_32 a9_33 a9_34 v9_35 v9_36 a9_37 a9_38 a9_39 a9_40 a9_41 v9_42 a9_43 a9_44 a9_45 a9_46 a9_47 v9_48 v9_49 v9_50 v9_51 a9_52 a9_53 v9_54 v9_55 a9_56 a9_57 v9_58 a9_59 a9_60 a9_61 g9_34 2 r_125 h_125) (cwV 1 hts gX9_moves_X9_single rfl rfl rfl (by decide +kernel) ⟨Nat.le_of_ble_eq_true rfl, Nat.le_of_ble_eq_true rfl⟩) (x_pV hN hK hPc (ci := 9) (q0 := 0) rfl rfl) rfl rfl hl.1 rfl (lv_room (Nat.le_of_ble_eq_true rfl)) dX9_moves_117 ⟨Nat.le_of_ble_eq_true rfl, Nat.le_of_ble_eq_true rfl⟩) hS x_nA (x_nf hA hS) (fun q_125 u t H1 locs ht hvm hw hB hz1 hk1 hS => ?_)
              have hP := x_kp hP hk1
              clear ht hvm hB hz1 hk1 t u hPc
              generalize H1 = H at hP hS ⊢
              obtain ⟨hw, b_125⟩ := hw
              obtain rfl := hw.symm
              refine lv_if_ne (tgt := 125) hx hb dX9_moves_120 (by decide) (fun c_126 => ?_) (fun c_126 => ?_)
              · replace hf := x_in c_126 hf
                refine lv_aload_n hx hb dX9_moves_125 rfl (lv_at hl 2 rfl) ?_
                refine va_get (D := (dC, dI)) (ci := 9) (v := .ref a9_34) (C := RX9) (T := TX9) (N := 62) hx hb hts i_X9_moves_X9 hown hK hP 0 rfl rfl 34 (by decide) k_3 (fun _ h9 => h9) rfl dX9_moves_126 ?_
                refine lv_aload_n hx hb dX9_moves_129 rfl (lv_at hl 2 rfl) ?_
                refine va_get (D := (dC, dI)) (ci := 9) (v := .int v9_35) (C := RX9) (T := TX9) (N := 62) hx hb hts i_X9_moves_X9 hown hK hP 0 rfl rfl 35 (by decide) k_1 (fun _ h9 => h9) rfl dX9_moves_130 ?_
                refine lv_iconst (v := 2) hx hb dX9_moves_133 (by decide) ?_
                refine lv_isub hx hb dX9_moves_134 ?_
                refine lv_iload_n hx hb dX9_moves_135 rfl (lv_at hl 1 rfl) ?_
                obtain ⟨g_127, hf⟩ := x_gu hf
                refine va_iast hx hb hK hP hD hS 1 0 rfl rfl (x_gdin g_127) dX9_moves_136 (fun H locs hP hD hS => ?_)
                have hP : va_P (dC, dI) vwCl [(o9, .inr (9, x_O9 v9_0 v9_1 v9_2 v9_3 a9_4 a9_5 a9_6 a9_7 a9_8 a9_9 a9_10 a9_11 a9_12 v9_13 v9_14 v9_15 v9_16 v9_17 v9_18 a9_19 v9_20 v9_21 v9_22 a9_23 a9_24 a9_25 a9_26 a9_27 a9_28 a9_29 a9_30 a9_31 a9_32 a9_33 a9_34 v9_35 v9_36 a9_37 a9_38 a9_39 a9_40 a9_41 v9_42 a9_43 a9_44 a9_45 a9_46 a9_47 v9_48 v9_49 v9_50 v9_51 a9_52 a9_53 v9_54 v9_55 a9_56 a9_57 v9_58 a9_59 a9_60 a9_61)), (a9_34, .inl (cyI, 202, .inl (upd g9_34 (Int32.toNatClampNeg (v9_35 - (2 : Int32))) (g9_34 (Int32.toNatClampNeg (v9_35 - (1 : Int32))))))), (a9_61, .inl (cyI, 2, .inl g9_61))] H := hP
                have hD : va_D A [(o9, .inr (9, x_O9 v9_0 v9_1 v9_2 v9_3 a9_4 a9_5 a9_6 a9_7 a9_8 a9_9 a9_10 a9_11 a9_12 v9_13 v9_14 v9_15 v9_16 v9_17 v9_18 a9_19 v9_20 v9_21 v9_22 a9_23 a9_24 a9_25 a9_26 a9_27 a9_28 a9_29 a9_30 a9_31 a9_32 a9_33 a9_34 v9_35 v9_36 a9_37 a9_38 a9_39 a9_40 a9_41 v9_42 a9_43 a9_44 a9_45 a9_46 a9_47 v9_48 v9_49 v9_50 v9_51 a9_52 a9_53 v9_54 v9_55 a9_56 a9_57 v9_58 a9_59 a9_60 a9_61)), (a9_34, .inl (cyI, 202, .inl (upd g9_34 (Int32.toNatClampNeg (v9_35 - (2 : Int32))) (g9_34 (Int32.toNatClampNeg (v9_35 - (1 : Int32))))))), (a9_61, .inl (cyI, 2, .inl g9_61))] := hD
                refine lv_aload_n hx hb dX9_moves_137 rfl (lv_at hl 2 rfl) ?_
                refine va_get (D := (dC, dI)) (ci := 9) (v := .ref a9_34) (C := RX9) (T := TX9) (N := 62) hx hb hts i_X9_moves_X9 hown hK hP 0 rfl rfl 34 (by decide) k_3 (fun _ h9 => h9) rfl dX9_moves_138 ?_
                refine lv_aload_n hx hb dX9_moves_141 rfl (lv_at hl 2 rfl) ?_
                refine va_get (D := (dC, dI)) (ci := 9) (v := .int v9_35) (C := RX9) (T := TX9) (N := 62) hx hb hts i_X9_moves_X9 hown hK hP 0 rfl rfl 35 (by decide) k_1 (fun _ h9 => h9) rfl dX9_moves_142 ?_
                refine lv_iconst (v := 1) hx hb dX9_moves_145 (by decide) ?_
                refine lv_isub hx hb dX9_moves_146 ?_
                refine lv_iload_n hx hb dX9_moves_147 rfl (lv_at hl 0 rfl) ?_
                obtain ⟨g_128, hf⟩ := x_gu hf
                refine va_iast hx hb hK hP hD hS 1 0 rfl rfl (x_gdin g_128) dX9_moves_148 (fun H locs hP hD hS => ?_)
                have hP : va_P (dC, dI) vwCl [(o9, .inr (9, x_O9 v9_0 v9_1 v9_2 v9_3 a9_4 a9_5 a9_6 a9_7 a9_8 a9_9 a9_10 a9_11 a9_12 v9_13 v9_14 v9_15 v9_16 v9_17 v9_18 a9_19 v9_20 v9_21 v9_22 a9_23 a9_24 a9_25 a9_26 a9_27 a9_28 a9_29 a9_30 a9_31 a9_32 a9_33 a9_34 v9_35 v9_36 a9_37 a9_38 a9_39 a9_40 a9_41 v9_42 a9_43 a9_44 a9_45 a9_46 a9_47 v9_48 v9_49 v9_50 v9_51 a9_52 a9_53 v9_54 v9_55 a9_56 a9_57 v9_58 a9_59 a9_60 a9_61)), (a9_34, .inl (cyI, 202, .inl (upd (upd g9_34 (Int32.toNatClampNeg (v9_35 - (2 : Int32))) (g9_34 (Int32.toNatClampNeg (v9_35 - (1 : Int32))))) (Int32.toNatClampNeg (v9_35 - (1 : Int32))) (g9_34 (Int32.toNatClampNeg (v9_35 - (2 : Int32))))))), (a9_61, .inl (cyI, 2, .inl g9_61))] H := hP
                have hD : va_D A [(o9, .inr (9, x_O9 v9_0 v9_1 v9_2 v9_3 a9_4 a9_5 a9_6 a9_7 a9_8 a9_9 a9_10 a9_11 a9_12 v9_13 v9_14 v9_15 v9_16 v9_17 v9_18 a9_19 v9_20 v9_21 v9_22 a9_23 a9_24 a9_25 a9_26 a9_27 a9_28 a9_29 a9_30 a9_31 a9_32 a9_33 a9_34 v9_35 v9_36 a9_37 a9_38 a9_39 a9_40 a9_41 v9_42 a9_43 a9_44 a9_45 a9_46 a9_47 v9_48 v9_49 v9_50 v9_51 a9_52 a9_53 v9_54 v9_55 a9_56 a9_57 v9_58 a9_59 a9_60 a9_61)), (a9_34, .inl (cyI, 202, .inl (upd (upd g9_34 (Int32.toNatClampNeg (v9_35 - (2 : Int32))) (g9_34 (Int32.toNatClampNeg (v9_35 - (1 : Int32))))) (Int32.toNatClampNeg (v9_35 - (1 : Int32))) (g9_34 (Int32.toNatClampNeg (v9_35 - (2 : Int32))))))), (a9_61, .inl (cyI, 2, .inl g9_61))] := hD
                refine lv_iconst (v := 1) hx hb dX9_moves_149 (by decide) ?_
                obtain rfl := Option.some.inj hf
                have hP9 := hP.sub (ws' := [(o9, .inr (9, x_O9 v9_0 v9_1 v9_2 v9_3 a9_4 a9_5 a9_6 a9_7 a9_8 a9_9 a9_10 a9_11 a9_12 v9_13 v9_14 v9_15 v9_16 v9_17 v9_18 a9_19 v9_20 v9_21 v9_22 a9_23 a9_24 a9_25 a9_26 a9_27 a9_28 a9_29 a9_30 a9_31 a9_32 a9_33 a9_34 v9_35 v9_36 a9_37 a9_38 a9_39 a9_40 a9_41 v9_42 a9_43 a9_44 a9_45 a9_46 a9_47 v9_48 v9_49 v9_50 v9_51 a9_52 a9_53 v9_54 v9_55 a9_56 a9_57 v9_58 a9_59 a9_60 a9_61)), (a9_34, .inl (cyI, 202, .inl (upd (upd g9_34 (Int32.toNatClampNeg (v9_35 - (2 : Int32))) (g9_34 (Int32.toNatClampNeg (v9_35 - (1 : Int32))))) (Int32.toNatClampNeg (v9_35 - (1 : Int32))) (g9_34 (Int32.toNatClampNeg (v9_35 - (2 : Int32))))))), (a9_61, .inl (cyI, 2, .inl g9_61))]) [0, 1, 2] rfl
                have hD9 := hD.sub (ws' := [(o9, .inr (9, x_O9 v9_0 v9_1 v9_2 v9_3 a9_4 a9_5 a9_6 a9_7 a9_8 a9_9 a9_10 a9_11 a9_12 v9_13 v9_14 v9_15 v9_16 v9_17 v9_18 a9_19 v9_20 v9_21 v9_22 a9_23 a9_24 a9_25 a9_26 a9_27 a9_28 a9_29 a9_30 a9_31 a9_32 a9_33 a9_34 v9_35 v9_36 a9_37 a9_38 a9_39 a9_40 a9_41 v9_42 a9_43 a9_44 a9_45 a9_46 a9_47 v9_48 v9_49 v9_50 v9_51 a9_52 a9_53 v9_54 v9_55 a9_56 a9_57 v9_58 a9_59 a9_60 a9_61)), (a9_34, .inl (cyI, 202, .inl (upd (upd g9_34 (Int32.toNatClampNeg (v9_35 - (2 : Int32))) (g9_34 (Int32.toNatClampNeg (v9_35 - (1 : Int32))))) (Int32.toNatClampNeg (v9_35 - (1 : Int32))) (g9_34 (Int32.toNatClampNeg (v9_35 - (2 : Int32))))))), (a9_61, .inl (cyI, 2, .inl g9_61))]) [0, 1, 2] (by decide) rfl
                exact W.zret (ty := .boolean) hx hb hr rfl (fun t ht hW => ⟨⟨_, (), rfl, ⟨rfl, rfl⟩, by rw [ht]; exact hP9, va_K.moved hW.alike hK, hD9⟩, hS.F ht⟩) hS.2.2 dX9_moves_150
              · replace hf := x_ip c_126 hf
                refine lv_iconst (v := 0) hx hb dX9_moves_123 (by decide) ?_
                obtain rfl := Option.some.inj hf
                have hP9 := hP.sub (ws' := [(o9, .inr (9, x_O9 v9_0 v9_1 v9_2 v9_3 a9_4 a9_5 a9_6 a9_7 a9_8 a9_9 a9_10 a9_11 a9_12 v9_13 v9_14 v9_15 v9_16 v9_17 v9_18 a9_19 v9_20 v9_21 v9_22 a9_23 a9_24 a9_25 a9_26 a9_27 a9_28 a9_29 a9_30 a9_31 a9_32 a9_33 a9_34 v9_35 v9_36 a9_37 a9_38 a9_39 a9_40 a9_41 v9_42 a9_43 a9_44 a9_45 a9_46 a9_47 v9_48 v9_49 v9_50 v9_51 a9_52 a9_53 v9_54 v9_55 a9_56 a9_57 v9_58 a9_59 a9_60 a9_61)), (a9_34, .inl (cyI, 202, .inl g9_34)), (a9_61, .inl (cyI, 2, .inl g9_61))]) [0, 1, 2] rfl
                have hD9 := hD.sub (ws' := [(o9, .inr (9, x_O9 v9_0 v9_1 v9_2 v9_3 a9_4 a9_5 a9_6 a9_7 a9_8 a9_9 a9_10 a9_11 a9_12 v9_13 v9_14 v9_15 v9_16 v9_17 v9_18 a9_19 v9_20 v9_21 v9_22 a9_23 a9_24 a9_25 a9_26 a9_27 a9_28 a9_29 a9_30 a9_31 a9_32 a9_33 a9_34 v9_35 v9_36 a9_37 a9_38 a9_39 a9_40 a9_41 v9_42 a9_43 a9_44 a9_45 a9_46 a9_47 v9_48 v9_49 v9_50 v9_51 a9_52 a9_53 v9_54 v9_55 a9_56 a9_57 v9_58 a9_59 a9_60 a9_61)), (a9_34, .inl (cyI, 202, .inl g9_34)), (a9_61, .inl (cyI, 2, .inl g9_61))]) [0, 1, 2] (by decide) rfl
                exact W.zret (ty := .boolean) hx hb hr rfl (fun t ht hW => ⟨⟨_, (), rfl, ⟨rfl, rfl⟩, by rw [ht]; exact hP9, va_K.moved hW.alike hK, hD9⟩, hS.F ht⟩) hS.2.2 dX9_moves_124
        · replace hf := x_ip c_106 hf
          exact (hWW _ _ _ _ _).mpr ((J v9_35 (0, p1, 0, 0, 0, 0, 0, 0, g9_34, g9_61) _ hf rfl _ _ _ _ _ _ _ _ _ _ rfl).1 rfl H locs ls hP hD hS (lv_sub hl [2, 3] rfl))

