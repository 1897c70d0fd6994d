def f_X9_comes_L (v9_16 : Int32) (v9_17 : Int32) (v9_35 : Int32) (v9_36 : Int32) (v9_54 : Int32) (g9_4 : Nat → Int32) (g9_5 : Nat → Int32) (g9_33 : Nat → Int32) (g9_34 : Nat → Int32) (v9_48 : Int32) (v9_55 : Int32) (g9_43 : Nat → Int32) (g9_44 : Nat → Int32) (g9_45 : Nat → Int32) (g9_46 : Nat → Int32) (g9_47 : Nat → Int32) (g9_53 : Nat → Int32) (z : Nat × Int32 × Int32 × Int32 × Int32 × Int32 × Int32 × Int32 × Int32 × (Nat → Int32)) : Option (Int32 × Int32 × Int32 × (Nat → Int32) × (Nat → Int32) × (Nat → Int32) × (Nat → Int32) × (Nat → Int32) × (Nat → Int32) × (Nat → Int32)) := match z with
  | (q, l1, l2, l3, l4, l5, l6, l7, l8, g9_57) => if q = 0 then if l3 < (0 : Int32) then (f_X9_comes_L v9_16 v9_17 v9_35 v9_36 v9_54 g9_4 g9_5 g9_33 g9_34 v9_48 v9_55 g9_43 g9_44 g9_45 g9_46 g9_47 g9_53 (1, l1, l2, l3, 0, 0, 0, 0, 0, g9_57)) else if x_gd l3 20010 = true then if (g9_44 (Int32.toNatClampNeg l3)) = l2 then (f_X9_comes_L v9_16 v9_17 v9_35 v9_36 v9_54 g9_4 g9_5 g9_33 g9_34 v9_48 v9_55 g9_43 g9_44 g9_45 g9_46 g9_47 g9_53 (1, l1, l2, l3, 0, 0, 0, 0, 0, g9_57)) else if x_gd l3 20010 = true then (f_X9_comes_L v9_16 v9_17 v9_35 v9_36 v9_54 g9_4 g9_5 g9_33 g9_34 v9_48 v9_55 g9_43 g9_44 g9_45 g9_46 g9_47 g9_53 (0, l1, l2, g9_45 (Int32.toNatClampNeg l3), 0, 0, 0, 0, 0, g9_57)) else none else none else if q = 1 then if (0 : Int32) ≤ l3 then (f_X9_size v9_16 v9_17) >>= (fun r_6 => if x_gd (((l3 * r_6) + v9_16) + v9_17) 60600 = true then if (g9_57 (Int32.toNatClampNeg (((l3 * r_6) + v9_16) + v9_17))) = v9_35 then (f_X9_comes_L v9_16 v9_17 v9_35 v9_36 v9_54 g9_4 g9_5 g9_33 g9_34 v9_48 v9_55 g9_43 g9_44 g9_45 g9_46 g9_47 g9_53 (2, 0, 0, l3, l3 * r_6, 0, 0, 0, 0, g9_57)) else some (0, v9_48, v9_55, g9_43, g9_44, g9_45, g9_46, g9_47, g9_53, g9_57) else none) else if ((v9_48 + (1 : Int32)) * ((v9_16 + v9_17) + (1 : Int32))) ≤ (20000 : Int32) then if x_gd v9_48 20010 = true then if x_gd v9_48 20010 = true then if x_gd l1 1001 = true then if x_gd v9_48 20010 = true then if x_gd l1 1001 = true then if x_gd v9_48 20010 = true then (f_X9_size v9_16 v9_17) >>= (fun r_16 => (f_X9_keep v9_16 v9_17 v9_35 v9_36 g9_33 g9_34 g9_57 (v9_48 * r_16)) >>= (fun r_17 => (f_X9_waits v9_54 v9_55 (upd g9_47 (Int32.toNatClampNeg v9_48) (vp_nar .boolean 0)) g9_53 v9_48) >>= (fun r_18 => some (1, v9_48 + (1 : Int32), r_18.1, upd g9_43 (Int32.toNatClampNeg v9_48) l1, upd g9_44 (Int32.toNatClampNeg v9_48) l2, upd g9_45 (Int32.toNatClampNeg v9_48) (g9_46 (Int32.toNatClampNeg l1)), upd g9_46 (Int32.toNatClampNeg l1) v9_48, r_18.2.1, r_18.2.2, r_17)))) else none else none else none else none else none else none else some (0, v9_48, v9_55, g9_43, g9_44, g9_45, g9_46, g9_47, g9_53, g9_57) else if q = 2 then if v9_16 ≤ l6 then (f_X9_comes_L v9_16 v9_17 v9_35 v9_36 v9_54 g9_4 g9_5 g9_33 g9_34 v9_48 v9_55 g9_43 g9_44 g9_45 g9_46 g9_47 g9_53 (5, 0, 0, l3, l4, l5, 0, 0, 0, g9_57)) else if x_gd (l4 + l6) 60600 = true then if x_gd l6 202 = true then (f_X9_joined g9_4 g9_5 (g9_57 (Int32.toNatClampNeg (l4 + l6))) (g9_33 (Int32.toNatClampNeg l6))) >>= (fun r_22 => if (0 : Int32) ≤ r_22 then (f_X9_comes_L v9_16 v9_17 v9_35 v9_36 v9_54 g9_4 g9_5 g9_33 g9_34 v9_48 v9_55 g9_43 g9_44 g9_45 g9_46 g9_47 g9_53 (3, 0, 0, l3, l4, l5, l6, r_22, 0, g9_57)) else (f_X9_comes_L v9_16 v9_17 v9_35 v9_36 v9_54 g9_4 g9_5 g9_33 g9_34 v9_48 v9_55 g9_43 g9_44 g9_45 g9_46 g9_47 g9_53 (3, 0, 0, l3, l4, l5, l6, 0, 0, g9_57))) else none else none else if q = 3 then if x_gd (l4 + l6) 60600 = true then if l7 = (g9_57 (Int32.toNatClampNeg (l4 + l6))) then (f_X9_comes_L v9_16 v9_17 v9_35 v9_36 v9_54 g9_4 g9_5 g9_33 g9_34 v9_48 v9_55 g9_43 g9_44 g9_45 g9_46 g9_47 g9_53 (4, 0, 0, l3, l4, l5, l6, 0, 0, g9_57)) else if x_gd (l4 + l6) 60600 = true then (f_X9_comes_L v9_16 v9_17 v9_35 v9_36 v9_54 g9_4 g9_5 g9_33 g9_34 v9_48 v9_55 g9_43 g9_44 g9_45 g9_46 g9_47 g9_53 (4, 0, 0, l3, l4, 1, l6, 0, 0, upd g9_57 (Int32.toNatClampNeg (l4 + l6)) l7)) else none else none else if q = 4 then (f_X9_comes_L v9_16 v9_17 v9_35 v9_36 v9_54 g9_4 g9_5 g9_33 g9_34 v9_48 v9_55 g9_43 g9_44 g9_45 g9_46 g9_47 g9_53 (2, 0, 0, l3, l4, l5, l6 + 1, 0, 0, g9_57)) else if q = 5 then if v9_16 ≤ l6 then (f_X9_comes_L v9_16 v9_17 v9_35 v9_36 v9_54 g9_4 g9_5 g9_33 g9_34 v9_48 v9_55 g9_43 g9_44 g9_45 g9_46 g9_47 g9_53 (10, 0, 0, l3, l4, l5, 0, 0, 0, g9_57)) else if x_gd (l4 + l6) 60600 = true then if (g9_57 (Int32.toNatClampNeg (l4 + l6))) = (3 : Int32) then (f_X9_comes_L v9_16 v9_17 v9_35 v9_36 v9_54 g9_4 g9_5 g9_33 g9_34 v9_48 v9_55 g9_43 g9_44 g9_45 g9_46 g9_47 g9_53 (6, 0, 0, l3, l4, l5, l6, g9_57 (Int32.toNatClampNeg (l4 + l6)), 0, g9_57)) else if (g9_57 (Int32.toNatClampNeg (l4 + l6))) = (4 : Int32) then (f_X9_comes_L v9_16 v9_17 v9_35 v9_36 v9_54 g9_4 g9_5 g9_33 g9_34 v9_48 v9_55 g9_43 g9_44 g9_45 g9_46 g9_47 g9_53 (6, 0, 0, l3, l4, l5, l6, g9_57 (Int32.toNatClampNeg (l4 + l6)), 0, g9_57)) else if (g9_57 (Int32.toNatClampNeg (l4 + l6))) = (7 : Int32) then if l6 = (0 : Int32) then (f_X9_comes_L v9_16 v9_17 v9_35 v9_36 v9_54 g9_4 g9_5 g9_33 g9_34 v9_48 v9_55 g9_43 g9_44 g9_45 g9_46 g9_47 g9_53 (8, 0, 0, l3, l4, l5, l6, 0, 0, g9_57)) else if x_gd ((l4 + l6) - (1 : Int32)) 60600 = true then if (g9_57 (Int32.toNatClampNeg ((l4 + l6) - (1 : Int32)))) = (3 : Int32) then (f_X9_comes_L v9_16 v9_17 v9_35 v9_36 v9_54 g9_4 g9_5 g9_33 g9_34 v9_48 v9_55 g9_43 g9_44 g9_45 g9_46 g9_47 g9_53 (7, 0, 0, l3, l4, l5, l6, 0, 0, g9_57)) else if x_gd ((l4 + l6) - (1 : Int32)) 60600 = true then if (g9_57 (Int32.toNatClampNeg ((l4 + l6) - (1 : Int32)))) = (4 : Int32) then (f_X9_comes_L v9_16 v9_17 v9_35 v9_36 v9_54 g9_4 g9_5 g9_33 g9_34 v9_48 v9_55 g9_43 g9_44 g9_45 g9_46 g9_47 g9_53 (7, 0, 0, l3, l4, l5, l6, 0, 0, g9_57)) else (f_X9_comes_L v9_16 v9_17 v9_35 v9_36 v9_54 g9_4 g9_5 g9_33 g9_34 v9_48 v9_55 g9_43 g9_44 g9_45 g9_46 g9_47 g9_53 (8, 0, 0, l3, l4, l5, l6, 0, 0, g9_57)) else none else none else (f_X9_comes_L v9_16 v9_17 v9_35 v9_36 v9_54 g9_4 g9_5 g9_33 g9_34 v9_48 v9_55 g9_43 g9_44 g9_45 g9_46 g9_47 g9_53 (7, 0, 0, l3, l4, l5, l6, 0, 0, g9_57)) else none else if q = 6 then if l7 = (7 : Int32) then if l6 = (0 : Int32) then (f_X9_comes_L v9_16 v9_17 v9_35 v9_36 v9_54 g9_4 g9_5 g9_33 g9_34 v9_48 v9_55 g9_43 g9_44 g9_45 g9_46 g9_47 g9_53 (8, 0, 0, l3, l4, l5, l6, 0, 0, g9_57)) else if x_gd ((l4 + l6) - (1 : Int32)) 60600 = true then if (g9_57 (Int32.toNatClampNeg ((l4 + l6) - (1 : Int32)))) = (3 : Int32) then (f_X9_comes_L v9_16 v9_17 v9_35 v9_36 v9_54 g9_4 g9_5 g9_33 g9_34 v9_48 v9_55 g9_43 g9_44 g9_45 g9_46 g9_47 g9_53 (7, 0, 0, l3, l4, l5, l6, 0, 1, g9_57)) else if x_gd ((l4 + l6) - (1 : Int32)) 60600 = true then if (g9_57 (Int32.toNatClampNeg ((l4 + l6) - (1 : Int32)))) = (4 : Int32) then (f_X9_comes_L v9_16 v9_17 v9_35 v9_36 v9_54 g9_4 g9_5 g9_33 g9_34 v9_48 v9_55 g9_43 g9_44 g9_45 g9_46 g9_47 g9_53 (7, 0, 0, l3, l4, l5, l6, 0, 1, g9_57)) else (f_X9_comes_L v9_16 v9_17 v9_35 v9_36 v9_54 g9_4 g9_5 g9_33 g9_34 v9_48 v9_55 g9_43 g9_44 g9_45 g9_46 g9_47 g9_53 (8, 0, 0, l3, l4, l5, l6, 0, 0, g9_57)) else none else none else (f_X9_comes_L v9_16 v9_17 v9_35 v9_36 v9_54 g9_4 g9_5 g9_33 g9_34 v9_48 v9_55 g9_43 g9_44 g9_45 g9_46 g9_47 g9_53 (7, 0, 0, l3, l4, l5, l6, 0, 1, g9_57)) else if q = 7 then if l8 = (0 : Int32) then (f_X9_comes_L v9_16 v9_17 v9_35 v9_36 v9_54 g9_4 g9_5 g9_33 g9_34 v9_48 v9_55 g9_43 g9_44 g9_45 g9_46 g9_47 g9_53 (9, 0, 0, l3, l4, l5, l6, 0, 0, g9_57)) else if x_gd ((l4 + l6) + (1 : Int32)) 60600 = true then if (g9_57 (Int32.toNatClampNeg ((l4 + l6) + (1 : Int32)))) = (7 : Int32) then (f_X9_comes_L v9_16 v9_17 v9_35 v9_36 v9_54 g9_4 g9_5 g9_33 g9_34 v9_48 v9_55 g9_43 g9_44 g9_45 g9_46 g9_47 g9_53 (9, 0, 0, l3, l4, l5, l6, 0, 0, g9_57)) else (f_X9_comes_L v9_16 v9_17 v9_35 v9_36 v9_54 g9_4 g9_5 g9_33 g9_34 v9_48 v9_55 g9_43 g9_44 g9_45 g9_46 g9_47 g9_53 (8, 0, 0, l3, l4, l5, l6, 0, 0, g9_57)) else none else if q = 8 then if x_gd (l4 + l6) 60600 = true then (f_X9_comes_L v9_16 v9_17 v9_35 v9_36 v9_54 g9_4 g9_5 g9_33 g9_34 v9_48 v9_55 g9_43 g9_44 g9_45 g9_46 g9_47 g9_53 (9, 0, 0, l3, l4, l5, l6, 0, 0, upd g9_57 (Int32.toNatClampNeg (l4 + l6)) 0)) else none else if q = 9 then (f_X9_comes_L v9_16 v9_17 v9_35 v9_36 v9_54 g9_4 g9_5 g9_33 g9_34 v9_48 v9_55 g9_43 g9_44 g9_45 g9_46 g9_47 g9_53 (5, 0, 0, l3, l4, l5, l6 + 1, 0, 0, g9_57)) else if q = 10 then if v9_35 ≤ l6 then if v9_36 = (0 : Int32) then if x_gd (((l4 + v9_16) + v9_17) + (1 : Int32)) 60600 = true then if (g9_57 (Int32.toNatClampNeg (((l4 + v9_16) + v9_17) + (1 : Int32)))) = (1 : Int32) then if x_gd (((l4 + v9_16) + v9_17) + (1 : Int32)) 60600 = true then (f_X9_comes_L v9_16 v9_17 v9_35 v9_36 v9_54 g9_4 g9_5 g9_33 g9_34 v9_48 v9_55 g9_43 g9_44 g9_45 g9_46 g9_47 g9_53 (12, 0, 0, l3, 0, 1, 0, 0, 0, upd g9_57 (Int32.toNatClampNeg (((l4 + v9_16) + v9_17) + (1 : Int32))) 0)) else none else (f_X9_comes_L v9_16 v9_17 v9_35 v9_36 v9_54 g9_4 g9_5 g9_33 g9_34 v9_48 v9_55 g9_43 g9_44 g9_45 g9_46 g9_47 g9_53 (12, 0, 0, l3, 0, l5, 0, 0, 0, g9_57)) else none else (f_X9_comes_L v9_16 v9_17 v9_35 v9_36 v9_54 g9_4 g9_5 g9_33 g9_34 v9_48 v9_55 g9_43 g9_44 g9_45 g9_46 g9_47 g9_53 (12, 0, 0, l3, 0, l5, 0, 0, 0, g9_57)) else if x_gd ((l4 + v9_16) + l6) 60600 = true then if x_gd l6 202 = true then (f_X9_joined g9_4 g9_5 (g9_57 (Int32.toNatClampNeg ((l4 + v9_16) + l6))) (g9_34 (Int32.toNatClampNeg l6))) >>= (fun r_54 => if (0 : Int32) ≤ r_54 then if x_gd ((l4 + v9_16) + l6) 60600 = true then if r_54 = (g9_57 (Int32.toNatClampNeg ((l4 + v9_16) + l6))) then (f_X9_comes_L v9_16 v9_17 v9_35 v9_36 v9_54 g9_4 g9_5 g9_33 g9_34 v9_48 v9_55 g9_43 g9_44 g9_45 g9_46 g9_47 g9_53 (11, 0, 0, l3, l4, l5, l6, 0, 0, g9_57)) else if x_gd ((l4 + v9_16) + l6) 60600 = true then (f_X9_comes_L v9_16 v9_17 v9_35 v9_36 v9_54 g9_4 g9_5 g9_33 g9_34 v9_48 v9_55 g9_43 g9_44 g9_45 g9_46 g9_47 g9_53 (11, 0, 0, l3, l4, 1, l6, 0, 0, upd g9_57 (Int32.toNatClampNeg ((l4 + v9_16) + l6)) r_54)) else none else none else some (0, v9_48, v9_55, g9_43, g9_44, g9_45, g9_46, g9_47, g9_53, g9_57)) else none else none else if q = 11 then (f_X9_comes_L v9_16 v9_17 v9_35 v9_36 v9_54 g9_4 g9_5 g9_33 g9_34 v9_48 v9_55 g9_43 g9_44 g9_45 g9_46 g9_47 g9_53 (10, 0, 0, l3, l4, l5, l6 + 1, 0, 0, g9_57)) else if q = 12 then if l5 = (0 : Int32) then some (1, v9_48, v9_55, g9_43, g9_44, g9_45, g9_46, g9_47, g9_53, g9_57) else (f_X9_waits v9_54 v9_55 g9_47 g9_53 l3) >>= (fun r_60 => some (1, v9_48, r_60.1, g9_43, g9_44, g9_45, g9_46, r_60.2.1, r_60.2.2, g9_57)) else none
partial_fixpoint
def f_X9_comes (v9_16 : Int32) (v9_17 : Int32) (v9_35 : Int32) (v9_36 : Int32) (v9_48 : Int32) (v9_54 : Int32) (v9_55 : Int32) (g9_4 : Nat → Int32) (g9_5 : Nat → Int32) (g9_33 : Nat → Int32) (g9_34 : Nat → Int32) (g9_43 : Nat → Int32) (g9_44 : Nat → Int32) (g9_45 : Nat → Int32) (g9_46 : Nat → Int32) (g9_47 : Nat → Int32) (g9_53 : Nat → Int32) (g9_57 : Nat → Int32) (p1 : Int32) (p2 : Int32) : Option (Int32 × Int32 × Int32 × (Nat → Int32) × (Nat → Int32) × (Nat → Int32) × (Nat → Int32) × (Nat → Int32) × (Nat → Int32) × (Nat → Int32)) := if x_gd p1 1001 = true then (f_X9_comes_L v9_16 v9_17 v9_35 v9_36 v9_54 g9_4 g9_5 g9_33 g9_34 v9_48 v9_55 g9_43 g9_44 g9_45 g9_46 g9_47 g9_53 (0, p1, p2, g9_46 (Int32.toNatClampNeg p1), 0, 0, 0, 0, 0, g9_57)) else none
theorem i_X9_comes_X9 : ∀ w ∈ wsX90, w ∈ wsX9_comes := fun _ h => List.mem_cons_of_mem _ (List.mem_append_right _ h)
set_option maxHeartbeats 4000000 in
set_option maxRecDepth 100000 in
theorem c_X9_comes (l : Launch) (dC : Nat → ClassId) (dI : Nat → Nat → Nat) (cyI cyZ cyJ : ClassId) (sz : Nat) (o9 : Nat) (v9_0 : Int32) (v9_1 : Int32) (v9_2 : Int32) (v9_3 : Int32) (a9_4 : Nat) (a9_5 : Nat) (a9_6 : Nat) (a9_7 : Nat) (a9_8 : Nat) (a9_9 : Nat) (a9_10 : Nat) (a9_11 : Nat) (a9_12 : Nat) (v9_13 : Int32) (v9_14 : Int32) (v9_15 : Int32) (v9_16 : Int32) (v9_17 : Int32) (v9_18 : Int32) (a9_19 : Nat) (v9_20 : Int32) (v9_21 : Int32) (v9_22 : Int32) (a9_23 : Nat) (a9_24 : Nat) (a9_25 : Nat) (a9_26 : Nat) (a9_27 : Nat) (a9_28 : Nat) (a9_29 : Nat) (a9_30 : Nat) (a9_31 : Nat) (a9_32 : Nat) (a9_33 : Nat) (a9_34 : Nat) (v9_35 : Int32) (v9_36 : Int32) (a9_37 : Nat) (a9_38 : Nat) (a9_39 : Nat) (a9_40 : Nat) (a9_41 : Nat) (v9_42 : Int32) (a9_43 : Nat) (a9_44 : Nat) (a9_45 : Nat) (a9_46 : Nat) (a9_47 : Nat) (v9_48 : Int32) (v9_49 : Int32) (v9_50 : Int32) (v9_51 : Int32) (a9_52 : Nat) (a9_53 : Nat) (v9_54 : Int32) (v9_55 : Int32) (a9_56 : Nat) (a9_57 : Nat) (v9_58 : Int32) (a9_59 : Nat) (a9_60 : Nat) (a9_61 : Nat) (g9_4 : Nat → Int32) (g9_5 : Nat → Int32) (g9_33 : Nat → Int32) (g9_34 : Nat → Int32) (g9_43 : Nat → Int32) (g9_44 : Nat → Int32) (g9_45 : Nat → Int32) (g9_46 : Nat → Int32) (g9_47 : Nat → Int32) (g9_53 : Nat → Int32) (g9_57 : Nat → Int32) (p1 : Int32) (p2 : Int32) (R : Int32 × Int32 × Int32 × (Nat → Int32) × (Nat → Int32) × (Nat → Int32) × (Nat → Int32) × (Nat → Int32) × (Nat → Int32) × (Nat → Int32)) (hf : f_X9_comes v9_16 v9_17 v9_35 v9_36 v9_48 v9_54 v9_55 g9_4 g9_5 g9_33 g9_34 g9_43 g9_44 g9_45 g9_46 g9_47 g9_53 g9_57 p1 p2 = some R) : Met l yX9_comes wsX9_comes ({ frames := 4, cells := 0, slots := 0, locals := 99 }) (va_Pc [.ref o9, .int p1, .int p2] (x_PreD (dC, dI) (x_T cyI cyZ cyJ) [(o9, .inr (9, x_O9 v9_0 v9_1 v9_2 v9_3 a9_4 a9_5 a9_6 a9_7 a9_8 a9_9 a9_10 a9_11 a9_12 v9_13 v9_14 v9_15 v9_16 v9_17 v9_18 a9_19 v9_20 v9_21 v9_22 a9_23 a9_24 a9_25 a9_26 a9_27 a9_28 a9_29 a9_30 a9_31 a9_32 a9_33 a9_34 v9_35 v9_36 a9_37 a9_38 a9_39 a9_40 a9_41 v9_42 a9_43 a9_44 a9_45 a9_46 a9_47 v9_48 v9_49 v9_50 v9_51 a9_52 a9_53 v9_54 v9_55 a9_56 a9_57 v9_58 a9_59 a9_60 a9_61)), (a9_4, .inl (cyI, 200, .inl g9_4)), (a9_5, .inl (cyZ, 200, .inl g9_5)), (a9_33, .inl (cyI, 202, .inl g9_33)), (a9_34, .inl (cyI, 202, .inl g9_34)), (a9_43, .inl (cyI, 20010, .inl g9_43)), (a9_44, .inl (cyI, 20010, .inl g9_44)), (a9_45, .inl (cyI, 20010, .inl g9_45)), (a9_46, .inl (cyI, 1001, .inl g9_46)), (a9_47, .inl (cyZ, 20010, .inl g9_47)), (a9_53, .inl (cyI, 20010, .inl g9_53)), (a9_57, .inl (cyI, 60600, .inl g9_57))] sz)) (va_Qi (fun (r : Int32) (_ : Unit) => r = R.1 ∧ x_nb r) (fun (_ : Unit) (t : State) => va_P (dC, dI) vwCl [(o9, .inr (9, x_O9 v9_0 v9_1 v9_2 v9_3 a9_4 a9_5 a9_6 a9_7 a9_8 a9_9 a9_10 a9_11 a9_12 v9_13 v9_14 v9_15 v9_16 v9_17 v9_18 a9_19 v9_20 v9_21 v9_22 a9_23 a9_24 a9_25 a9_26 a9_27 a9_28 a9_29 a9_30 a9_31 a9_32 a9_33 a9_34 v9_35 v9_36 a9_37 a9_38 a9_39 a9_40 a9_41 v9_42 a9_43 a9_44 a9_45 a9_46 a9_47 (R.2.1) v9_49 v9_50 v9_51 a9_52 a9_53 v9_54 (R.2.2.1) a9_56 a9_57 v9_58 a9_59 a9_60 a9_61)), (a9_4, .inl (cyI, 200, .inl g9_4)), (a9_5, .inl (cyZ, 200, .inl g9_5)), (a9_33, .inl (cyI, 202, .inl g9_33)), (a9_34, .inl (cyI, 202, .inl g9_34)), (a9_43, .inl (cyI, 20010, .inl R.2.2.2.1)), (a9_44, .inl (cyI, 20010, .inl R.2.2.2.2.1)), (a9_45, .inl (cyI, 20010, .inl R.2.2.2.2.2.1)), (a9_46, .inl (cyI, 1001, .inl R.2.2.2.2.2.2.1)), (a9_47, .inl (cyZ, 20010, .inl R.2.2.2.2.2.2.2.1)), (a9_53, .inl (cyI, 20010, .inl R.2.2.2.2.2.2.2.2.1)), (a9_57, .inl (cyI, 60600, .inl R.2.2.2.2.2.2.2.2.2))] t.heap ∧ va_K (dC, dI) vwCl (x_T cyI cyZ cyJ) t ∧ va_D (va_A [(o9, .inr (9, x_O9 v9_0 v9_1 v9_2 v9_3 a9_4 a9_5 a9_6 a9_7 a9_8 a9_9 a9_10 a9_11 a9_12 v9_13 v9_14 v9_15 v9_16 v9_17 v9_18 a9_19 v9_20 v9_21 v9_22 a9_23 a9_24 a9_25 a9_26 a9_27 a9_28 a9_29 a9_30 a9_31 a9_32 a9_33 a9_34 v9_35 v9_36 a9_37 a9_38 a9_39 a9_40 a9_41 v9_42 a9_43 a9_44 a9_45 a9_46 a9_47 v9_48 v9_49 v9_50 v9_51 a9_52 a9_53 v9_54 v9_55 a9_56 a9_57 v9_58 a9_59 a9_60 a9_61)), (a9_4, .inl (cyI, 200, .inl g9_4)), (a9_5, .inl (cyZ, 200, .inl g9_5)), (a9_33, .inl (cyI, 202, .inl g9_33)), (a9_34, .inl (cyI, 202, .inl g9_34)), (a9_43, .inl (cyI, 20010, .inl g9_43)), (a9_44, .inl (cyI, 20010, .inl g9_44)), (a9_45, .inl (cyI, 20010, .inl g9_45)), (a9_46, .inl (cyI, 1001, .inl g9_46)), (a9_47, .inl (cyZ, 20010, .inl g9_47)), (a9_53, .inl (cyI, 20010, .inl g9_53)), (a9_57, .inl (cyI, 60600, .inl g9_57))] sz) [(o9, .inr (9, x_O9 v9_0 v9_1 v9_2 v9_3 a9_4 a9_5 a9_6 a9_7 a9_8 a9_9 a9_10 a9_11 a9_12 v9_13 v9_14 v9_15 v9_16 v9_17 v9_18 a9_19 v9_20 v9_21 v9_22 a9_23 a9_24 a9_25 a9_26 a9_27 a9_28 a9_29 a9_30 a9_31 a9_32 a9_33 a9_34 v9_35 v9_36 a9_37 a9_38 a9_39 a9_40 a9_41 v9_42 a9_43 a9_44 a9_45 a9_46 a9_47 (R.2.1) v9_49 v9_50 v9_51 a9_52 a9_53 v9_54 (R.2.2.1) a9_56 a9_57 v9_58 a9_59 a9_60 a9_61)), (a9_4, .inl (cyI, 200, .inl g9_4)), (a9_5, .inl (cyZ, 200, .inl g9_5)), (a9_33, .inl (cyI, 202, .inl g9_33)), (a9_34, .inl (cyI, 202, .inl g9_34)), (a9_43, .inl (cyI, 20010, .inl R.2.2.2.1)), (a9_44, .inl (cyI, 20010, .inl R.2.2.2.2.1)), (a9_45, .inl (cyI, 20010, .inl R.2.2.2.2.2.1)), (a9_46, .inl (cyI, 1001, .inl R.2.2.2.2.2.2.1)), (a9_47, .inl (cyZ, 20010, .inl R.2.2.2.2.2.2.2.1)), (a9_53, .inl (cyI, 20010, .inl R.2.2.2.2.2.2.2.2.1)), (a9_57, .inl (cyI, 60600, .inl R.2.2.2.2.2.2.2.2.2))]) (va_A [(o9, .inr (9, x_O9 v9_0 v9_1 v9_2 v9_3 a9_4 a9_5 a9_6 a9_7 a9_8 a9_9 a9_10 a9_11 a9_12 v9_13 v9_14 v9_15 v9_16 v9_17 v9_18 a9_19 v9_20 v9_21 v9_22 a9_23 a9_24 a9_25 a9_26 a9_27 a9_28 a9_29 a9_30 a9_31 a9_32 a9_33 a9_34 v9_35 v9_36 a9_37 a9_38 a9_39 a9_40 a9_41 v9_42 a9_43 a9_44 a9_45 a9_46 a9_47 v9_48 v9_49 v9_50 v9_51 a9_52 a9_53 v9_54 v9_55 a9_56 a9_57 v9_58 a9_59 a9_60 a9_61)), (a9_4, .inl (cyI, 200, .inl g9_4)), (a9_5, .inl (cyZ, 200, .inl g9_5)), (a9_33, .inl (cyI, 202, .inl g9_33)), (a9_34, .inl (cyI, 202, .inl g9_34)), (a9_43, .inl (cyI, 20010, .inl g9_43)), (a9_44, .inl (cyI, 20010, .inl g9_44)), (a9_45, .inl (cyI, 20010, .inl g9_45)), (a9_46, .inl (cyI, 1001, .inl g9_46)), (a9_47, .inl (cyZ, 20010, .inl g9_47)), (a9_53, .inl (cyI, 20010, .inl g9_53)), (a9_57, .inl (cyI, 60600, .inl g9_57))] sz)) 0 0 (va_A [(o9, .inr (9, x_O9 v9_0 v9_1 v9_2 v9_3 a9_4 a9_5 a9_6 a9_7 a9_8 a9_9 a9_10 a9_11 a9_12 v9_13 v9_14 v9_15 v9_16 v9_17 v9_18 a9_19 v9_20 v9_21 v9_22 a9_23 a9_24 a9_25 a9_26 a9_27 a9_28 a9_29 a9_30 a9_31 a9_32 a9_33 a9_34 v9_35 v9_36 a9_37 a9_38 a9_39 a9_40 a9_41 v9_42 a9_43 a9_44 a9_45 a9_46 a9_47 v9_48 v9_49 v9_50 v9_51 a9_52 a9_53 v9_54 v9_55 a9_56 a9_57 v9_58 a9_59 a9_60 a9_61)), (a9_4, .inl (cyI, 200, .inl g9_4)), (a9_5, .inl (cyZ, 200, .inl g9_5)), (a9_33, .inl (cyI, 202, .inl g9_33)), (a9_34, .inl (cyI, 202, .inl g9_34)), (a9_43, .inl (cyI, 20010, .inl g9_43)), (a9_44, .inl (cyI, 20010, .inl g9_44)), (a9_45, .inl (cyI, 20010, .inl g9_45)), (a9_46, .inl (cyI, 1001, .inl g9_46)), (a9_47, .inl (cyZ, 20010, .inl g9_47)), (a9_53, .inl (cyI, 20010, .inl g9_53)), (a9_57, .inl (cyI, 60600, .inl g9_57))] sz) := by
  refine Met.ofW (cc := cX9_comes) (maxL := 9) (ret := (some .boolean)) (by decide) rfl ?_
  intro p e s m args below meth c s₁ B hml hv
  obtain ⟨rfl, ⟨hsz, hP, hK, hN⟩, hD0⟩ := hv
  have hx := B.exec
  have hb := B.bytes
  have hr := B.returns
  have hts := atoms_spec (ws := wsX9_comes) B.pre
  have hown : s.vm.findClass RX9 = some m.cls := findClass_of_methodNamed B.named
  have k_1 := hts (.fieldLink RX9 106 "FlowJudgeModel" "sContext" "[I") (by decide +kernel)
  have k_2 := hts (.fieldLink RX9 109 "FlowJudgeModel" "sNext" "[I") (by decide +kernel)
  have k_3 := hts (.fieldLink RX9 128 "FlowJudgeModel" "frames" "[I") (by decide +kernel)
  have k_4 := hts (.fieldLink RX9 170 "FlowJudgeModel" "maxL" "I") (by decide +kernel)
  have k_5 := hts (.fieldLink RX9 173 "FlowJudgeModel" "maxS" "I") (by decide +kernel)
  have k_6 := hts (.fieldLink RX9 215 "FlowJudgeModel" "h" "I") (by decide +kernel)
  have k_7 := hts (.fieldLink RX9 238 "FlowJudgeModel" "states" "I") (by decide +kernel)
  have k_8 := hts (.fieldLink RX9 103 "FlowJudgeModel" "sAt" "[I") (by decide +kernel)
  have k_9 := hts (.fieldLink RX9 112 "FlowJudgeModel" "sHead" "[I") (by decide +kernel)
  have k_10 := hts (.fieldLink RX9 115 "FlowJudgeModel" "sWaits" "[Z") (by decide +kernel)
  have k_11 := hts (.fieldLink RX9 82 "FlowJudgeModel" "l" "[I") (by decide +kernel)
  have k_12 := hts (.fieldLink RX9 231 "FlowJudgeModel" "made" "Z") (by decide +kernel)
  have k_13 := hts (.fieldLink RX9 85 "FlowJudgeModel" "st" "[I") (by decide +kernel)
  subst hsz
  have hD := hD0.self (sz := s.heap.size)
  generalize hAe : va_A [(o9, .inr (9, x_O9 v9_0 v9_1 v9_2 v9_3 a9_4 a9_5 a9_6 a9_7 a9_8 a9_9 a9_10 a9_11 a9_12 v9_13 v9_14 v9_15 v9_16 v9_17 v9_18 a9_19 v9_20 v9_21 v9_22 a9_23 a9_24 a9_25 a9_26 a9_27 a9_28 a9_29 a9_30 a9_31 a9_32 a9_33 a9_34 v9_35 v9_36 a9_37 a9_38 a9_39 a9_40 a9_41 v9_42 a9_43 a9_44 a9_45 a9_46 a9_47 v9_48 v9_49 v9_50 v9_51 a9_52 a9_53 v9_54 v9_55 a9_56 a9_57 v9_58 a9_59 a9_60 a9_61)), (a9_4, .inl (cyI, 200, .inl g9_4)), (a9_5, .inl (cyZ, 200, .inl g9_5)), (a9_33, .inl (cyI, 202, .inl g9_33)), (a9_34, .inl (cyI, 202, .inl g9_34)), (a9_43, .inl (cyI, 20010, .inl g9_43)), (a9_44, .inl (cyI, 20010, .inl g9_44)), (a9_45, .inl (cyI, 20010, .inl g9_45)), (a9_46, .inl (cyI, 1001, .inl g9_46)), (a9_47, .inl (cyZ, 20010, .inl g9_47)), (a9_53, .inl (cyI, 20010, .inl g9_53)), (a9_57, .inl (cyI, 60600, .inl g9_57))] s.heap.size = A at hD ⊢
  have hA : ∀ q : Nat, s.heap.size ≤ q → A q := fun q h => by rw [← hAe]; exact Or.inr h
  have hP : va_P (dC, dI) vwCl [(o9, .inr (9, x_O9 v9_0 v9_1 v9_2 v9_3 a9_4 a9_5 a9_6 a9_7 a9_8 a9_9 a9_10 a9_11 a9_12 v9_13 v9_14 v9_15 v9_16 v9_17 v9_18 a9_19 v9_20 v9_21 v9_22 a9_23 a9_24 a9_25 a9_26 a9_27 a9_28 a9_29 a9_30 a9_31 a9_32 a9_33 a9_34 v9_35 v9_36 a9_37 a9_38 a9_39 a9_40 a9_41 v9_42 a9_43 a9_44 a9_45 a9_46 a9_47 v9_48 v9_49 v9_50 v9_51 a9_52 a9_53 v9_54 v9_55 a9_56 a9_57 v9_58 a9_59 a9_60 a9_61)), (a9_4, .inl (cyI, 200, .inl g9_4)), (a9_5, .inl (cyZ, 200, .inl g9_5)), (a9_33, .inl (cyI, 202, .inl g9_33)), (a9_34, .inl (cyI, 202, .inl g9_34)), (a9_43, .inl (cyI, 20010, .inl g9_43)), (a9_44, .inl (cyI, 20010, .inl g9_44)), (a9_45, .inl (cyI, 20010, .inl g9_45)), (a9_46, .inl (cyI, 1001, .inl g9_46)), (a9_47, .inl (cyZ, 20010, .inl g9_47)), (a9_53, .inl (cyI, 20010, .inl g9_53)), (a9_57, .inl (cyI, 60600, .inl g9_57))] s.heap := hP
  have hl := lv_entry ([.ref o9, .int p1, .int p2]) (n := 9) (Nat.le_of_ble_eq_true rfl)
  rw [lg_entry_eq]
  generalize (lg_sl ([.ref o9, .int p1, .int p2]) ++ List.replicate (9 - (lg_sl ([.ref o9, .int p1, .int p2])).length) Slot.unset).toArray = ls at hl ⊢
  have hl : lv_has ls 9 [(0, .ref o9), (1, .int p1), (2, .int p2)] := hl
  obtain ⟨H, hH⟩ : ∃ z, z = s.heap := ⟨_, rfl⟩
  refine x_here hH ?_
  have hP : va_P (dC, dI) vwCl [(o9, .inr (9, x_O9 v9_0 v9_1 v9_2 v9_3 a9_4 a9_5 a9_6 a9_7 a9_8 a9_9 a9_10 a9_11 a9_12 v9_13 v9_14 v9_15 v9_16 v9_17 v9_18 a9_19 v9_20 v9_21 v9_22 a9_23 a9_24 a9_25 a9_26 a9_27 a9_28 a9_29 a9_30 a9_31 a9_32 a9_33 a9_34 v9_35 v9_36 a9_37 a9_38 a9_39 a9_40 a9_41 v9_42 a9_43 a9_44 a9_45 a9_46 a9_47 v9_48 v9_49 v9_50 v9_51 a9_52 a9_53 v9_54 v9_55 a9_56 a9_57 v9_58 a9_59 a9_60 a9_61)), (a9_4, .inl (cyI, 200, .inl g9_4)), (a9_5, .inl (cyZ, 200, .inl g9_5)), (a9_33, .inl (cyI, 202, .inl g9_33)), (a9_34, .inl (cyI, 202, .inl g9_34)), (a9_43, .inl (cyI, 20010, .inl g9_43)), (a9_44, .inl (cyI, 20010, .inl g9_44)), (a9_45, .inl (cyI, 20010, .inl g9_45)), (a9_46, .inl (cyI, 1001, .inl g9_46)), (a9_47, .inl (cyZ, 20010, .inl g9_47)), (a9_53, .inl (cyI, 20010, .inl g9_53)), (a9_57, .inl (cyI, 60600, .inl g9_57))] H := by rw [hH]; exact hP
  have hS : va_S A s.heap H [] := by rw [hH]; exact va_S.rf
  clear hH
  obtain ⟨locs, hlo⟩ : ∃ z : List Loc, z = [] := ⟨_, rfl⟩
  refine x_herl hlo ?_
  have hS : va_S A s.heap H locs := by rw [hlo]; exact hS
  clear hlo
  unfold f_X9_comes at hf
  refine x_wn (fun WW hWW => ?_)
  have J := fun (v9_48 : Int32) (v9_55 : Int32) (g9_43 : Nat → Int32) (g9_44 : Nat → Int32) (g9_45 : Nat → Int32) (g9_46 : Nat → Int32) (g9_47 : Nat → Int32) (g9_53 : Nat → Int32) => f_X9_comes_L.partial_correctness v9_16 v9_17 v9_35 v9_36 v9_54 g9_4 g9_5 g9_33 g9_34 v9_48 v9_55 g9_43 g9_44 g9_45 g9_46 g9_47 g9_53 (fun (z : Nat × Int32 × Int32 × Int32 × Int32 × Int32 × Int32 × Int32 × Int32 × (Nat → Int32)) (r : Int32 × Int32 × Int32 × (Nat → Int32) × (Nat → Int32) × (Nat → Int32) × (Nat → Int32) × (Nat → Int32) × (Nat → Int32) × (Nat → Int32)) => r = R → ∀ (q : Nat) (l1 : Int32) (l2 : Int32) (l3 : Int32) (l4 : Int32) (l5 : Int32) (l6 : Int32) (l7 : Int32) (l8 : Int32) (g9_57 : Nat → Int32), z = (q, l1, l2, l3, l4, l5, l6, l7, l8, g9_57) → ((q = 0 → ∀ (H : Heap) (locs : List Loc) (ls : Array Slot), va_P (dC, dI) vwCl [(o9, .inr (9, x_O9 v9_0 v9_1 v9_2 v9_3 a9_4 a9_5 a9_6 a9_7 a9_8 a9_9 a9_10 a9_11 a9_12 v9_13 v9_14 v9_15 v9_16 v9_17 v9_18 a9_19 v9_20 v9_21 v9_22 a9_23 a9_24 a9_25 a9_26 a9_27 a9_28 a9_29 a9_30 a9_31 a9_32 a9_33 a9_34 v9_35 v9_36 a9_37 a9_38 a9_39 a9_40 a9_41 v9_42 a9_43 a9_44 a9_45 a9_46 a9_47 v9_48 v9_49 v9_50 v9_51 a9_52 a9_53 v9_54 v9_55 a9_56 a9_57 v9_58 a9_59 a9_60 a9_61)), (a9_4, .inl (cyI, 200, .inl g9_4)), (a9_5, .inl (cyZ, 200, .inl g9_5)), (a9_33, .inl (cyI, 202, .inl g9_33)), (a9_34, .inl (cyI, 202, .inl g9_34)), (a9_43, .inl (cyI, 20010, .inl g9_43)), (a9_44, .inl (cyI, 20010, .inl g9_44)), (a9_45, .inl (cyI, 20010, .inl g9_45)), (a9_46, .inl (cyI, 1001, .inl g9_46)), (a9_47, .inl (cyZ, 20010, .inl g9_47)), (a9_53, .inl (cyI, 20010, .inl g9_53)), (a9_57, .inl (cyI, 60600, .inl g9_57))] H → va_D A [(o9, .inr (9, x_O9 v9_0 v9_1 v9_2 v9_3 a9_4 a9_5 a9_6 a9_7 a9_8 a9_9 a9_10 a9_11 a9_12 v9_13 v9_14 v9_15 v9_16 v9_17 v9_18 a9_19 v9_20 v9_21 v9_22 a9_23 a9_24 a9_25 a9_26 a9_27 a9_28 a9_29 a9_30 a9_31 a9_32 a9_33 a9_34 v9_35 v9_36 a9_37 a9_38 a9_39 a9_40 a9_41 v9_42 a9_43 a9_44 a9_45 a9_46 a9_47 v9_48 v9_49 v9_50 v9_51 a9_52 a9_53 v9_54 v9_55 a9_56 a9_57 v9_58 a9_59 a9_60 a9_61)), (a9_4, .inl (cyI, 200, .inl g9_4)), (a9_5, .inl (cyZ, 200, .inl g9_5)), (a9_33, .inl (cyI, 202, .inl g9_33)), (a9_34, .inl (cyI, 202, .inl g9_34)), (a9_43, .inl (cyI, 20010, .inl g9_43)), (a9_44, .inl (cyI, 20010, .inl g9_44)), (a9_45, .inl (cyI, 20010, .inl g9_45)), (a9_46, .inl (cyI, 1001, .inl g9_46)), (a9_47, .inl (cyZ, 20010, .inl g9_47)), (a9_53, .inl (cyI, 20010, .inl g9_53)), (a9_57, .inl (cyI, 60600, .inl g9_57))] → va_S A s.heap H locs → lv_has ls 9 [(0, .ref o9), (1, .int l1), (2, .int l2), (3, .int l3)] → WW H locs 0 0 (F0 m 7 ls [])) ∧ (q = 1 → ∀ (H : Heap) (locs : List Loc) (ls : Array Slot), va_P (dC, dI) vwCl [(o9, .inr (9, x_O9 v9_0 v9_1 v9_2 v9_3 a9_4 a9_5 a9_6 a9_7 a9_8 a9_9 a9_10 a9_11 a9_12 v9_13 v9_14 v9_15 v9_16 v9_17 v9_18 a9_19 v9_20 v9_21 v9_22 a9_23 a9_24 a9_25 a9_26 a9_27 a9_28 a9_29 a9_30 a9_31 a9_32 a9_33 a9_34 v9_35 v9_36 a9_37 a9_38 a9_39 a9_40 a9_41 v9_42 a9_43 a9_44 a9_45 a9_46 a9_47 v9_48 v9_49 v9_50 v9_51 a9_52 a9_53 v9_54 v9_55 a9_56 a9_57 v9_58 a9_59 a9_60 a9_61)), (a9_4, .inl (cyI, 200, .inl g9_4)), (a9_5, .inl (cyZ, 200, .inl g9_5)), (a9_33, .inl (cyI, 202, .inl g9_33)), (a9_34, .inl (cyI, 202, .inl g9_34)), (a9_43, .inl (cyI, 20010, .inl g9_43)), (a9_44, .inl (cyI, 20010, .inl g9_44)), (a9_45, .inl (cyI, 20010, .inl g9_45)), (a9_46, .inl (cyI, 1001, .inl g9_46)), (a9_47, .inl (cyZ, 20010, .inl g9_47)), (a9_53, .inl (cyI, 20010, .inl g9_53)), (a9_57, .inl (cyI, 60600, .inl g9_57))] H → va_D A [(o9, .inr (9, x_O9 v9_0 v9_1 v9_2 v9_3 a9_4 a9_5 a9_6 a9_7 a9_8 a9_9 a9_10 a9_11 a9_12 v9_13 v9_14 v9_15 v9_16 v9_17 v9_18 a9_19 v9_20 v9_21 v9_22 a9_23 a9_24 a9_25 a9_26 a9_27 a9_28 a9_29 a9_30 a9_31 a9_32 a9_33 a9_34 v9_35 v9_36 a9_37 a9_38 a9_39 a9_40 a9_41 v9_42 a9_43 a9_44 a9_45 a9_46 a9_47 v9_48 v9_49 v9_50 v9_51 a9_52 a9_53 v9_54 v9_55 a9_56 a9_57 v9_58 a9_59 a9_60 a9_61)), (a9_4, .inl (cyI, 200, .inl g9_4)), (a9_5, .inl (cyZ, 200, .inl g9_5)), (a9_33, .inl (cyI, 202, .inl g9_33)), (a9_34, .inl (cyI, 202, .inl g9_34)), (a9_43, .inl (cyI, 20010, .inl g9_43)), (a9_44, .inl (cyI, 20010, .inl g9_44)), (a9_45, .inl (cyI, 20010, .inl g9_45)), (a9_46, .inl (cyI, 1001, .inl g9_46)), (a9_47, .inl (cyZ, 20010, .inl g9_47)), (a9_53, .inl (cyI, 20010, .inl g9_53)), (a9_57, .inl (cyI, 60600, .inl g9_57))] → va_S A s.heap H locs → lv_has ls 9 [(0, .ref o9), (1, .int l1), (2, .int l2), (3, .int l3)] → WW H locs 0 0 (F0 m 31 ls [])) ∧ (q = 2 → ∀ (H : Heap) (locs : List Loc) (ls : Array Slot), va_P (dC, dI) vwCl [(o9, .inr (9, x_O9 v9_0 v9_1 v9_2 v9_3 a9_4 a9_5 a9_6 a9_7 a9_8 a9_9 a9_10 a9_11 a9_12 v9_13 v9_14 v9_15 v9_16 v9_17 v9_18 a9_19 v9_20 v9_21 v9_22 a9_23 a9_24 a9_25 a9_26 a9_27 a9_28 a9_29 a9_30 a9_31 a9_32 a9_33 a9_34 v9_35 v9_36 a9_37 a9_38 a9_39 a9_40 a9_41 v9_42 a9_43 a9_44 a9_45 a9_46 a9_47 v9_48 v9_49 v9_50 v9_51 a9_52 a9_53 v9_54 v9_55 a9_56 a9_57 v9_58 a9_59 a9_60 a9_61)), (a9_4, .inl (cyI, 200, .inl g9_4)), (a9_5, .inl (cyZ, 200, .inl g9_5)), (a9_33, .inl (cyI, 202, .inl g9_33)), (a9_34, .inl (cyI, 202, .inl g9_34)), (a9_43, .inl (cyI, 20010, .inl g9_43)), (a9_44, .inl (cyI, 20010, .inl g9_44)), (a9_45, .inl (cyI, 20010, .inl g9_45)), (a9_46, .inl (cyI, 1001, .inl g9_46)), (a9_47, .inl (cyZ, 20010, .inl g9_47)), (a9_53, .inl (cyI, 20010, .inl g9_53)), (a9_57, .inl (cyI, 60600, .inl g9_57))] H → va_D A [(o9, .inr (9, x_O9 v9_0 v9_1 v9_2 v9_3 a9_4 a9_5 a9_6 a9_7 a9_8 a9_9 a9_10 a9_11 a9_12 v9_13 v9_14 v9_15 v9_16 v9_17 v9_18 a9_19 v9_20 v9_21 v9_22 a9_23 a9_24 a9_25 a9_26 a9_27 a9_28 a9_29 a9_30 a9_31 a9_32 a9_33 a9_34 v9_35 v9_36 a9_37 a9_38 a9_39 a9_40 a9_41 v9_42 a9_43 a9_44 a9_45 a9_46 a9_47 v9_48 v9_49 v9_50 v9_51 a9_52 a9_53 v9_54 v9_55 a9_56 a9_57 v9_58 a9_59 a9_60 a9_61)), (a9_4, .inl (cyI, 200, .inl g9_4)), (a9_5, .inl (cyZ, 200, .inl g9_5)), (a9_33, .inl (cyI, 202, .inl g9_33)), (a9_34, .inl (cyI, 202, .inl g9_34)), (a9_43, .inl (cyI, 20010, .inl g9_43)), (a9_44, .inl (cyI, 20010, .inl g9_44)), (a9_45, .inl (cyI, 20010, .inl g9_45)), (a9_46, .inl (cyI, 1001, .inl g9_46)), (a9_47, .inl (cyZ, 20010, .inl g9_47)), (a9_53, .inl (cyI, 20010, .inl g9_53)), (a9_57, .inl (cyI, 60600, .inl g9_57))] → va_S A s.heap H locs → lv_has ls 9 [(0, .ref o9), (3, .int l3), (4, .int l4), (5, .int l5), (6, .int l6)] → WW H locs 0 0 (F0 m 170 ls [])) ∧ (q = 3 → ∀ (H : Heap) (locs : List Loc) (ls : Array Slot), va_P (dC, dI) vwCl [(o9, .inr (9, x_O9 v9_0 v9_1 v9_2 v9_3 a9_4 a9_5 a9_6 a9_7 a9_8 a9_9 a9_10 a9_11 a9_12 v9_13 v9_14 v9_15 v9_16 v9_17 v9_18 a9_19 v9_20 v9_21 v9_22 a9_23 a9_24 a9_25 a9_26 a9_27 a9_28 a9_29 a9_30 a9_31 a9_32 a9_33 a9_34 v9_35 v9_36 a9_37 a9_38 a9_39 a9_40 a9_41 v9_42 a9_43 a9_44 a9_45 a9_46 a9_47 v9_48 v9_49 v9_50 v9_51 a9_52 a9_53 v9_54 v9_55 a9_56 a9_57 v9_58 a9_59 a9_60 a9_61)), (a9_4, .inl (cyI, 200, .inl g9_4)), (a9_5, .inl (cyZ, 200, .inl g9_5)), (a9_33, .inl (cyI, 202, .inl g9_33)), (a9_34, .inl (cyI, 202, .inl g9_34)), (a9_43, .inl (cyI, 20010, .inl g9_43)), (a9_44, .inl (cyI, 20010, .inl g9_44)), (a9_45, .inl (cyI, 20010, .inl g9_45)), (a9_46, .inl (cyI, 1001, .inl g9_46)), (a9_47, .inl (cyZ, 20010, .inl g9_47)), (a9_53, .inl (cyI, 20010, .inl g9_53)), (a9_57, .inl (cyI, 60600, .inl g9_57))] H → va_D A [(o9, .inr (9, x_O9 v9_0 v9_1 v9_2 v9_3 a9_4 a9_5 a9_6 a9_7 a9_8 a9_9 a9_10 a9_11 a9_12 v9_13 v9_14 v9_15 v9_16 v9_17 v9_18 a9_19 v9_20 v9_21 v9_22 a9_23 a9_24 a9_25 a9_26 a9_27 a9_28 a9_29 a9_30 a9_31 a9_32 a9_33 a9_34 v9_35 v9_36 a9_37 a9_38 a9_39 a9_40 a9_41 v9_42 a9_43 a9_44 a9_45 a9_46 a9_47 v9_48 v9_49 v9_50 v9_51 a9_52 a9_53 v9_54 v9_55 a9_56 a9_57 v9_58 a9_59 a9_60 a9_61)), (a9_4, .inl (cyI, 200, .inl g9_4)), (a9_5, .inl (cyZ, 200, .inl g9_5)), (a9_33, .inl (cyI, 202, .inl g9_33)), (a9_34, .inl (cyI, 202, .inl g9_34)), (a9_43, .inl (cyI, 20010, .inl g9_43)), (a9_44, .inl (cyI, 20010, .inl g9_44)), (a9_45, .inl (cyI, 20010, .inl g9_45)), (a9_46, .inl (cyI, 1001, .inl g9_46)), (a9_47, .inl (cyZ, 20010, .inl g9_47)), (a9_53, .inl (cyI, 20010, .inl g9_53)), (a9_57, .inl (cyI, 60600, .inl g9_57))] → va_S A s.heap H locs → lv_has ls 9 [(0, .ref o9), (3, .int l3), (4, .int l4), (5, .int l5), (6, .int l6), (7, .int l7)] → WW H locs 0 0 (F0 m 210 ls [])) ∧ (q = 4 → ∀ (H : Heap) (locs : List Loc) (ls : Array Slot), va_P (dC, dI) vwCl [(o9, .inr (9, x_O9 v9_0 v9_1 v9_2 v9_3 a9_4 a9_5 a9_6 a9_7 a9_8 a9_9 a9_10 a9_11 a9_12 v9_13 v9_14 v9_15 v9_16 v9_17 v9_18 a9_19 v9_20 v9_21 v9_22 a9_23 a9_24 a9_25 a9_26 a9_27 a9_28 a9_29 a9_30 a9_31 a9_32 a9_33 a9_34 v9_35 v9_36 a9_37 a9_38 a9_39 a9_40 a9_41 v9_42 a9_43 a9_44 a9_45 a9_46 a9_47 v9_48 v9_49 v9_50 v9_51 a9_52 a9_53 v9_54 v9_55 a9_56 a9_57 v9_58 a9_59 a9_60 a9_61)), (a9_4, .inl (cyI, 200, .inl g9_4)), (a9_5, .inl (cyZ, 200, .inl g9_5)), (a9_33, .inl (cyI, 202, .inl g9_33)), (a9_34, .inl (cyI, 202, .inl g9_34)), (a9_43, .inl (cyI, 20010, .inl g9_43)), (a9_44, .inl (cyI, 20010, .inl g9_44)), (a9_45, .inl (cyI, 20010, .inl g9_45)), (a9_46, .inl (cyI, 1001, .inl g9_46)), (a9_47, .inl (cyZ, 20010, .inl g9_47)), (a9_53, .inl (cyI, 20010, .inl g9_53)), (a9_57, .inl (cyI, 60600, .inl g9_57))] H → va_D A [(o9, .inr (9, x_O9 v9_0 v9_1 v9_2 v9_3 a9_4 a9_5 a9_6 a9_7 a9_8 a9_9 a9_10 a9_11 a9_12 v9_13 v9_14 v9_15 v9_16 v9_17 v9_18 a9_19 v9_20 v9_21 v9_22 a9_23 a9_24 a9_25 a9_26 a9_27 a9_28 a9_29 a9_30 a9_31 a9_32 a9_33 a9_34 v9_35 v9_36 a9_37 a9_38 a9_39 a9_40 a9_41 v9_42 a9_43 a9_44 a9_45 a9_46 a9_47 v9_48 v9_49 v9_50 v9_51 a9_52 a9_53 v9_54 v9_55 a9_56 a9_57 v9_58 a9_59 a9_60 a9_61)), (a9_4, .inl (cyI, 200, .inl g9_4)), (a9_5, .inl (cyZ, 200, .inl g9_5)), (a9_33, .inl (cyI, 202, .inl g9_33)), (a9_34, .inl (cyI, 202, .inl g9_34)), (a9_43, .inl (cyI, 20010, .inl g9_43)), (a9_44, .inl (cyI, 20010, .inl g9_44)), (a9_45, .inl (cyI, 20010, .inl g9_45)), (a9_46, .inl (cyI, 1001, .inl g9_46)), (a9_47, .inl (cyZ, 20010, .inl g9_47)), (a9_53, .inl (cyI, 20010, .inl g9_53)), (a9_57, .inl (cyI, 60600, .inl g9_57))] → va_S A s.heap H locs → lv_has ls 9 [(0, .ref o9), (3, .int l3), (4, .int l4), (5, .int l5), (6, .int l6)] → WW H locs 0 0 (F0 m 240 ls [])) ∧ (q = 5 → ∀ (H : Heap) (locs : List Loc) (ls : Array Slot), va_P (dC, dI) vwCl [(o9, .inr (9, x_O9 v9_0 v9_1 v9_2 v9_3 a9_4 a9_5 a9_6 a9_7 a9_8 a9_9 a9_10 a9_11 a9_12 v9_13 v9_14 v9_15 v9_16 v9_17 v9_18 a9_19 v9_20 v9_21 v9_22 a9_23 a9_24 a9_25 a9_26 a9_27 a9_28 a9_29 a9_30 a9_31 a9_32 a9_33 a9_34 v9_35 v9_36 a9_37 a9_38 a9_39 a9_40 a9_41 v9_42 a9_43 a9_44 a9_45 a9_46 a9_47 v9_48 v9_49 v9_50 v9_51 a9_52 a9_53 v9_54 v9_55 a9_56 a9_57 v9_58 a9_59 a9_60 a9_61)), (a9_4, .inl (cyI, 200, .inl g9_4)), (a9_5, .inl (cyZ, 200, .inl g9_5)), (a9_33, .inl (cyI, 202, .inl g9_33)), (a9_34, .inl (cyI, 202, .inl g9_34)), (a9_43, .inl (cyI, 20010, .inl g9_43)), (a9_44, .inl (cyI, 20010, .inl g9_44)), (a9_45, .inl (cyI, 20010, .inl g9_45)), (a9_46, .inl (cyI, 1001, .inl g9_46)), (a9_47, .inl (cyZ, 20010, .inl g9_47)), (a9_53, .inl (cyI, 20010, .inl g9_53)), (a9_57, .inl (cyI, 60600, .inl g9_57))] H → va_D A [(o9, .inr (9, x_O9 v9_0 v9_1 v9_2 v9_3 a9_4 a9_5 a9_6 a9_7 a9_8 a9_9 a9_10 a9_11 a9_12 v9_13 v9_14 v9_15 v9_16 v9_17 v9_18 a9_19 v9_20 v9_21 v9_22 a9_23 a9_24 a9_25 a9_26 a9_27 a9_28 a9_29 a9_30 a9_31 a9_32 a9_33 a9_34 v9_35 v9_36 a9_37 a9_38 a9_39 a9_40 a9_41 v9_42 a9_43 a9_44 a9_45 a9_46 a9_47 v9_48 v9_49 v9_50 v9_51 a9_52 a9_53 v9_54 v9_55 a9_56 a9_57 v9_58 a9_59 a9_60 a9_61)), (a9_4, .inl (cyI, 200, .inl g9_4)), (a9_5, .inl (cyZ, 200, .inl g9_5)), (a9_33, .inl (cyI, 202, .inl g9_33)), (a9_34, .inl (cyI, 202, .inl g9_34)), (a9_43, .inl (cyI, 20010, .inl g9_43)), (a9_44, .inl (cyI, 20010, .inl g9_44)), (a9_45, .inl (cyI, 20010, .inl g9_45)), (a9_46, .inl (cyI, 1001, .inl g9_46)), (a9_47, .inl (cyZ, 20010, .inl g9_47)), (a9_53, .inl (cyI, 20010, .inl g9_53)), (a9_57, .inl (cyI, 60600, .inl g9_57))] → va_S A s.heap H locs → lv_has ls 9 [(0, .ref o9), (3, .int l3), (4, .int l4), (5, .int l5), (6, .int l6)] → WW H locs 0 0 (F0 m 249 ls [])) ∧ (q = 6 → ∀ (H : Heap) (locs : List Loc) (ls : Array Slot), va_P (dC, dI) vwCl [(o9, .inr (9, x_O9 v9_0 v9_1 v9_2 v9_3 a9_4 a9_5 a9_6 a9_7 a9_8 a9_9 a9_10 a9_11 a9_12 v9_13 v9_14 v9_15 v9_16 v9_17 v9_18 a9_19 v9_20 v9_21 v9_22 a9_23 a9_24 a9_25 a9_26 a9_27 a9_28 a9_29 a9_30 a9_31 a9_32 a9_33 a9_34 v9_35 v9_36 a9_37 a9_38 a9_39 a9_40 a9_41 v9_42 a9_43 a9_44 a9_45 a9_46 a9_47 v9_48 v9_49 v9_50 v9_51 a9_52 a9_53 v9_54 v9_55 a9_56 a9_57 v9_58 a9_59 a9_60 a9_61)), (a9_4, .inl (cyI, 200, .inl g9_4)), (a9_5, .inl (cyZ, 200, .inl g9_5)), (a9_33, .inl (cyI, 202, .inl g9_33)), (a9_34, .inl (cyI, 202, .inl g9_34)), (a9_43, .inl (cyI, 20010, .inl g9_43)), (a9_44, .inl (cyI, 20010, .inl g9_44)), (a9_45, .inl (cyI, 20010, .inl g9_45)), (a9_46, .inl (cyI, 1001, .inl g9_46)), (a9_47, .inl (cyZ, 20010, .inl g9_47)), (a9_53, .inl (cyI, 20010, .inl g9_53)), (a9_57, .inl (cyI, 60600, .inl g9_57))] H → va_D A [(o9, .inr (9, x_O9 v9_0 v9_1 v9_2 v9_3 a9_4 a9_5 a9_6 a9_7 a9_8 a9_9 a9_10 a9_11 a9_12 v9_13 v9_14 v9_15 v9_16 v9_17 v9_18 a9_19 v9_20 v9_21 v9_22 a9_23 a9_24 a9_25 a9_26 a9_27 a9_28 a9_29 a9_30 a9_31 a9_32 a9_33 a9_34 v9_35 v9_36 a9_37 a9_38 a9_39 a9_40 a9_41 v9_42 a9_43 a9_44 a9_45 a9_46 a9_47 v9_48 v9_49 v9_50 v9_51 a9_52 a9_53 v9_54 v9_55 a9_56 a9_57 v9_58 a9_59 a9_60 a9_61)), (a9_4, .inl (cyI, 200, .inl g9_4)), (a9_5, .inl (cyZ, 200, .inl g9_5)), (a9_33, .inl (cyI, 202, .inl g9_33)), (a9_34, .inl (cyI, 202, .inl g9_34)), (a9_43, .inl (cyI, 20010, .inl g9_43)), (a9_44, .inl (cyI, 20010, .inl g9_44)), (a9_45, .inl (cyI, 20010, .inl g9_45)), (a9_46, .inl (cyI, 1001, .inl g9_46)), (a9_47, .inl (cyZ, 20010, .inl g9_47)), (a9_53, .inl (cyI, 20010, .inl g9_53)), (a9_57, .inl (cyI, 60600, .inl g9_57))] → va_S A s.heap H locs → lv_has ls 9 [(0, .ref o9), (3, .int l3), (4, .int l4), (5, .int l5), (6, .int l6), (7, .int l7)] → WW H locs 0 0 (F0 m 282 ls [])) ∧ (q = 7 → ∀ (H : Heap) (locs : List Loc) (ls : Array Slot), va_P (dC, dI) vwCl [(o9, .inr (9, x_O9 v9_0 v9_1 v9_2 v9_3 a9_4 a9_5 a9_6 a9_7 a9_8 a9_9 a9_10 a9_11 a9_12 v9_13 v9_14 v9_15 v9_16 v9_17 v9_18 a9_19 v9_20 v9_21 v9_22 a9_23 a9_24 a9_25 a9_26 a9_27 a9_28 a9_29 a9_30 a9_31 a9_32 a9_33 a9_34 v9_35 v9_36 a9_37 a9_38 a9_39 a9_40 a9_41 v9_42 a9_43 a9_44 a9_45 a9_46 a9_47 v9_48 v9_49 v9_50 v9_51 a9_52 a9_53 v9_54 v9_55 a9_56 a9_57 v9_58 a9_59 a9_60 a9_61)), (a9_4, .inl (cyI, 200, .inl g9_4)), (a9_5, .inl (cyZ, 200, .inl g9_5)), (a9_33, .inl (cyI, 202, .inl g9_33)), (a9_34, .inl (cyI, 202, .inl g9_34)), (a9_43, .inl (cyI, 20010, .inl g9_43)), (a9_44, .inl (cyI, 20010, .inl g9_44)), (a9_45, .inl (cyI, 20010, .inl g9_45)), (a9_46, .inl (cyI, 1001, .inl g9_46)), (a9_47, .inl (cyZ, 20010, .inl g9_47)), (a9_53, .inl (cyI, 20010, .inl g9_53)), (a9_57, .inl (cyI, 60600, .inl g9_57))] H → va_D A [(o9, .inr (9, x_O9 v9_0 v9_1 v9_2 v9_3 a9_4 a9_5 a9_6 a9_7 a9_8 a9_9 a9_10 a9_11 a9_12 v9_13 v9_14 v9_15 v9_16 v9_17 v9_18 a9_19 v9_20 v9_21 v9_22 a9_23 a9_24 a9_25 a9_26 a9_27 a9_28 a9_29 a9_30 a9_31 a9_32 a9_33 a9_34 v9_35 v9_36 a9_37 a9_38 a9_39 a9_40 a9_41 v9_42 a9_43 a9_44 a9_45 a9_46 a9_47 v9_48 v9_49 v9_50 v9_51 a9_52 a9_53 v9_54 v9_55 a9_56 a9_57 v9_58 a9_59 a9_60 a9_61)), (a9_4, .inl (cyI, 200, .inl g9_4)), (a9_5, .inl (cyZ, 200, .inl g9_5)), (a9_33, .inl (cyI, 202, .inl g9_33)), (a9_34, .inl (cyI, 202, .inl g9_34)), (a9_43, .inl (cyI, 20010, .inl g9_43)), (a9_44, .inl (cyI, 20010, .inl g9_44)), (a9_45, .inl (cyI, 20010, .inl g9_45)), (a9_46, .inl (cyI, 1001, .inl g9_46)), (a9_47, .inl (cyZ, 20010, .inl g9_47)), (a9_53, .inl (cyI, 20010, .inl g9_53)), (a9_57, .inl (cyI, 60600, .inl g9_57))] → va_S A s.heap H locs → lv_has ls 9 [(0, .ref o9), (3, .int l3), (4, .int l4), (5, .int l5), (6, .int l6), (8, .int l8)] → WW H locs 0 0 (F0 m 333 ls [])) ∧ (q = 8 → ∀ (H : Heap) (locs : List Loc) (ls : Array Slot), va_P (dC, dI) vwCl [(o9, .inr (9, x_O9 v9_0 v9_1 v9_2 v9_3 a9_4 a9_5 a9_6 a9_7 a9_8 a9_9 a9_10 a9_11 a9_12 v9_13 v9_14 v9_15 v9_16 v9_17 v9_18 a9_19 v9_20 v9_21 v9_22 a9_23 a9_24 a9_25 a9_26 a9_27 a9_28 a9_29 a9_30 a9_31 a9_32 a9_33 a9_34 v9_35 v9_36 a9_37 a9_38 a9_39 a9_40 a9_41 v9_42 a9_43 a9_44 a9_45 a9_46 a9_47 v9_48 v9_49 v9_50 v9_51 a9_52 a9_53 v9_54 v9_55 a9_56 a9_57 v9_58 a9_59 a9_60 a9_61)), (a9_4, .inl (cyI, 200, .inl g9_4)), (a9_5, .inl (cyZ, 200, .inl g9_5)), (a9_33, .inl (cyI, 202, .inl g9_33)), (a9_34, .inl (cyI, 202, .inl g9_34)), (a9_43, .inl (cyI, 20010, .inl g9_43)), (a9_44, .inl (cyI, 20010, .inl g9_44)), (a9_45, .inl (cyI, 20010, .inl g9_45)), (a9_46, .inl (cyI, 1001, .inl g9_46)), (a9_47, .inl (cyZ, 20010, .inl g9_47)), (a9_53, .inl (cyI, 20010, .inl g9_53)), (a9_57, .inl (cyI, 60600, .inl g9_57))] H → va_D A [(o9, .inr (9, x_O9 v9_0 v9_1 v9_2 v9_3 a9_4 a9_5 a9_6 a9_7 a9_8 a9_9 a9_10 a9_11 a9_12 v9_13 v9_14 v9_15 v9_16 v9_17 v9_18 a9_19 v9_20 v9_21 v9_22 a9_23 a9_24 a9_25 a9_26 a9_27 a9_28 a9_29 a9_30 a9_31 a9_32 a9_33 a9_34 v9_35 v9_36 a9_37 a9_38 a9_39 a9_40 a9_41 v9_42 a9_43 a9_44 a9_45 a9_46 a9_47 v9_48 v9_49 v9_50 v9_51 a9_52 a9_53 v9_54 v9_55 a9_56 a9_57 v9_58 a9_59 a9_60 a9_61)), (a9_4, .inl (cyI, 200, .inl g9_4)), (a9_5, .inl (cyZ, 200, .inl g9_5)), (a9_33, .inl (cyI, 202, .inl g9_33)), (a9_34, .inl (cyI, 202, .inl g9_34)), (a9_43, .inl (cyI, 20010, .inl g9_43)), (a9_44, .inl (cyI, 20010, .inl g9_44)), (a9_45, .inl (cyI, 20010, .inl g9_45)), (a9_46, .inl (cyI, 1001, .inl g9_46)), (a9_47, .inl (cyZ, 20010, .inl g9_47)), (a9_53, .inl (cyI, 20010, .inl g9_53)), (a9_57, .inl (cyI, 60600, .inl g9_57))] → va_S A s.heap H locs → lv_has ls 9 [(0, .ref o9), (3, .int l3), (4, .int l4), (5, .int l5), (6, .int l6)] → WW H locs 0 0 (F0 m 355 ls [])) ∧ (q = 9 → ∀ (H : Heap) (locs : List Loc) (ls : Array Slot), va_P (dC, dI) vwCl [(o9, .inr (9, x_O9 v9_0 v9_1 v9_2 v9_3 a9_4 a9_5 a9_6 a9_7 a9_8 a9_9 a9_10 a9_11 a9_12 v9_13 v9_14 v9_15 v9_16 v9_17 v9_18 a9_19 v9_20 v9_21 v9_22 a9_23 a9_24 a9_25 a9_26 a9_27 a9_28 a9_29 a9_30 a9_31 a9_32 a9_33 a9_34 v9_35 v9_36 a9_37 a9_38 a9_39 a9_40 a9_41 v9_42 a9_43 a9_44 a9_45 a9_46 a9_47 v9_48 v9_49 v9_50 v9_51 a9_52 a9_53 v9_54 v9_55 a9_56 a9_57 v9_58 a9_59 a9_60 a9_61)), (a9_4, .inl (cyI, 200, .inl g9_4)), (a9_5, .inl (cyZ, 200, .inl g9_5)), (a9_33, .inl (cyI, 202, .inl g9_33)), (a9_34, .inl (cyI, 202, .inl g9_34)), (a9_43, .inl (cyI, 20010, .inl g9_43)), (a9_44, .inl (cyI, 20010, .inl g9_44)), (a9_45, .inl (cyI, 20010, .inl g9_45)), (a9_46, .inl (cyI, 1001, .inl g9_46)), (a9_47, .inl (cyZ, 20010, .inl g9_47)), (a9_53, .inl (cyI, 20010, .inl g9_53)), (a9_57, .inl (cyI, 60600, .inl g9_57))] H → va_D A [(o9, .inr (9, x_O9 v9_0 v9_1 v9_2 v9_3 a9_4 a9_5 a9_6 a9_7 a9_8 a9_9 a9_10 a9_11 a9_12 v9_13 v9_14 v9_15 v9_16 v9_17 v9_18 a9_19 v9_20 v9_21 v9_22 a9_23 a9_24 a9_25 a9_26 a9_27 a9_28 a9_29 a9_30 a9_31 a9_32 a9_33 a9_34 v9_35 v9_36 a9_37 a9_38 a9_39 a9_40 a9_41 v9_42 a9_43 a9_44 a9_45 a9_46 a9_47 v9_48 v9_49 v9_50 v9_51 a9_52 a9_53 v9_54 v9_55 a9_56 a9_57 v9_58 a9_59 a9_60 a9_61)), (a9_4, .inl (cyI, 200, .inl g9_4)), (a9_5, .inl (cyZ, 200, .inl g9_5)), (a9_33, .inl (cyI, 202, .inl g9_33)), (a9_34, .inl (cyI, 202, .inl g9_34)), (a9_43, .inl (cyI, 20010, .inl g9_43)), (a9_44, .inl (cyI, 20010, .inl g9_44)), (a9_45, .inl (cyI, 20010, .inl g9_45)), (a9_46, .inl (cyI, 1001, .inl g9_46)), (a9_47, .inl (cyZ, 20010, .inl g9_47)), (a9_53, .inl (cyI, 20010, .inl g9_53)), (a9_57, .inl (cyI, 60600, .inl g9_57))] → va_S A s.heap H locs → lv_has ls 9 [(0, .ref o9), (3, .int l3), (4, .int l4), (5, .int l5), (6, .int l6)] → WW H locs 0 0 (F0 m 366 ls [])) ∧ (q = 10 → ∀ (H : Heap) (locs : List Loc) (ls : Array Slot), va_P (dC, dI) vwCl [(o9, .inr (9, x_O9 v9_0 v9_1 v9_2 v9_3 a9_4 a9_5 a9_6 a9_7 a9_8 a9_9 a9_10 a9_11 a9_12 v9_13 v9_14 v9_15 v9_16 v9_17 v9_18 a9_19 v9_20 v9_21 v9_22 a9_23 a9_24 a9_25 a9_26 a9_27 a9_28 a9_29 a9_30 a9_31 a9_32 a9_33 a9_34 v9_35 v9_36 a9_37 a9_38 a9_39 a9_40 a9_41 v9_42 a9_43 a9_44 a9_45 a9_46 a9_47 v9_48 v9_49 v9_50 v9_51 a9_52 a9_53 v9_54 v9_55 a9_56 a9_57 v9_58 a9_59 a9_60 a9_61)), (a9_4, .inl (cyI, 200, .inl g9_4)), (a9_5, .inl (cyZ, 200, .inl g9_5)), (a9_33, .inl (cyI, 202, .inl g9_33)), (a9_34, .inl (cyI, 202, .inl g9_34)), (a9_43, .inl (cyI, 20010, .inl g9_43)), (a9_44, .inl (cyI, 20010, .inl g9_44)), (a9_45, .inl (cyI, 20010, .inl g9_45)), (a9_46, .inl (cyI, 1001, .inl g9_46)), (a9_47, .inl (cyZ, 20010, .inl g9_47)), (a9_53, .inl (cyI, 20010, .inl g9_53)), (a9_57, .inl (cyI, 60600, .inl g9_57))] H → va_D A [(o9, .inr (9, x_O9 v9_0 v9_1 v9_2 v9_3 a9_4 a9_5 a9_6 a9_7 a9_8 a9_9 a9_10 a9_11 a9_12 v9_13 v9_14 v9_15 v9_16 v9_17 v9_18 a9_19 v9_20 v9_21 v9_22 a9_23 a9_24 a9_25 a9_26 a9_27 a9_28 a9_29 a9_30 a9_31 a9_32 a9_33 a9_34 v9_35 v9_36 a9_37 a9_38 a9_39 a9_40 a9_41 v9_42 a9_43 a9_44 a9_45 a9_46 a9_47 v9_48 v9_49 v9_50 v9_51 a9_52 a9_53 v9_54 v9_55 a9_56 a9_57 v9_58 a9_59 a9_60 a9_61)), (a9_4, .inl (cyI, 200, .inl g9_4)), (a9_5, .inl (cyZ, 200, .inl g9_5)), (a9_33, .inl (cyI, 202, .inl g9_33)), (a9_34, .inl (cyI, 202, .inl g9_34)), (a9_43, .inl (cyI, 20010, .inl g9_43)), (a9_44, .inl (cyI, 20010, .inl g9_44)), (a9_45, .inl (cyI, 20010, .inl g9_45)), (a9_46, .inl (cyI, 1001, .inl g9_46)), (a9_47, .inl (cyZ, 20010, .inl g9_47)), (a9_53, .inl (cyI, 20010, .inl g9_53)), (a9_57, .inl (cyI, 60600, .inl g9_57))] → va_S A s.heap H locs → lv_has ls 9 [(0, .ref o9), (3, .int l3), (4, .int l4), (5, .int l5), (6, .int l6)] → WW H locs 0 0 (F0 m 375 ls [])) ∧ (q = 11 → ∀ (H : Heap) (locs : List Loc) (ls : Array Slot), va_P (dC, dI) vwCl [(o9, .inr (9, x_O9 v9_0 v9_1 v9_2 v9_3 a9_4 a9_5 a9_6 a9_7 a9_8 a9_9 a9_10 a9_11 a9_12 v9_13 v9_14 v9_15 v9_16 v9_17 v9_18 a9_19 v9_20 v9_21 v9_22 a9_23 a9_24 a9_25 a9_26 a9_27 a9_28 a9_29 a9_30 a9_31 a9_32 a9_33 a9_34 v9_35 v9_36 a9_37 a9_38 a9_39 a9_40 a9_41 v9_42 a9_43 a9_44 a9_45 a9_46 a9_47 v9_48 v9_49 v9_50 v9_51 a9_52 a9_53 v9_54 v9_55 a9_56 a9_57 v9_58 a9_59 a9_60 a9_61)), (a9_4, .inl (cyI, 200, .inl g9_4)), (a9_5, .inl (cyZ, 200, .inl g9_5)), (a9_33, .inl (cyI, 202, .inl g9_33)), (a9_34, .inl (cyI, 202, .inl g9_34)), (a9_43, .inl (cyI, 20010, .inl g9_43)), (a9_44, .inl (cyI, 20010, .inl g9_44)), (a9_45, .inl (cyI, 20010, .inl g9_45)), (a9_46, .inl (cyI, 1001, .inl g9_46)), (a9_47, .inl (cyZ, 20010, .inl g9_47)), (a9_53, .inl (cyI, 20010, .inl g9_53)), (a9_57, .inl (cyI, 60600, .inl g9_57))] H → va_D A [(o9, .inr (9, x_O9 v9_0 v9_1 v9_2 v9_3 a9_4 a9_5 a9_6 a9_7 a9_8 a9_9 a9_10 a9_11 a9_12 v9_13 v9_14 v9_15 v9_16 v9_17 v9_18 a9_19 v9_20 v9_21 v9_22 a9_23 a9_24 a9_25 a9_26 a9_27 a9_28 a9_29 a9_30 a9_31 a9_32 a9_33 a9_34 v9_35 v9_36 a9_37 a9_38 a9_39 a9_40 a9_41 v9_42 a9_43 a9_44 a9_45 a9_46 a9_47 v9_48 v9_49 v9_50 v9_51 a9_52 a9_53 v9_54 v9_55 a9_56 a9_57 v9_58 a9_59 a9_60 a9_61)), (a9_4, .inl (cyI, 200, .inl g9_4)), (a9_5, .inl (cyZ, 200, .inl g9_5)), (a9_33, .inl (cyI, 202, .inl g9_33)), (a9_34, .inl (cyI, 202, .inl g9_34)), (a9_43, .inl (cyI, 20010, .inl g9_43)), (a9_44, .inl (cyI, 20010, .inl g9_44)), (a9_45, .inl (cyI, 20010, .inl g9_45)), (a9_46, .inl (cyI, 1001, .inl g9_46)), (a9_47, .inl (cyZ, 20010, .inl g9_47)), (a9_53, .inl (cyI, 20010, .inl g9_53)), (a9_57, .inl (cyI, 60600, .inl g9_57))] → va_S A s.heap H locs → lv_has ls 9 [(0, .ref o9), (3, .int l3), (4, .int l4), (5, .int l5), (6, .int l6)] → WW H locs 0 0 (F0 m 459 ls [])) ∧ (q = 12 → ∀ (H : Heap) (locs : List Loc) (ls : Array Slot), va_P (dC, dI) vwCl [(o9, .inr (9, x_O9 v9_0 v9_1 v9_2 v9_3 a9_4 a9_5 a9_6 a9_7 a9_8 a9_9 a9_10 a9_11 a9_12 v9_13 v9_14 v9_15 v9_16 v9_17 v9_18 a9_19 v9_20 v9_21 v9_22 a9_23 a9_24 a9_25 a9_26 a9_27 a9_28 a9_29 a9_30 a9_31 a9_32 a9_33 a9_34 v9_35 v9_36 a9_37 a9_38 a9_39 a9_40 a9_41 v9_42 a9_43 a9_44 a9_45 a9_46 a9_47 v9_48 v9_49 v9_50 v9_51 a9_52 a9_53 v9_54 v9_55 a9_56 a9_57 v9_58 a9_59 a9_60 a9_61)), (a9_4, .inl (cyI, 200, .inl g9_4)), (a9_5, .inl (cyZ, 200, .inl g9_5)), (a9_33, .inl (cyI, 202, .inl g9_33)), (a9_34, .inl (cyI, 202, .inl g9_34)), (a9_43, .inl (cyI, 20010, .inl g9_43)), (a9_44, .inl (cyI, 20010, .inl g9_44)), (a9_45, .inl (cyI, 20010, .inl g9_45)), (a9_46, .inl (cyI, 1001, .inl g9_46)), (a9_47, .inl (cyZ, 20010, .inl g9_47)), (a9_53, .inl (cyI, 20010, .inl g9_53)), (a9_57, .inl (cyI, 60600, .inl g9_57))] H → va_D A [(o9, .inr (9, x_O9 v9_0 v9_1 v9_2 v9_3 a9_4 a9_5 a9_6 a9_7 a9_8 a9_9 a9_10 a9_11 a9_12 v9_13 v9_14 v9_15 v9_16 v9_17 v9_18 a9_19 v9_20 v9_21 v9_22 a9_23 a9_24 a9_25 a9_26 a9_27 a9_28 a9_29 a9_30 a9_31 a9_32 a9_33 a9_34 v9_35 v9_36 a9_37 a9_38 a9_39 a9_40 a9_41 v9_42 a9_43 a9_44 a9_45 a9_46 a9_47 v9_48 v9_49 v9_50 v9_51 a9_52 a9_53 v9_54 v9_55 a9_56 a9_57 v9_58 a9_59 a9_60 a9_61)), (a9_4, .inl (cyI, 200, .inl g9_4)), (a9_5, .inl (cyZ, 200, .inl g9_5)), (a9_33, .inl (cyI, 202, .inl g9_33)), (a9_34, .inl (cyI, 202, .inl g9_34)), (a9_43, .inl (cyI, 20010, .inl g9_43)), (a9_44, .inl (cyI, 20010, .inl g9_44)), (a9_45, .inl (cyI, 20010, .inl g9_45)), (a9_46, .inl (cyI, 1001, .inl g9_46)), (a9_47, .inl (cyZ, 20010, .inl g9_47)), (a9_53, .inl (cyI, 20010, .inl g9_53)), (a9_57, .inl (cyI, 60600, .inl g9_57))] → va_S A s.heap H locs → lv_has ls 9 [(0, .ref o9), (3, .int l3), (5, .int l5)] → WW H locs 0 0 (F0 m 518 ls [])))) (by
    intro F ih z r hf hr q l1 l2 l3 l4 l5 l6 l7 l8 g9_57 hz
    subst hz
    obtain rfl := hr
    refine ⟨?_, ?_, ?_, ?_, ?_, ?_, ?_, ?_, ?_, ?_, ?_, ?_, ?_⟩
    · intro hq H locs ls hP hD hS hl
      subst hq
      refine (hWW _ _ _ _ _).mp ?_
      replace hf := x_ip rfl hf
      refine lv_iload_n hx hb dX9_comes_7 rfl (lv_at hl 3 rfl) ?_
      refine lv_if_lt (tgt := 31) hx hb dX9_comes_8 (by decide) (fun c_1 => ?_) (fun c_1 => ?_)
      · replace hf := x_ip c_1 hf
        exact (hWW _ _ _ _ _).mpr ((ih (1, l1, l2, l3, 0, 0, 0, 0, 0, g9_57) _ hf rfl _ _ _ _ _ _ _ _ _ _ rfl).2.1 rfl H locs ls hP hD hS (lv_sub hl [0, 1, 2, 3] rfl))
      · replace hf := x_in c_1 hf
        refine lv_aload_n hx hb dX9_comes_11 rfl (lv_at hl 0 rfl) ?_
        refine va_get (D := (dC, dI)) (ci := 9) (v := .ref a9_44) (C := RX9) (T := TX9) (N := 62) hx hb hts i_X9_comes_X9 hown hK hP 0 rfl rfl 44 (by decide) k_1 (fun _ h9 => h9) rfl dX9_comes_12 ?_
        refine lv_iload_n hx hb dX9_comes_15 rfl (lv_at hl 3 rfl) ?_
        obtain ⟨g_2, hf⟩ := x_gu hf
        refine va_iald hx hb hK hP 6 0 rfl rfl (x_gdin g_2) dX9_comes_16 ?_
        refine lv_iload_n hx hb dX9_comes_17 rfl (lv_at hl 2 rfl) ?_
        refine lv_icmp_eq (tgt := 31) hx hb dX9_comes_18 (by decide) (fun c_3 => ?_) (fun c_3 => ?_)
        · replace hf := x_ip c_3 hf
          exact (hWW _ _ _ _ _).mpr ((ih (1, l1, l2, l3, 0, 0, 0, 0, 0, g9_57) _ hf rfl _ _ _ _ _ _ _ _ _ _ rfl).2.1 rfl H locs ls hP hD hS (lv_sub hl [0, 1, 2, 3] rfl))
        · replace hf := x_in c_3 hf
          refine lv_aload_n hx hb dX9_comes_21 rfl (lv_at hl 0 rfl) ?_
          refine va_get (D := (dC, dI)) (ci := 9) (v := .ref a9_45) (C := RX9) (T := TX9) (N := 62) hx hb hts i_X9_comes_X9 hown hK hP 0 rfl rfl 45 (by decide) k_2 (fun _ h9 => h9) rfl dX9_comes_22 ?_
          refine lv_iload_n hx hb dX9_comes_25 rfl (lv_at hl 3 rfl) ?_
          obtain ⟨g_4, hf⟩ := x_gu hf
          refine va_iald hx hb hK hP 7 0 rfl rfl (x_gdin g_4) dX9_comes_26 ?_
          refine lv_istore_n (lv' := [(3, .int (g9_45 (Int32.toNatClampNeg l3))), (0, .ref o9), (1, .int l1), (2, .int l2)]) hx hb dX9_comes_27 rfl hl (by decide) rfl (fun ls hl => ?_)
          refine lv_goto (tgt := 7) hx hb dX9_comes_28 (by decide) ?_
          exact (hWW _ _ _ _ _).mpr ((ih (0, l1, l2, g9_45 (Int32.toNatClampNeg l3), 0, 0, 0, 0, 0, g9_57) _ hf rfl _ _ _ _ _ _ _ _ _ _ rfl).1 rfl H locs ls hP hD hS (lv_sub hl [1, 2, 3, 0] rfl))
    · intro hq H locs ls hP hD hS hl
      subst hq
      refine (hWW _ _ _ _ _).mp ?_
      replace hf := x_ip rfl (x_in (by decide) hf)
      refine lv_iload_n hx hb dX9_comes_31 rfl (lv_at hl 3 rfl) ?_
      refine lv_if_ge (tgt := 130) hx hb dX9_comes_32 (by decide) (fun c_5 => ?_) (fun c_5 => ?_)
      · replace hf := x_ip c_5 hf
        refine lv_iload_n hx hb dX9_comes_130 rfl (lv_at hl 3 rfl) ?_
        refine lv_aload_n hx hb dX9_comes_131 rfl (lv_at hl 0 rfl) ?_
        obtain ⟨r_6, h_6, hf⟩ := x_bi hf
        have hPc := hP.sub (ws' := [(o9, .inr (9, x_O9 v9_0 v9_1 v9_2 v9_3 a9_4 a9_5 a9_6 a9_7 a9_8 a9_9 a9_10 a9_11 a9_12 v9_13 v9_14 v9_15 v9_16 v9_17 v9_18 a9_19 v9_20 v9_21 v9_22 a9_23 a9_24 a9_25 a9_26 a9_27 a9_28 a9_29 a9_30 a9_31 a9_32 a9_33 a9_34 v9_35 v9_36 a9_37 a9_38 a9_39 a9_40 a9_41 v9_42 a9_43 a9_44 a9_45 a9_46 a9_47 v9_48 v9_49 v9_50 v9_51 a9_52 a9_53 v9_54 v9_55 a9_56 a9_57 v9_58 a9_59 a9_60 a9_61))]) [0] rfl
        refine va_calli (va_runV (As := []) (rest := [.int l3]) ⟨hx, hb, hml, hown, hts⟩ (c_X9_size l dC dI cyI cyZ cyJ H.size o9 v9_0 v9_1 v9_2 v9_3 a9_4 a9_5 a9_6 a9_7 a9_8 a9_9 a9_10 a9_11 a9_12 v9_13 v9_14 v9_15 v9_16 v9_17 v9_18 a9_19 v9_20 v9_21 v9_22 a9_23 a9_24 a9_25 a9_26 a9_27 a9_28 a9_29 a9_30 a9_31 a9_32 a9_33 a9_34 v9_35 v9_36 a9_37 a9_38 a9_39 a9_40 a9_41 v9_42 a9_43 a9_44 a9_45 a9_46 a9_47 v9_48 v9_49 v9_50 v9_51 a9_52 a9_53 v9_54 v9_55 a9_56 a9_57 v9_58 a9_59 a9_60 a9_61 r_6 h_6) (cwV 0 hts gX9_comes_X9_size rfl rfl rfl (by decide +kernel) ⟨Nat.le_of_ble_eq_true rfl, Nat.le_of_ble_eq_true rfl⟩) (x_pV hN hK hPc (ci := 9) (q0 := 0) rfl rfl) rfl rfl hl.1 rfl (lv_room (Nat.le_of_ble_eq_true rfl)) dX9_comes_132 ⟨Nat.le_of_ble_eq_true rfl, Nat.le_of_ble_eq_true rfl⟩) hS x_nA (x_nf hA hS) (fun q_6 u t H1 locs ht hvm hw hB hz1 hk1 hS => ?_)
        have hP := x_kp hP hk1
        clear ht hvm hB hz1 hk1 t u hPc
        generalize H1 = H at hP hS ⊢
        obtain rfl := hw.symm
        refine lv_imul hx hb dX9_comes_135 ?_
        refine lv_istore (lv' := [(4, .int (l3 * r_6)), (0, .ref o9), (1, .int l1), (2, .int l2), (3, .int l3)]) hx hb dX9_comes_136 hl (by decide) rfl (fun ls hl => ?_)
        refine lv_aload_n hx hb dX9_comes_138 rfl (lv_at hl 1 rfl) ?_
        refine va_get (D := (dC, dI)) (ci := 9) (v := .ref a9_57) (C := RX9) (T := TX9) (N := 62) hx hb hts i_X9_comes_X9 hown hK hP 0 rfl rfl 57 (by decide) k_3 (fun _ h9 => h9) rfl dX9_comes_139 ?_
        refine lv_iload hx hb dX9_comes_142 (lv_at hl 0 rfl) ?_
        refine lv_aload_n hx hb dX9_comes_144 rfl (lv_at hl 1 rfl) ?_
        refine va_get (D := (dC, dI)) (ci := 9) (v := .int v9_16) (C := RX9) (T := TX9) (N := 62) hx hb hts i_X9_comes_X9 hown hK hP 0 rfl rfl 16 (by decide) k_4 (fun _ h9 => h9) rfl dX9_comes_145 ?_
        refine lv_iadd hx hb dX9_comes_148 ?_
        refine lv_aload_n hx hb dX9_comes_149 rfl (lv_at hl 1 rfl) ?_
        refine va_get (D := (dC, dI)) (ci := 9) (v := .int v9_17) (C := RX9) (T := TX9) (N := 62) hx hb hts i_X9_comes_X9 hown hK hP 0 rfl rfl 17 (by decide) k_5 (fun _ h9 => h9) rfl dX9_comes_150 ?_
        refine lv_iadd hx hb dX9_comes_153 ?_
        obtain ⟨g_7, hf⟩ := x_gu hf
        refine va_iald hx hb hK hP 11 0 rfl rfl (x_gdin g_7) dX9_comes_154 ?_
        refine lv_aload_n hx hb dX9_comes_155 rfl (lv_at hl 1 rfl) ?_
        refine va_get (D := (dC, dI)) (ci := 9) (v := .int v9_35) (C := RX9) (T := TX9) (N := 62) hx hb hts i_X9_comes_X9 hown hK hP 0 rfl rfl 35 (by decide) k_6 (fun _ h9 => h9) rfl dX9_comes_156 ?_
        refine lv_icmp_eq (tgt := 164) hx hb dX9_comes_159 (by decide) (fun c_8 => ?_) (fun c_8 => ?_)
        · replace hf := x_ip c_8 hf
          refine lv_iconst (v := 0) hx hb dX9_comes_164 (by decide) ?_
          refine lv_istore (lv' := [(5, .int 0), (4, .int (l3 * r_6)), (0, .ref o9), (1, .int l1), (2, .int l2), (3, .int l3)]) hx hb dX9_comes_165 hl (by decide) rfl (fun ls hl => ?_)
          refine lv_iconst (v := 0) hx hb dX9_comes_167 (by decide) ?_
          refine lv_istore (lv' := [(6, .int 0), (5, .int 0), (4, .int (l3 * r_6)), (0, .ref o9), (1, .int l1), (2, .int l2), (3, .int l3)]) hx hb dX9_comes_168 hl (by decide) rfl (fun ls hl => ?_)
          exact (hWW _ _ _ _ _).mpr ((ih (2, 0, 0, l3, l3 * r_6, 0, 0, 0, 0, g9_57) _ hf rfl _ _ _ _ _ _ _ _ _ _ rfl).2.2.1 rfl H locs ls hP hD hS (lv_sub hl [3, 6, 2, 1, 0] rfl))
        · replace hf := x_in c_8 hf
          refine lv_iconst (v := 0) hx hb dX9_comes_162 (by decide) ?_
          obtain rfl := Option.some.inj hf
          have hP9 := hP.sub (ws' := [(o9, .inr (9, x_O9 v9_0 v9_1 v9_2 v9_3 a9_4 a9_5 a9_6 a9_7 a9_8 a9_9 a9_10 a9_11 a9_12 v9_13 v9_14 v9_15 v9_16 v9_17 v9_18 a9_19 v9_20 v9_21 v9_22 a9_23 a9_24 a9_25 a9_26 a9_27 a9_28 a9_29 a9_30 a9_31 a9_32 a9_33 a9_34 v9_35 v9_36 a9_37 a9_38 a9_39 a9_40 a9_41 v9_42 a9_43 a9_44 a9_45 a9_46 a9_47 v9_48 v9_49 v9_50 v9_51 a9_52 a9_53 v9_54 v9_55 a9_56 a9_57 v9_58 a9_59 a9_60 a9_61)), (a9_4, .inl (cyI, 200, .inl g9_4)), (a9_5, .inl (cyZ, 200, .inl g9_5)), (a9_33, .inl (cyI, 202, .inl g9_33)), (a9_34, .inl (cyI, 202, .inl g9_34)), (a9_43, .inl (cyI, 20010, .inl g9_43)), (a9_44, .inl (cyI, 20010, .inl g9_44)), (a9_45, .inl (cyI, 20010, .inl g9_45)), (a9_46, .inl (cyI, 1001, .inl g9_46)), (a9_47, .inl (cyZ, 20010, .inl g9_47)), (a9_53, .inl (cyI, 20010, .inl g9_53)), (a9_57, .inl (cyI, 60600, .inl g9_57))]) [0, 1, 2, 3, 4, 5, 6, 7, 8, 9, 10, 11] rfl
          have hD9 := hD.sub (ws' := [(o9, .inr (9, x_O9 v9_0 v9_1 v9_2 v9_3 a9_4 a9_5 a9_6 a9_7 a9_8 a9_9 a9_10 a9_11 a9_12 v9_13 v9_14 v9_15 v9_16 v9_17 v9_18 a9_19 v9_20 v9_21 v9_22 a9_23 a9_24 a9_25 a9_26 a9_27 a9_28 a9_29 a9_30 a9_31 a9_32 a9_33 a9_34 v9_35 v9_36 a9_37 a9_38 a9_39 a9_40 a9_41 v9_42 a9_43 a9_44 a9_45 a9_46 a9_47 v9_48 v9_49 v9_50 v9_51 a9_52 a9_53 v9_54 v9_55 a9_56 a9_57 v9_58 a9_59 a9_60 a9_61)), (a9_4, .inl (cyI, 200, .inl g9_4)), (a9_5, .inl (cyZ, 200, .inl g9_5)), (a9_33, .inl (cyI, 202, .inl g9_33)), (a9_34, .inl (cyI, 202, .inl g9_34)), (a9_43, .inl (cyI, 20010, .inl g9_43)), (a9_44, .inl (cyI, 20010, .inl g9_44)), (a9_45, .inl (cyI, 20010, .inl g9_45)), (a9_46, .inl (cyI, 1001, .inl g9_46)), (a9_47, .inl (cyZ, 20010, .inl g9_47)), (a9_53, .inl (cyI, 20010, .inl g9_53)), (a9_57, .inl (cyI, 60600, .inl g9_57))]) [0, 1, 2, 3, 4, 5, 6, 7, 8, 9, 10, 11] (by decide) rfl
          exact W.zret (ty := .boolean) hx hb hr rfl (fun t ht hW => ⟨⟨_, (), rfl, ⟨rfl, rfl⟩, by rw [ht]; exact hP9, va_K.moved hW.alike hK, hD9⟩, hS.F ht⟩) hS.2.2 dX9_comes_163
      · replace hf := x_in c_5 hf
        refine lv_aload_n hx hb dX9_comes_35 rfl (lv_at hl 0 rfl) ?_
        refine va_get (D := (dC, dI)) (ci := 9) (v := .int v9_48) (C := RX9) (T := TX9) (N := 62) hx hb hts i_X9_comes_X9 hown hK hP 0 rfl rfl 48 (by decide) k_7 (fun _ h9 => h9) rfl dX9_comes_36 ?_
        refine lv_iconst (v := 1) hx hb dX9_comes_39 (by decide) ?_
        refine lv_iadd hx hb dX9_comes_40 ?_
        refine lv_aload_n hx hb dX9_comes_41 rfl (lv_at hl 0 rfl) ?_
        refine va_get (D := (dC, dI)) (ci := 9) (v := .int v9_16) (C := RX9) (T := TX9) (N := 62) hx hb hts i_X9_comes_X9 hown hK hP 0 rfl rfl 16 (by decide) k_4 (fun _ h9 => h9) rfl dX9_comes_42 ?_
        refine lv_aload_n hx hb dX9_comes_45 rfl (lv_at hl 0 rfl) ?_
        refine va_get (D := (dC, dI)) (ci := 9) (v := .int v9_17) (C := RX9) (T := TX9) (N := 62) hx hb hts i_X9_comes_X9 hown hK hP 0 rfl rfl 17 (by decide) k_5 (fun _ h9 => h9) rfl dX9_comes_46 ?_
        refine lv_iadd hx hb dX9_comes_49 ?_
        refine lv_iconst (v := 1) hx hb dX9_comes_50 (by decide) ?_
        refine lv_iadd hx hb dX9_comes_51 ?_
        refine lv_imul hx hb dX9_comes_52 ?_
        refine lv_sipush (v := 20000) hx hb dX9_comes_53 (by decide) ?_
        refine lv_icmp_le (tgt := 61) hx hb dX9_comes_56 (by decide) (fun c_9 => ?_) (fun c_9 => ?_)
        · replace hf := x_ip c_9 hf
          refine lv_aload_n hx hb dX9_comes_61 rfl (lv_at hl 0 rfl) ?_
          refine lv_dup hx hb dX9_comes_62 rfl ?_
          refine va_get (D := (dC, dI)) (ci := 9) (v := .int v9_48) (C := RX9) (T := TX9) (N := 62) hx hb hts i_X9_comes_X9 hown hK hP 0 rfl rfl 48 (by decide) k_7 (fun _ h9 => h9) rfl dX9_comes_63 ?_
          refine lv_dup_x1 hx hb dX9_comes_66 rfl rfl ?_
          refine lv_iconst (v := 1) hx hb dX9_comes_67 (by decide) ?_
          refine lv_iadd hx hb dX9_comes_68 ?_
          refine va_put (D := (dC, dI)) (ci := 9) (v := .int (v9_48 + (1 : Int32))) (ty := .int) (C := RX9) (T := TX9) (N := 62) hx hb hts i_X9_comes_X9 tyX9 tyX9_ok nmX9 hown hK hP hD hS 0 rfl rfl 48 (by decide) k_7 (fun _ h9 => h9) rfl (by decide +kernel) rfl rfl (Nat.le_of_ble_eq_true rfl) dX9_comes_69 (fun H locs hP hD hS => ?_)
          have hP : va_P (dC, dI) vwCl [(o9, .inr (9, x_O9 v9_0 v9_1 v9_2 v9_3 a9_4 a9_5 a9_6 a9_7 a9_8 a9_9 a9_10 a9_11 a9_12 v9_13 v9_14 v9_15 v9_16 v9_17 v9_18 a9_19 v9_20 v9_21 v9_22 a9_23 a9_24 a9_25 a9_26 a9_27 a9_28 a9_29 a9_30 a9_31 a9_32 a9_33 a9_34 v9_35 v9_36 a9_37 a9_38 a9_39 a9_40 a9_41 v9_42 a9_43 a9_44 a9_45 a9_46 a9_47 (v9_48 + (1 : Int32)) v9_49 v9_50 v9_51 a9_52 a9_53 v9_54 v9_55 a9_56 a9_57 v9_58 a9_59 a9_60 a9_61)), (a9_4, .inl (cyI, 200, .inl g9_4)), (a9_5, .inl (cyZ, 200, .inl g9_5)), (a9_33, .inl (cyI, 202, .inl g9_33)), (a9_34, .inl (cyI, 202, .inl g9_34)), (a9_43, .inl (cyI, 20010, .inl g9_43)), (a9_44, .inl (cyI, 20010, .inl g9_44)), (a9_45, .inl (cyI, 20010, .inl g9_45)), (a9_46, .inl (cyI, 1001, .inl g9_46)), (a9_47, .inl (cyZ, 20010, .inl g9_47)), (a9_53, .inl (cyI, 20010, .inl g9_53)), (a9_57, .inl (cyI, 60600, .inl g9_57))] H := hP
          have hD : va_D A [(o9, .inr (9, x_O9 v9_0 v9_1 v9_2 v9_3 a9_4 a9_5 a9_6 a9_7 a9_8 a9_9 a9_10 a9_11 a9_12 v9_13 v9_14 v9_15 v9_16 v9_17 v9_18 a9_19 v9_20 v9_21 v9_22 a9_23 a9_24 a9_25 a9_26 a9_27 a9_28 a9_29 a9_30 a9_31 a9_32 a9_33 a9_34 v9_35 v9_36 a9_37 a9_38 a9_39 a9_40 a9_41 v9_42 a9_43 a9_44 a9_45 a9_46 a9_47 (v9_48 + (1 : Int32)) v9_49 v9_50 v9_51 a9_52 a9_53 v9_54 v9_55 a9_56 a9_57 v9_58 a9_59 a9_60 a9_61)), (a9_4, .inl (cyI, 200, .inl g9_4)), (a9_5, .inl (cyZ, 200, .inl g9_5)), (a9_33, .inl (cyI, 202, .inl g9_33)), (a9_34, .inl (cyI, 202, .inl g9_34)), (a9_43, .inl (cyI, 20010, .inl g9_43)), (a9_44, .inl (cyI, 20010, .inl g9_44)), (a9_45, .inl (cyI, 20010, .inl g9_45)), (a9_46, .inl (cyI, 1001, .inl g9_46)), (a9_47, .inl (cyZ, 20010, .inl g9_47)), (a9_53, .inl (cyI, 20010, .inl g9_53)), (a9_57, .inl (cyI, 60600, .inl g9_57))] := hD
          refine lv_istore_n (lv' := [(3, .int v9_48), (0, .ref o9), (1, .int l1), (2, .int l2)]) hx hb dX9_comes_72 rfl hl (by decide) rfl (fun ls hl => ?_)
          refine lv_aload_n hx hb dX9_comes_73 rfl (lv_at hl 1 rfl) ?_
          refine va_get (D := (dC, dI)) (ci := 9) (v := .ref a9_43) (C := RX9) (T := TX9) (N := 62) hx hb hts i_X9_comes_X9 hown hK hP 0 rfl rfl 43 (by decide) k_8 (fun _ h9 => h9) rfl dX9_comes_74 ?_
          refine lv_iload_n hx hb dX9_comes_77 rfl (lv_at hl 0 rfl) ?_
          refine lv_iload_n hx hb dX9_comes_78 rfl (lv_at hl 2 rfl) ?_
          obtain ⟨g_10, hf⟩ := x_gu hf
          refine va_iast hx hb hK hP hD hS 5 0 rfl rfl (x_gdin g_10) dX9_comes_79 (fun H locs hP hD hS => ?_)
          have hP : va_P (dC, dI) vwCl [(o9, .inr (9, x_O9 v9_0 v9_1 v9_2 v9_3 a9_4 a9_5 a9_6 a9_7 a9_8 a9_9 a9_10 a9_11 a9_12 v9_13 v9_14 v9_15 v9_16 v9_17 v9_18 a9_19 v9_20 v9_21 v9_22 a9_23 a9_24 a9_25 a9_26 a9_27 a9_28 a9_29 a9_30 a9_31 a9_32 a9_33 a9_34 v9_35 v9_36 a9_37 a9_38 a9_39 a9_40 a9_41 v9_42 a9_43 a9_44 a9_45 a9_46 a9_47 (v9_48 + (1 : Int32)) v9_49 v9_50 v9_51 a9_52 a9_53 v9_54 v9_55 a9_56 a9_57 v9_58 a9_59 a9_60 a9_61)), (a9_4, .inl (cyI, 200, .inl g9_4)), (a9_5, .inl (cyZ, 200, .inl g9_5)), (a9_33, .inl (cyI, 202, .inl g9_33)), (a9_34, .inl (cyI, 202, .inl g9_34)), (a9_43, .inl (cyI, 20010, .inl (upd g9_43 (Int32.toNatClampNeg v9_48) l1))), (a9_44, .inl (cyI, 20010, .inl g9_44)), (a9_45, .inl (cyI, 20010, .inl g9_45)), (a9_46, .inl (cyI, 1001, .inl g9_46)), (a9_47, .inl (cyZ, 20010, .inl g9_47)), (a9_53, .inl (cyI, 20010, .inl g9_53)), (a9_57, .inl (cyI, 60600, .inl g9_57))] H := hP
          have hD : va_D A [(o9, .inr (9, x_O9 v9_0 v9_1 v9_2 v9_3 a9_4 a9_5 a9_6 a9_7 a9_8 a9_9 a9_10 a9_11 a9_12 v9_13 v9_14 v9_15 v9_16 v9_17 v9_18 a9_19 v9_20 v9_21 v9_22 a9_23 a9_24 a9_25 a9_26 a9_27 a9_28 a9_29 a9_30 a9_31 a9_32 a9_33 a9_34 v9_35 v9_36 a9_37 a9_38 a9_39 a9_40 a9_41 v9_42 a9_43 a9_44 a9_45 a9_46 a9_47 (v9_48 + (1 : Int32)) v9_49 v9_50 v9_51 a9_52 a9_53 v9_54 v9_55 a9_56 a9_57 v9_58 a9_59 a9_60 a9_61)), (a9_4, .inl (cyI, 200, .inl g9_4)), (a9_5, .inl (cyZ, 200, .inl g9_5)), (a9_33, .inl (cyI, 202, .inl g9_33)), (a9_34, .inl (cyI, 202, .inl g9_34)), (a9_43, .inl (cyI, 20010, .inl (upd g9_43 (Int32.toNatClampNeg v9_48) l1))), (a9_44, .inl (cyI, 20010, .inl g9_44)), (a9_45, .inl (cyI, 20010, .inl g9_45)), (a9_46, .inl (cyI, 1001, .inl g9_46)), (a9_47, .inl (cyZ, 20010, .inl g9_47)), (a9_53, .inl (cyI, 20010, .inl g9_53)), (a9_57, .inl (cyI, 60600, .inl g9_57))] := hD
          refine lv_aload_n hx hb dX9_comes_80 rfl (lv_at hl 1 rfl) ?_
          refine va_get (D := (dC, dI)) (ci := 9) (v := .ref a9_44) (C := RX9) (T := TX9) (N := 62) hx hb hts i_X9_comes_X9 hown hK hP 0 rfl rfl 44 (by decide) k_1 (fun _ h9 => h9) rfl dX9_comes_81 ?_
          refine lv_iload_n hx hb dX9_comes_84 rfl (lv_at hl 0 rfl) ?_
          refine lv_iload_n hx hb dX9_comes_85 rfl (lv_at hl 3 rfl) ?_
          obtain ⟨g_11, hf⟩ := x_gu hf
          refine va_iast hx hb hK hP hD hS 6 0 rfl rfl (x_gdin g_11) dX9_comes_86 (fun H locs hP hD hS => ?_)
          have hP : va_P (dC, dI) vwCl [(o9, .inr (9, x_O9 v9_0 v9_1 v9_2 v9_3 a9_4 a9_5 a9_6 a9_7 a9_8 a9_9 a9_10 a9_11 a9_12 v9_13 v9_14 v9_15 v9_16 v9_17 v9_18 a9_19 v9_20 v9_21 v9_22 a9_23 a9_24 a9_25 a9_26 a9_27 a9_28 a9_29 a9_30 a9_31 a9_32 a9_33 a9_34 v9_35 v9_36 a9_37 a9_38 a9_39 a9_40 a9_41 v9_42 a9_43 a9_44 a9_45 a9_46 a9_47 (v9_48 + (1 : Int32)) v9_49 v9_50 v9_51 a9_52 a9_53 v9_54 v9_55 a9_56 a9_57 v9_58 a9_59 a9_60 a9_61)), (a9_4, .inl (cyI, 200, .inl g9_4)), (a9_5, .inl (cyZ, 200, .inl g9_5)), (a9_33, .inl (cyI, 202, .inl g9_33)), (a9_34, .inl (cyI, 202, .inl g9_34)), (a9_43, .inl (cyI, 20010, .inl (upd g9_43 (Int32.toNatClampNeg v9_48) l1))), (a9_44, .inl (cyI, 20010, .inl (upd g9_44 (Int32.toNatClampNeg v9_48) l2))), (a9_45, .inl (cyI, 20010, .inl g9_45)), (a9_46, .inl (cyI, 1001, .inl g9_46)), (a9_47, .inl (cyZ, 20010, .inl g9_47)), (a9_53, .inl (cyI, 20010, .inl g9_53)), (a9_57, .inl (cyI, 60600, .inl g9_57))] H := hP
          have hD : va_D A [(o9, .inr (9, x_O9 v9_0 v9_1 v9_2 v9_3 a9_4 a9_5 a9_6 a9_7 a9_8 a9_9 a9_10 a9_11 a9_12 v9_13 v9_14 v9_15 v9_16 v9_17 v9_18 a9_19 v9_20 v9_21 v9_22 a9_23 a9_24 a9_25 a9_26 a9_27 a9_28 a9_29 a9_30 a9_31 a9_32 a9_33 a9_34 v9_35 v9_36 a9_37 a9_38 a9_39 a9_40 a9_41 v9_42 a9_43 a9_44 a9_45 a9_46 a9_47 (v9_48 + (1 : Int32)) v9_49 v9_50 v9_51 a9_52 a9_53 v9_54 v9_55 a9_56 a9_57 v9_58 a9_59 a9_60 a9_61)), (a9_4, .inl (cyI, 200, .inl g9_4)), (a9_5, .inl (cyZ, 200, .inl g9_5)), (a9_33, .inl (cyI, 202, .inl g9_33)), (a9_34, .inl (cyI, 202, .inl g9_34)), (a9_43, .inl (cyI, 20010, .inl (upd g9_43 (Int32.toNatClampNeg v9_48) l1))), (a9_44, .inl (cyI, 20010, .inl (upd g9_44 (Int32.toNatClampNeg v9_48) l2))), (a9_45, .inl (cyI, 20010, .inl g9_45)), (a9_46, .inl (cyI, 1001, .inl g9_46)), (a9_47, .inl (cyZ, 20010, .inl g9_47)), (a9_53, .inl (cyI, 20010, .inl g9_53)), (a9_57, .inl (cyI, 60600, .inl g9_57))] := hD
          refine lv_aload_n hx hb dX9_comes_87 rfl (lv_at hl 1 rfl) ?_
          refine va_get (D := (dC, dI)) (ci := 9) (v := .ref a9_45) (C := RX9) (T := TX9) (N := 62) hx hb hts i_X9_comes_X9 hown hK hP 0 rfl rfl 45 (by decide) k_2 (fun _ h9 => h9) rfl dX9_comes_88 ?_
          refine lv_iload_n hx hb dX9_comes_91 rfl (lv_at hl 0 rfl) ?_
          refine lv_aload_n hx hb dX9_comes_92 rfl (lv_at hl 1 rfl) ?_
          refine va_get (D := (dC, dI)) (ci := 9) (v := .ref a9_46) (C := RX9) (T := TX9) (N := 62) hx hb hts i_X9_comes_X9 hown hK hP 0 rfl rfl 46 (by decide) k_9 (fun _ h9 => h9) rfl dX9_comes_93 ?_
          refine lv_iload_n hx hb dX9_comes_96 rfl (lv_at hl 2 rfl) ?_
          obtain ⟨g_12, hf⟩ := x_gu hf
          refine va_iald hx hb hK hP 8 0 rfl rfl (x_gdin g_12) dX9_comes_97 ?_
          obtain ⟨g_13, hf⟩ := x_gu hf
          refine va_iast hx hb hK hP hD hS 7 0 rfl rfl (x_gdin g_13) dX9_comes_98 (fun H locs hP hD hS => ?_)
          have hP : va_P (dC, dI) vwCl [(o9, .inr (9, x_O9 v9_0 v9_1 v9_2 v9_3 a9_4 a9_5 a9_6 a9_7 a9_8 a9_9 a9_10 a9_11 a9_12 v9_13 v9_14 v9_15 v9_16 v9_17 v9_18 a9_19 v9_20 v9_21 v9_22 a9_23 a9_24 a9_25 a9_26 a9_27 a9_28 a9_29 a9_30 a9_31 a9_32 a9_33 a9_34 v9_35 v9_36 a9_37 a9_38 a9_39 a9_40 a9_41 v9_42 a9_43 a9_44 a9_45 a9_46 a9_47 (v9_48 + (1 : Int32)) v9_49 v9_50 v9_51 a9_52 a9_53 v9_54 v9_55 a9_56 a9_57 v9_58 a9_59 a9_60 a9_61)), (a9_4, .inl (cyI, 200, .inl g9_4)), (a9_5, .inl (cyZ, 200, .inl g9_5)), (a9_33, .inl (cyI, 202, .inl g9_33)), (a9_34, .inl (cyI, 202, .inl g9_34)), (a9_43, .inl (cyI, 20010, .inl (upd g9_43 (Int32.toNatClampNeg v9_48) l1))), (a9_44, .inl (cyI, 20010, .inl (upd g9_44 (Int32.toNatClampNeg v9_48) l2))), (a9_45, .inl (cyI, 20010, .inl (upd g9_45 (Int32.toNatClampNeg v9_48) (g9_46 (Int32.toNatClampNeg l1))))), (a9_46, .inl (cyI, 1001, .inl g9_46)), (a9_47, .inl (cyZ, 20010, .inl g9_47)), (a9_53, .inl (cyI, 20010, .inl g9_53)), (a9_57, .inl (cyI, 60600, .inl g9_57))] H := hP
          have hD : va_D A [(o9, .inr (9, x_O9 v9_0 v9_1 v9_2 v9_3 a9_4 a9_5 a9_6 a9_7 a9_8 a9_9 a9_10 a9_11 a9_12 v9_13 v9_14 v9_15 v9_16 v9_17 v9_18 a9_19 v9_20 v9_21 v9_22 a9_23 a9_24 a9_25 a9_26 a9_27 a9_28 a9_29 a9_30 a9_31 a9_32 a9_33 a9_34 v9_35 v9_36 a9_37 a9_38 a9_39 a9_40 a9_41 v9_42 a9_43 a9_44 a9_45 a9_46 a9_47 (v9_48 + (1 : Int32)) v9_49 v9_50 v9_51 a9_52 a9_53 v9_54 v9_55 a9_56 a9_57 v9_58 a9_59 a9_60 a9_61)), (a9_4, .inl (cyI, 200, .inl g9_4)), (a9_5, .inl (cyZ, 200, .inl g9_5)), (a9_33, .inl (cyI, 202, .inl g9_33)), (a9_34, .inl (cyI, 202, .inl g9_34)), (a9_43, .inl (cyI, 20010, .inl (upd g9_43 (Int32.toNatClampNeg v9_48) l1))), (a9_44, .inl (cyI, 20010, .inl (upd g9_44 (Int32.toNatClampNeg v9_48) l2))), (a9_45, .inl (cyI, 20010, .inl (upd g9_45 (Int32.toNatClampNeg v9_48) (g9_46 (Int32.toNatClampNeg l1))))), (a9_46, .inl (cyI, 1001, .inl g9_46)), (a9_47, .inl (cyZ, 20010, .inl g9_47)), (a9_53, .inl (cyI, 20010, .inl g9_53)), (a9_57, .inl (cyI, 60600, .inl g9_57))] := hD
          refine lv_aload_n hx hb dX9_comes_99 rfl (lv_at hl 1 rfl) ?_
          refine va_get (D := (dC, dI)) (ci := 9) (v := .ref a9_46) (C := RX9) (T := TX9) (N := 62) hx hb hts i_X9_comes_X9 hown hK hP 0 rfl rfl 46 (by decide) k_9 (fun _ h9 => h9) rfl dX9_comes_100 ?_
          refine lv_iload_n hx hb dX9_comes_103 rfl (lv_at hl 2 rfl) ?_
          refine lv_iload_n hx hb dX9_comes_104 rfl (lv_at hl 0 rfl) ?_
          obtain ⟨g_14, hf⟩ := x_gu hf
          refine va_iast hx hb hK hP hD hS 8 0 rfl rfl (x_gdin g_14) dX9_comes_105 (fun H locs hP hD hS => ?_)
          have hP : va_P (dC, dI) vwCl [(o9, .inr (9, x_O9 v9_0 v9_1 v9_2 v9_3 a9_4 a9_5 a9_6 a9_7 a9_8 a9_9 a9_10 a9_11 a9_12 v9_13 v9_14 v9_15 v9_16 v9_17 v9_18 a9_19 v9_20 v9_21 v9_22 a9_23 a9_24 a9_25 a9_26 a9_27 a9_28 a9_29 a9_30 a9_31 a9_32 a9_33 a9_34 v9_35 v9_36 a9_37 a9_38 a9_39 a9_40 a9_41 v9_42 a9_43 a9_44 a9_45 a9_46 a9_47 (v9_48 + (1 : Int32)) v9_49 v9_50 v9_51 a9_52 a9_53 v9_54 v9_55 a9_56 a9_57 v9_58 a9_59 a9_60 a9_61)), (a9_4, .inl (cyI, 200, .inl g9_4)), (a9_5, .inl (cyZ, 200, .inl g9_5)), (a9_33, .inl (cyI, 202, .inl g9_33)), (a9_34, .inl (cyI, 202, .inl g9_34)), (a9_43, .inl (cyI, 20010, .inl (upd g9_43 (Int32.toNatClampNeg v9_48) l1))), (a9_44, .inl (cyI, 20010, .inl (upd g9_44 (Int32.toNatClampNeg v9_48) l2))), (a9_45, .inl (cyI, 20010, .inl (upd g9_45 (Int32.toNatClampNeg v9_48) (g9_46 (Int32.toNatClampNeg l1))))), (a9_46, .inl (cyI, 1001, .inl (upd g9_46 (Int32.toNatClampNeg l1) v9_48))), (a9_47, .inl (cyZ, 20010, .inl g9_47)), (a9_53, .inl (cyI, 20010, .inl g9_53)), (a9_57, .inl (cyI, 60600, .inl g9_57))] H := hP
          have hD : va_D A [(o9, .inr (9, x_O9 v9_0 v9_1 v9_2 v9_3 a9_4 a9_5 a9_6 a9_7 a9_8 a9_9 a9_10 a9_11 a9_12 v9_13 v9_14 v9_15 v9_16 v9_17 v9_18 a9_19 v9_20 v9_21 v9_22 a9_23 a9_24 a9_25 a9_26 a9_27 a9_28 a9_29 a9_30 a9_31 a9_32 a9_33 a9_34 v9_35 v9_36 a9_37 a9_38 a9_39 a9_40 a9_41 v9_42 a9_43 a9_44 a9_45 a9_46 a9_47 (v9_48 + (1 : Int32)) v9_49 v9_50 v9_51 a9_52 a9_53 v9_54 v9_55 a9_56 a9_57 v9_58 a9_59 a9_60 a9_61)), (a9_4, .inl (cyI, 200, .inl g9_4)), (a9_5, .inl (cyZ, 200, .inl g9_5)), (a9_33, .inl (cyI, 202, .inl g9_33)), (a9_34, .inl (cyI, 202, .inl g9_34)), (a9_43, .inl (cyI, 20010, .inl (upd g9_43 (Int32.toNatClampNeg v9_48) l1))), (a9_44, .inl (cyI, 20010, .inl (upd g9_44 (Int32.toNatClampNeg v9_48) l2))), (a9_45, .inl (cyI, 20010, .inl (upd g9_45 (Int32.toNatClampNeg v9_48) (g9_46 (Int32.toNatClampNeg l1))))), (a9_46, .inl (cyI, 1001, .inl (upd g9_46 (Int32.toNatClampNeg l1) v9_48))), (a9_47, .inl (cyZ, 20010, .inl g9_47)), (a9_53, .inl (cyI, 20010, .inl g9_53)), (a9_57, .inl (cyI, 60600, .inl g9_57))] := hD
          refine lv_aload_n hx hb dX9_comes_106 rfl (lv_at hl 1 rfl) ?_
          refine va_get (D := (dC, dI)) (ci := 9) (v := .ref a9_47) (C := RX9) (T := TX9) (N := 62) hx hb hts i_X9_comes_X9 hown hK hP 0 rfl rfl 47 (by decide) k_10 (fun _ h9 => h9) rfl dX9_comes_107 ?_
          refine lv_iload_n hx hb dX9_comes_110 rfl (lv_at hl 0 rfl) ?_
          refine lv_iconst (v := 0) hx hb dX9_comes_111 (by decide) ?_
          obtain ⟨g_15, hf⟩ := x_gu hf
          refine va_zast hx hb hK hP hD hS 9 1 rfl rfl (x_gdin g_15) dX9_comes_112 (fun H locs hP hD hS => ?_)
          have hP : va_P (dC, dI) vwCl [(o9, .inr (9, x_O9 v9_0 v9_1 v9_2 v9_3 a9_4 a9_5 a9_6 a9_7 a9_8 a9_9 a9_10 a9_11 a9_12 v9_13 v9_14 v9_15 v9_16 v9_17 v9_18 a9_19 v9_20 v9_21 v9_22 a9_23 a9_24 a9_25 a9_26 a9_27 a9_28 a9_29 a9_30 a9_31 a9_32 a9_33 a9_34 v9_35 v9_36 a9_37 a9_38 a9_39 a9_40 a9_41 v9_42 a9_43 a9_44 a9_45 a9_46 a9_47 (v9_48 + (1 : Int32)) v9_49 v9_50 v9_51 a9_52 a9_53 v9_54 v9_55 a9_56 a9_57 v9_58 a9_59 a9_60 a9_61)), (a9_4, .inl (cyI, 200, .inl g9_4)), (a9_5, .inl (cyZ, 200, .inl g9_5)), (a9_33, .inl (cyI, 202, .inl g9_33)), (a9_34, .inl (cyI, 202, .inl g9_34)), (a9_43, .inl (cyI, 20010, .inl (upd g9_43 (Int32.toNatClampNeg v9_48) l1))), (a9_44, .inl (cyI, 20010, .inl (upd g9_44 (Int32.toNatClampNeg v9_48) l2))), (a9_45, .inl (cyI, 20010, .inl (upd g9_45 (Int32.toNatClampNeg v9_48) (g9_46 (Int32.toNatClampNeg l1))))), (a9_46, .inl (cyI, 1001, .inl (upd g9_46 (Int32.toNatClampNeg l1) v9_48))), (a9_47, .inl (cyZ, 20010, .inl (upd g9_47 (Int32.toNatClampNeg v9_48) (vp_nar .boolean 0)))), (a9_53, .inl (cyI, 20010, .inl g9_53)), (a9_57, .inl (cyI, 60600, .inl g9_57))] H := hP
          have hD : va_D A [(o9, .inr (9, x_O9 v9_0 v9_1 v9_2 v9_3 a9_4 a9_5 a9_6 a9_7 a9_8 a9_9 a9_10 a9_11 a9_12 v9_13 v9_14 v9_15 v9_16 v9_17 v9_18 a9_19 v9_20 v9_21 v9_22 a9_23 a9_24 a9_25 a9_26 a9_27 a9_28 a9_29 a9_30 a9_31 a9_32 a9_33 a9_34 v9_35 v9_36 a9_37 a9_38 a9_39 a9_40 a9_41 v9_42 a9_43 a9_44 a9_45 a9_46 a9_47 (v9_48 + (1 : Int32)) v9_49 v9_50 v9_51 a9_52 a9_53 v9_54 v9_55 a9_56 a9_57 v9_58 a9_59 a9_60 a9_61)), (a9_4, .inl (cyI, 200, .inl g9_4)), (a9_5, .inl (cyZ, 200, .inl g9_5)), (a9_33, .inl (cyI, 202, .inl g9_33)), (a9_34, .inl (cyI, 202, .inl g9_34)), (a9_43, .inl (cyI, 20010, .inl (upd g9_43 (Int32.toNatClampNeg v9_48) l1))), (a9_44, .inl (cyI, 20010, .inl (upd g9_44 (Int32.toNatClampNeg v9_48) l2))), (a9_45, .inl (cyI, 20010, .inl (upd g9_45 (Int32.toNatClampNeg v9_48) (g9_46 (Int32.toNatClampNeg l1))))), (a9_46, .inl (cyI, 1001, .inl (upd g9_46 (Int32.toNatClampNeg l1) v9_48))), (a9_47, .inl (cyZ, 20010, .inl (upd g9_47 (Int32.toNatClampNeg v9_48) (vp_nar .boolean 0)))), (a9_53, .inl (cyI, 20010, .inl g9_53)), (a9_57, .inl (cyI, 60600, .inl g9_57))] := hD
          refine lv_aload_n hx hb dX9_comes_113 rfl (lv_at hl 1 rfl) ?_
          refine lv_iload_n hx hb dX9_comes_114 rfl (lv_at hl 0 rfl) ?_
          refine lv_aload_n hx hb dX9_comes_115 rfl (lv_at hl 1 rfl) ?_
          obtain ⟨r_16, h_16, hf⟩ := x_bi hf
          have hPc := hP.sub (ws' := [(o9, .inr (9, x_O9 v9_0 v9_1 v9_2 v9_3 a9_4 a9_5 a9_6 a9_7 a9_8 a9_9 a9_10 a9_11 a9_12 v9_13 v9_14 v9_15 v9_16 v9_17 v9_18 a9_19 v9_20 v9_21 v9_22 a9_23 a9_24 a9_25 a9_26 a9_27 a9_28 a9_29 a9_30 a9_31 a9_32 a9_33 a9_34 v9_35 v9_36 a9_37 a9_38 a9_39 a9_40 a9_41 v9_42 a9_43 a9_44 a9_45 a9_46 a9_47 (v9_48 + (1 : Int32)) v9_49 v9_50 v9_51 a9_52 a9_53 v9_54 v9_55 a9_56 a9_57 v9_58 a9_59 a9_60 a9_61))]) [0] rfl
          refine va_calli (va_runV (As := []) (rest := [.int v9_48, .ref o9]) ⟨hx, hb, hml, hown, hts⟩ (c_X9_size l dC dI cyI cyZ cyJ H.size o9 v9_0 v9_1 v9_2 v9_3 a9_4 a9_5 a9_6 a9_7 a9_8 a9_9 a9_10 a9_11 a9_12 v9_13 v9_14 v9_15 v9_16 v9_17 v9_18 a9_19 v9_20 v9_21 v9_22 a9_23 a9_24 a9_25 a9_26 a9_27 a9_28 a9_29 a9_30 a9_31 a9_32 a9_33 a9_34 v9_35 v9_36 a9_37 a9_38 a9_39 a9_40 a9_41 v9_42 a9_43 a9_44 a9_45 a9_46 a9_47 (v9_48 + (1 : Int32)) v9_49 v9_50 v9_51 a9_52 a9_53 v9_54 v9_55 a9_56 a9_57 v9_58 a9_59 a9_60 a9_61 r_16 h_16) (cwV 0 hts gX9_comes_X9_size rfl rfl rfl (by decide +kernel) ⟨Nat.le_of_ble_eq_true rfl, Nat.le_of_ble_eq_true rfl⟩) (x_pV hN hK hPc (ci := 9) (q0 := 0) rfl rfl) rfl rfl hl.1 rfl (lv_room (Nat.le_of_ble_eq_true rfl)) dX9_comes_116 ⟨Nat.le_of_ble_eq_true rfl, Nat.le_of_ble_eq_true rfl⟩) hS x_nA (x_nf hA hS) (fun q_16 u t H1 locs ht hvm hw hB hz1 hk1 hS => ?_)
          have hP := x_kp hP hk1
          clear ht hvm hB hz1 hk1 t u hPc
          generalize H1 = H at hP hS ⊢
          obtain rfl := hw.symm
          refine lv_imul hx hb dX9_comes_119 ?_
          obtain ⟨r_17, h_17, hf⟩ := x_bi hf
          have hPc := hP.sub (ws' := [(o9, .inr (9, x_O9 v9_0 v9_1 v9_2 v9_3 a9_4 a9_5 a9_6 a9_7 a9_8 a9_9 a9_10 a9_11 a9_12 v9_13 v9_14 v9_15 v9_16 v9_17 v9_18 a9_19 v9_20 v9_21 v9_22 a9_23 a9_24 a9_25 a9_26 a9_27 a9_28 a9_29 a9_30 a9_31 a9_32 a9_33 a9_34 v9_35 v9_36 a9_37 a9_38 a9_39 a9_40 a9_41 v9_42 a9_43 a9_44 a9_45 a9_46 a9_47 (v9_48 + (1 : Int32)) v9_49 v9_50 v9_51 a9_52 a9_53 v9_54 v9_55 a9_56 a9_57 v9_58 a9_59 a9_60 a9_61)), (a9_33, .inl (cyI, 202, .inl g9_33)), (a9_34, .inl (cyI, 202, .inl g9_34)), (a9_57, .inl (cyI, 60600, .inl g9_57))]) [0, 3, 4, 11] rfl
          have hDc := hD.sub (ws' := [(o9, .inr (9, x_O9 v9_0 v9_1 v9_2 v9_3 a9_4 a9_5 a9_6 a9_7 a9_8 a9_9 a9_10 a9_11 a9_12 v9_13 v9_14 v9_15 v9_16 v9_17 v9_18 a9_19 v9_20 v9_21 v9_22 a9_23 a9_24 a9_25 a9_26 a9_27 a9_28 a9_29 a9_30 a9_31 a9_32 a9_33 a9_34 v9_35 v9_36 a9_37 a9_38 a9_39 a9_40 a9_41 v9_42 a9_43 a9_44 a9_45 a9_46 a9_47 (v9_48 + (1 : Int32)) v9_49 v9_50 v9_51 a9_52 a9_53 v9_54 v9_55 a9_56 a9_57 v9_58 a9_59 a9_60 a9_61)), (a9_33, .inl (cyI, 202, .inl g9_33)), (a9_34, .inl (cyI, 202, .inl g9_34)), (a9_57, .inl (cyI, 60600, .inl g9_57))]) [0, 3, 4, 11] (by decide) rfl
          have hFc := va_free (wc := [(o9, .inr (9, x_O9 v9_0 v9_1 v9_2 v9_3 a9_4 a9_5 a9_6 a9_7 a9_8 a9_9 a9_10 a9_11 a9_12 v9_13 v9_14 v9_15 v9_16 v9_17 v9_18 a9_19 v9_20 v9_21 v9_22 a9_23 a9_24 a9_25 a9_26 a9_27 a9_28 a9_29 a9_30 a9_31 a9_32 a9_33 a9_34 v9_35 v9_36 a9_37 a9_38 a9_39 a9_40 a9_41 v9_42 a9_43 a9_44 a9_45 a9_46 a9_47 (v9_48 + (1 : Int32)) v9_49 v9_50 v9_51 a9_52 a9_53 v9_54 v9_55 a9_56 a9_57 v9_58 a9_59 a9_60 a9_61)), (a9_33, .inl (cyI, 202, .inl g9_33)), (a9_34, .inl (cyI, 202, .inl g9_34)), (a9_57, .inl (cyI, 60600, .inl g9_57))]) hD hS hA [0, 3, 4, 11] rfl
          refine va_callv (va_runV (As := [.int (v9_48 * r_16)]) (rest := []) ⟨hx, hb, hml, hown, hts⟩ (c_X9_keep l dC dI cyI cyZ cyJ H.size o9 v9_0 v9_1 v9_2 v9_3 a9_4 a9_5 a9_6 a9_7 a9_8 a9_9 a9_10 a9_11 a9_12 v9_13 v9_14 v9_15 v9_16 v9_17 v9_18 a9_19 v9_20 v9_21 v9_22 a9_23 a9_24 a9_25 a9_26 a9_27 a9_28 a9_29 a9_30 a9_31 a9_32 a9_33 a9_34 v9_35 v9_36 a9_37 a9_38 a9_39 a9_40 a9_41 v9_42 a9_43 a9_44 a9_45 a9_46 a9_47 (v9_48 + (1 : Int32)) v9_49 v9_50 v9_51 a9_52 a9_53 v9_54 v9_55 a9_56 a9_57 v9_58 a9_59 a9_60 a9_61 g9_33 g9_34 g9_57 (v9_48 * r_16) r_17 h_17) (cwV 1 hts gX9_comes_X9_keep rfl rfl rfl (by decide +kernel) ⟨Nat.le_of_ble_eq_true rfl, Nat.le_of_ble_eq_true rfl⟩) (x_pVD hN hK hPc hDc (ci := 9) (q0 := 0) rfl rfl) rfl rfl hl.1 rfl (lv_room (Nat.le_of_ble_eq_true rfl)) dX9_comes_120 ⟨Nat.le_of_ble_eq_true rfl, Nat.le_of_ble_eq_true rfl⟩) hS (fun q _ h => hFc q h) hFc (fun u t H1 locs ht hvm hw hB hz1 hk1 hS => ?_)
          obtain ⟨hP1, hK1, hD1⟩ := hB
          rw [ht] at hP1
          obtain ⟨hP, hD⟩ := va_join (wr := [(a9_4, .inl (cyI, 200, .inl g9_4)), (a9_5, .inl (cyZ, 200, .inl g9_5)), (a9_43, .inl (cyI, 20010, .inl (upd g9_43 (Int32.toNatClampNeg v9_48) l1))), (a9_44, .inl (cyI, 20010, .inl (upd g9_44 (Int32.toNatClampNeg v9_48) l2))), (a9_45, .inl (cyI, 20010, .inl (upd g9_45 (Int32.toNatClampNeg v9_48) (g9_46 (Int32.toNatClampNeg l1))))), (a9_46, .inl (cyI, 1001, .inl (upd g9_46 (Int32.toNatClampNeg l1) v9_48))), (a9_47, .inl (cyZ, 20010, .inl (upd g9_47 (Int32.toNatClampNeg v9_48) (vp_nar .boolean 0)))), (a9_53, .inl (cyI, 20010, .inl g9_53))]) (w1 := [(o9, .inr (9, x_O9 v9_0 v9_1 v9_2 v9_3 a9_4 a9_5 a9_6 a9_7 a9_8 a9_9 a9_10 a9_11 a9_12 v9_13 v9_14 v9_15 v9_16 v9_17 v9_18 a9_19 v9_20 v9_21 v9_22 a9_23 a9_24 a9_25 a9_26 a9_27 a9_28 a9_29 a9_30 a9_31 a9_32 a9_33 a9_34 v9_35 v9_36 a9_37 a9_38 a9_39 a9_40 a9_41 v9_42 a9_43 a9_44 a9_45 a9_46 a9_47 (v9_48 + (1 : Int32)) v9_49 v9_50 v9_51 a9_52 a9_53 v9_54 v9_55 a9_56 a9_57 v9_58 a9_59 a9_60 a9_61)), (a9_33, .inl (cyI, 202, .inl g9_33)), (a9_34, .inl (cyI, 202, .inl g9_34)), (a9_57, .inl (cyI, 60600, .inl r_17))]) hP hD [0, 3, 4, 11] [1, 2, 5, 6, 7, 8, 9, 10] rfl rfl (by decide) (by decide) hk1 hFc hP1 hD1
          clear hz1 hk1 hPc hDc hFc hP1 hK1 hD1 ht hvm t u
          generalize H1 = H at hP hS ⊢
          have hP : va_P (dC, dI) vwCl [(a9_4, .inl (cyI, 200, .inl g9_4)), (a9_5, .inl (cyZ, 200, .inl g9_5)), (a9_43, .inl (cyI, 20010, .inl (upd g9_43 (Int32.toNatClampNeg v9_48) l1))), (a9_44, .inl (cyI, 20010, .inl (upd g9_44 (Int32.toNatClampNeg v9_48) l2))), (a9_45, .inl (cyI, 20010, .inl (upd g9_45 (Int32.toNatClampNeg v9_48) (g9_46 (Int32.toNatClampNeg l1))))), (a9_46, .inl (cyI, 1001, .inl (upd g9_46 (Int32.toNatClampNeg l1) v9_48))), (a9_47, .inl (cyZ, 20010, .inl (upd g9_47 (Int32.toNatClampNeg v9_48) (vp_nar .boolean 0)))), (a9_53, .inl (cyI, 20010, .inl g9_53)), (o9, .inr (9, x_O9 v9_0 v9_1 v9_2 v9_3 a9_4 a9_5 a9_6 a9_7 a9_8 a9_9 a9_10 a9_11 a9_12 v9_13 v9_14 v9_15 v9_16 v9_17 v9_18 a9_19 v9_20 v9_21 v9_22 a9_23 a9_24 a9_25 a9_26 a9_27 a9_28 a9_29 a9_30 a9_31 a9_32 a9_33 a9_34 v9_35 v9_36 a9_37 a9_38 a9_39 a9_40 a9_41 v9_42 a9_43 a9_44 a9_45 a9_46 a9_47 (v9_48 + (1 : Int32)) v9_49 v9_50 v9_51 a9_52 a9_53 v9_54 v9_55 a9_56 a9_57 v9_58 a9_59 a9_60 a9_61)), (a9_33, .inl (cyI, 202, .inl g9_33)), (a9_34, .inl (cyI, 202, .inl g9_34)), (a9_57, .inl (cyI, 60600, .inl r_17))] H := hP
          have hD : va_D A [(a9_4, .inl (cyI, 200, .inl g9_4)), (a9_5, .inl (cyZ, 200, .inl g9_5)), (a9_43, .inl (cyI, 20010, .inl (upd g9_43 (Int32.toNatClampNeg v9_48) l1))), (a9_44, .inl (cyI, 20010, .inl (upd g9_44 (Int32.toNatClampNeg v9_48) l2))), (a9_45, .inl (cyI, 20010, .inl (upd g9_45 (Int32.toNatClampNeg v9_48) (g9_46 (Int32.toNatClampNeg l1))))), (a9_46, .inl (cyI, 1001, .inl (upd g9_46 (Int32.toNatClampNeg l1) v9_48))), (a9_47, .inl (cyZ, 20010, .inl (upd g9_47 (Int32.toNatClampNeg v9_48) (vp_nar .boolean 0)))), (a9_53, .inl (cyI, 20010, .inl g9_53)), (o9, .inr (9, x_O9 v9_0 v9_1 v9_2 v9_3 a9_4 a9_5 a9_6 a9_7 a9_8 a9_9 a9_10 a9_11 a9_12 v9_13 v9_14 v9_15 v9_16 v9_17 v9_18 a9_19 v9_20 v9_21 v9_22 a9_23 a9_24 a9_25 a9_26 a9_27 a9_28 a9_29 a9_30 a9_31 a9_32 a9_33 a9_34 v9_35 v9_36 a9_37 a9_38 a9_39 a9_40 a9_41 v9_42 a9_43 a9_44 a9_45 a9_46 a9_47 (v9_48 + (1 : Int32)) v9_49 v9_50 v9_51 a9_52 a9_53 v9_54 v9_55 a9_56 a9_57 v9_58 a9_59 a9_60 a9_61)), (a9_33, .inl (cyI, 202, .inl g9_33)), (a9_34, .inl (cyI, 202, .inl g9_34)), (a9_57, .inl (cyI, 60600, .inl r_17))] := hD
          refine lv_aload_n hx hb dX9_comes_123 rfl (lv_at hl 1 rfl) ?_
          refine lv_iload_n hx hb dX9_comes_124 rfl (lv_at hl 0 rfl) ?_
          obtain ⟨r_18, h_18, hf⟩ := x_bi hf
          have hPc := hP.sub (ws' := [(o9, .inr (9, x_O9 v9_0 v9_1 v9_2 v9_3 a9_4 a9_5 a9_6 a9_7 a9_8 a9_9 a9_10 a9_11 a9_12 v9_13 v9_14 v9_15 v9_16 v9_17 v9_18 a9_19 v9_20 v9_21 v9_22 a9_23 a9_24 a9_25 a9_26 a9_27 a9_28 a9_29 a9_30 a9_31 a9_32 a9_33 a9_34 v9_35 v9_36 a9_37 a9_38 a9_39 a9_40 a9_41 v9_42 a9_43 a9_44 a9_45 a9_46 a9_47 (v9_48 + (1 : Int32)) v9_49 v9_50 v9_51 a9_52 a9_53 v9_54 v9_55 a9_56 a9_57 v9_58 a9_59 a9_60 a9_61)), (a9_47, .inl (cyZ, 20010, .inl (upd g9_47 (Int32.toNatClampNeg v9_48) (vp_nar .boolean 0)))), (a9_53, .inl (cyI, 20010, .inl g9_53))]) [8, 6, 7] rfl
          have hDc := hD.sub (ws' := [(o9, .inr (9, x_O9 v9_0 v9_1 v9_2 v9_3 a9_4 a9_5 a9_6 a9_7 a9_8 a9_9 a9_10 a9_11 a9_12 v9_13 v9_14 v9_15 v9_16 v9_17 v9_18 a9_19 v9_20 v9_21 v9_22 a9_23 a9_24 a9_25 a9_26 a9_27 a9_28 a9_29 a9_30 a9_31 a9_32 a9_33 a9_34 v9_35 v9_36 a9_37 a9_38 a9_39 a9_40 a9_41 v9_42 a9_43 a9_44 a9_45 a9_46 a9_47 (v9_48 + (1 : Int32)) v9_49 v9_50 v9_51 a9_52 a9_53 v9_54 v9_55 a9_56 a9_57 v9_58 a9_59 a9_60 a9_61)), (a9_47, .inl (cyZ, 20010, .inl (upd g9_47 (Int32.toNatClampNeg v9_48) (vp_nar .boolean 0)))), (a9_53, .inl (cyI, 20010, .inl g9_53))]) [8, 6, 7] (by decide) rfl
          have hFc := va_free (wc := [(o9, .inr (9, x_O9 v9_0 v9_1 v9_2 v9_3 a9_4 a9_5 a9_6 a9_7 a9_8 a9_9 a9_10 a9_11 a9_12 v9_13 v9_14 v9_15 v9_16 v9_17 v9_18 a9_19 v9_20 v9_21 v9_22 a9_23 a9_24 a9_25 a9_26 a9_27 a9_28 a9_29 a9_30 a9_31 a9_32 a9_33 a9_34 v9_35 v9_36 a9_37 a9_38 a9_39 a9_40 a9_41 v9_42 a9_43 a9_44 a9_45 a9_46 a9_47 (v9_48 + (1 : Int32)) v9_49 v9_50 v9_51 a9_52 a9_53 v9_54 v9_55 a9_56 a9_57 v9_58 a9_59 a9_60 a9_61)), (a9_47, .inl (cyZ, 20010, .inl (upd g9_47 (Int32.toNatClampNeg v9_48) (vp_nar .boolean 0)))), (a9_53, .inl (cyI, 20010, .inl g9_53))]) hD hS hA [8, 6, 7] rfl
          refine va_callv (va_runV (As := [.int v9_48]) (rest := []) ⟨hx, hb, hml, hown, hts⟩ (c_X9_waits l dC dI cyI cyZ cyJ H.size o9 v9_0 v9_1 v9_2 v9_3 a9_4 a9_5 a9_6 a9_7 a9_8 a9_9 a9_10 a9_11 a9_12 v9_13 v9_14 v9_15 v9_16 v9_17 v9_18 a9_19 v9_20 v9_21 v9_22 a9_23 a9_24 a9_25 a9_26 a9_27 a9_28 a9_29 a9_30 a9_31 a9_32 a9_33 a9_34 v9_35 v9_36 a9_37 a9_38 a9_39 a9_40 a9_41 v9_42 a9_43 a9_44 a9_45 a9_46 a9_47 (v9_48 + (1 : Int32)) v9_49 v9_50 v9_51 a9_52 a9_53 v9_54 v9_55 a9_56 a9_57 v9_58 a9_59 a9_60 a9_61 (upd g9_47 (Int32.toNatClampNeg v9_48) (vp_nar .boolean 0)) g9_53 v9_48 r_18 h_18) (cwV 1 hts gX9_comes_X9_waits rfl rfl rfl (by decide +kernel) ⟨Nat.le_of_ble_eq_true rfl, Nat.le_of_ble_eq_true rfl⟩) (x_pVD hN hK hPc hDc (ci := 9) (q0 := 0) rfl rfl) rfl rfl hl.1 rfl (lv_room (Nat.le_of_ble_eq_true rfl)) dX9_comes_125 ⟨Nat.le_of_ble_eq_true rfl, Nat.le_of_ble_eq_true rfl⟩) hS (fun q _ h => hFc q h) hFc (fun u t H1 locs ht hvm hw hB hz1 hk1 hS => ?_)
          obtain ⟨hP1, hK1, hD1⟩ := hB
          rw [ht] at hP1
          obtain ⟨hP, hD⟩ := va_join (wr := [(a9_4, .inl (cyI, 200, .inl g9_4)), (a9_5, .inl (cyZ, 200, .inl g9_5)), (a9_43, .inl (cyI, 20010, .inl (upd g9_43 (Int32.toNatClampNeg v9_48) l1))), (a9_44, .inl (cyI, 20010, .inl (upd g9_44 (Int32.toNatClampNeg v9_48) l2))), (a9_45, .inl (cyI, 20010, .inl (upd g9_45 (Int32.toNatClampNeg v9_48) (g9_46 (Int32.toNatClampNeg l1))))), (a9_46, .inl (cyI, 1001, .inl (upd g9_46 (Int32.toNatClampNeg l1) v9_48))), (a9_33, .inl (cyI, 202, .inl g9_33)), (a9_34, .inl (cyI, 202, .inl g9_34)), (a9_57, .inl (cyI, 60600, .inl r_17))]) (w1 := [(o9, .inr (9, x_O9 v9_0 v9_1 v9_2 v9_3 a9_4 a9_5 a9_6 a9_7 a9_8 a9_9 a9_10 a9_11 a9_12 v9_13 v9_14 v9_15 v9_16 v9_17 v9_18 a9_19 v9_20 v9_21 v9_22 a9_23 a9_24 a9_25 a9_26 a9_27 a9_28 a9_29 a9_30 a9_31 a9_32 a9_33 a9_34 v9_35 v9_36 a9_37 a9_38 a9_39 a9_40 a9_41 v9_42 a9_43 a9_44 a9_45 a9_46 a9_47 (v9_48 + (1 : Int32)) v9_49 v9_50 v9_51 a9_52 a9_53 v9_54 (r_18.1) a9_56 a9_57 v9_58 a9_59 a9_60 a9_61)), (a9_47, .inl (cyZ, 20010, .inl r_18.2.1)), (a9_53, .inl (cyI, 20010, .inl r_18.2.2))]) hP hD [8, 6, 7] [0, 1, 2, 3, 4, 5, 9, 10, 11] rfl rfl (by decide) (by decide) hk1 hFc hP1 hD1
          clear hz1 hk1 hPc hDc hFc hP1 hK1 hD1 ht hvm t u
          generalize H1 = H at hP hS ⊢
          have hP : va_P (dC, dI) vwCl [(a9_4, .inl (cyI, 200, .inl g9_4)), (a9_5, .inl (cyZ, 200, .inl g9_5)), (a9_43, .inl (cyI, 20010, .inl (upd g9_43 (Int32.toNatClampNeg v9_48) l1))), (a9_44, .inl (cyI, 20010, .inl (upd g9_44 (Int32.toNatClampNeg v9_48) l2))), (a9_45, .inl (cyI, 20010, .inl (upd g9_45 (Int32.toNatClampNeg v9_48) (g9_46 (Int32.toNatClampNeg l1))))), (a9_46, .inl (cyI, 1001, .inl (upd g9_46 (Int32.toNatClampNeg l1) v9_48))), (a9_33, .inl (cyI, 202, .inl g9_33)), (a9_34, .inl (cyI, 202, .inl g9_34)), (a9_57, .inl (cyI, 60600, .inl r_17)), (o9, .inr (9, x_O9 v9_0 v9_1 v9_2 v9_3 a9_4 a9_5 a9_6 a9_7 a9_8 a9_9 a9_10 a9_11 a9_12 v9_13 v9_14 v9_15 v9_16 v9_17 v9_18 a9_19 v9_20 v9_21 v9_22 a9_23 a9_24 a9_25 a9_26 a9_27 a9_28 a9_29 a9_30 a9_31 a9_32 a9_33 a9_34 v9_35 v9_36 a9_37 a9_38 a9_39 a9_40 a9_41 v9_42 a9_43 a9_44 a9_45 a9_46 a9_47 (v9_48 + (1 : Int32)) v9_49 v9_50 v9_51 a9_52 a9_53 v9_54 (r_18.1) a9_56 a9_57 v9_58 a9_59 a9_60 a9_61)), (a9_47, .inl (cyZ, 20010, .inl r_18.2.1)), (a9_53, .inl (cyI, 20010, .inl r_18.2.2))] H := hP
          have hD : va_D A [(a9_4, .inl (cyI, 200, .inl g9_4)), (a9_5, .inl (cyZ, 200, .inl g9_5)), (a9_43, .inl (cyI, 20010, .inl (upd g9_43 (Int32.toNatClampNeg v9_48) l1))), (a9_44, .inl (cyI, 20010, .inl (upd g9_44 (Int32.toNatClampNeg v9_48) l2))), (a9_45, .inl (cyI, 20010, .inl (upd g9_45 (Int32.toNatClampNeg v9_48) (g9_46 (Int32.toNatClampNeg l1))))), (a9_46, .inl (cyI, 1001, .inl (upd g9_46 (Int32.toNatClampNeg l1) v9_48))), (a9_33, .inl (cyI, 202, .inl g9_33)), (a9_34, .inl (cyI, 202, .inl g9_34)), (a9_57, .inl (cyI, 60600, .inl r_17)), (o9, .inr (9, x_O9 v9_0 v9_1 v9_2 v9_3 a9_4 a9_5 a9_6 a9_7 a9_8 a9_9 a9_10 a9_11 a9_12 v9_13 v9_14 v9_15 v9_16 v9_17 v9_18 a9_19 v9_20 v9_21 v9_22 a9_23 a9_24 a9_25 a9_26 a9_27 a9_28 a9_29 a9_30 a9_31 a9_32 a9_33 a9_34 v9_35 v9_36 a9_37 a9_38 a9_39 a9_40 a9_41 v9_42 a9_43 a9_44 a9_45 a9_46 a9_47 (v9_48 + (1 : Int32)) v9_49 v9_50 v9_51 a9_52 a9_53 v9_54 (r_18.1) a9_56 a9_57 v9_58 a9_59 a9_60 a9_61)), (a9_47, .inl (cyZ, 20010, .inl r_18.2.1)), (a9_53, .inl (cyI, 20010, .inl r_18.2.2))] := hD
          refine lv_iconst (v := 1) hx hb dX9_comes_128 (by decide) ?_
          obtain rfl := Option.some.inj hf
          have hP9 := hP.sub (ws' := [(o9, .inr (9, x_O9 v9_0 v9_1 v9_2 v9_3 a9_4 a9_5 a9_6 a9_7 a9_8 a9_9 a9_10 a9_11 a9_12 v9_13 v9_14 v9_15 v9_16 v9_17 v9_18 a9_19 v9_20 v9_21 v9_22 a9_23 a9_24 a9_25 a9_26 a9_27 a9_28 a9_29 a9_30 a9_31 a9_32 a9_33 a9_34 v9_35 v9_36 a9_37 a9_38 a9_39 a9_40 a9_41 v9_42 a9_43 a9_44 a9_45 a9_46 a9_47 (v9_48 + (1 : Int32)) v9_49 v9_50 v9_51 a9_52 a9_53 v9_54 (r_18.1) a9_56 a9_57 v9_58 a9_59 a9_60 a9_61)), (a9_4, .inl (cyI, 200, .inl g9_4)), (a9_5, .inl (cyZ, 200, .inl g9_5)), (a9_33, .inl (cyI, 202, .inl g9_33)), (a9_34, .inl (cyI, 202, .inl g9_34)), (a9_43, .inl (cyI, 20010, .inl (upd g9_43 (Int32.toNatClampNeg v9_48) l1))), (a9_44, .inl (cyI, 20010, .inl (upd g9_44 (Int32.toNatClampNeg v9_48) l2))), (a9_45, .inl (cyI, 20010, .inl (upd g9_45 (Int32.toNatClampNeg v9_48) (g9_46 (Int32.toNatClampNeg l1))))), (a9_46, .inl (cyI, 1001, .inl (upd g9_46 (Int32.toNatClampNeg l1) v9_48))), (a9_47, .inl (cyZ, 20010, .inl r_18.2.1)), (a9_53, .inl (cyI, 20010, .inl r_18.2.2)), (a9_57, .inl (cyI, 60600, .inl r_17))]) [9, 0, 1, 6, 7, 2, 3, 4, 5, 10, 11, 8] rfl
          have hD9 := hD.sub (ws' := [(o9, .inr (9, x_O9 v9_0 v9_1 v9_2 v9_3 a9_4 a9_5 a9_6 a9_7 a9_8 a9_9 a9_10 a9_11 a9_12 v9_13 v9_14 v9_15 v9_16 v9_17 v9_18 a9_19 v9_20 v9_21 v9_22 a9_23 a9_24 a9_25 a9_26 a9_27 a9_28 a9_29 a9_30 a9_31 a9_32 a9_33 a9_34 v9_35 v9_36 a9_37 a9_38 a9_39 a9_40 a9_41 v9_42 a9_43 a9_44 a9_45 a9_46 a9_47 (v9_48 + (1 : Int32)) v9_49 v9_50 v9_51 a9_52 a9_53 v9_54 (r_18.1) a9_56 a9_57 v9_58 a9_59 a9_60 a9_61)), (a9_4, .inl (cyI, 200, .inl g9_4)), (a9_5, .inl (cyZ, 200, .inl g9_5)), (a9_33, .inl (cyI, 202, .inl g9_33)), (a9_34, .inl (cyI, 202, .inl g9_34)), (a9_43, .inl (cyI, 20010, .inl (upd g9_43 (Int32.toNatClampNeg v9_48) l1))), (a9_44, .inl (cyI, 20010, .inl (upd g9_44 (Int32.toNatClampNeg v9_48) l2))), (a9_45, .inl (cyI, 20010, .inl (upd g9_45 (Int32.toNatClampNeg v9_48) (g9_46 (Int32.toNatClampNeg l1))))), (a9_46, .inl (cyI, 1001, .inl (upd g9_46 (Int32.toNatClampNeg l1) v9_48))), (a9_47, .inl (cyZ, 20010, .inl r_18.2.1)), (a9_53, .inl (cyI, 20010, .inl r_18.2.2)), (a9_57, .inl (cyI, 60600, .inl r_17))]) [9, 0, 1, 6, 7, 2, 3, 4, 5, 10, 11, 8] (by decide) rfl
          exact W.zret (ty := .boolean) hx hb hr rfl (fun t ht hW => ⟨⟨_, (), rfl, ⟨rfl, rfl⟩, by rw [ht]; exact hP9, va_K.moved hW.alike hK, hD9⟩, hS.F ht⟩) hS.2.2 dX9_comes_129
        · replace hf := x_in c_9 hf
          refine lv_iconst (v := 0) hx hb dX9_comes_59 (by decide) ?_
          obtain rfl := Option.some.inj hf
          have hP9 := hP.sub (ws' := [(o9, .inr (9, x_O9 v9_0 v9_1 v9_2 v9_3 a9_4 a9_5 a9_6 a9_7 a9_8 a9_9 a9_10 a9_11 a9_12 v9_13 v9_14 v9_15 v9_16 v9_17 v9_18 a9_19 v9_20 v9_21 v9_22 a9_23 a9_24 a9_25 a9_26 a9_27 a9_28 a9_29 a9_30 a9_31 a9_32 a9_33 a9_34 v9_35 v9_36 a9_37 a9_38 a9_39 a9_40 a9_41 v9_42 a9_43 a9_44 a9_45 a9_46 a9_47 v9_48 v9_49 v9_50 v9_51 a9_52 a9_53 v9_54 v9_55 a9_56 a9_57 v9_58 a9_59 a9_60 a9_61)), (a9_4, .inl (cyI, 200, .inl g9_4)), (a9_5, .inl (cyZ, 200, .inl g9_5)), (a9_33, .inl (cyI, 202, .inl g9_33)), (a9_34, .inl (cyI, 202, .inl g9_34)), (a9_43, .inl (cyI, 20010, .inl g9_43)), (a9_44, .inl (cyI, 20010, .inl g9_44)), (a9_45, .inl (cyI, 20010, .inl g9_45)), (a9_46, .inl (cyI, 1001, .inl g9_46)), (a9_47, .inl (cyZ, 20010, .inl g9_47)), (a9_53, .inl (cyI, 20010, .inl g9_53)), (a9_57, .inl (cyI, 60600, .inl g9_57))]) [0, 1, 2, 3, 4, 5, 6, 7, 8, 9, 10, 11] rfl
          have hD9 := hD.sub (ws' := [(o9, .inr (9, x_O9 v9_0 v9_1 v9_2 v9_3 a9_4 a9_5 a9_6 a9_7 a9_8 a9_9 a9_10 a9_11 a9_12 v9_13 v9_14 v9_15 v9_16 v9_17 v9_18 a9_19 v9_20 v9_21 v9_22 a9_23 a9_24 a9_25 a9_26 a9_27 a9_28 a9_29 a9_30 a9_31 a9_32 a9_33 a9_34 v9_35 v9_36 a9_37 a9_38 a9_39 a9_40 a9_41 v9_42 a9_43 a9_44 a9_45 a9_46 a9_47 v9_48 v9_49 v9_50 v9_51 a9_52 a9_53 v9_54 v9_55 a9_56 a9_57 v9_58 a9_59 a9_60 a9_61)), (a9_4, .inl (cyI, 200, .inl g9_4)), (a9_5, .inl (cyZ, 200, .inl g9_5)), (a9_33, .inl (cyI, 202, .inl g9_33)), (a9_34, .inl (cyI, 202, .inl g9_34)), (a9_43, .inl (cyI, 20010, .inl g9_43)), (a9_44, .inl (cyI, 20010, .inl g9_44)), (a9_45, .inl (cyI, 20010, .inl g9_45)), (a9_46, .inl (cyI, 1001, .inl g9_46)), (a9_47, .inl (cyZ, 20010, .inl g9_47)), (a9_53, .inl (cyI, 20010, .inl g9_53)), (a9_57, .inl (cyI, 60600, .inl g9_57))]) [0, 1, 2, 3, 4, 5, 6, 7, 8, 9, 10, 11] (by decide) rfl
          exact W.zret (ty := .boolean) hx hb hr rfl (fun t ht hW => ⟨⟨_, (), rfl, ⟨rfl, rfl⟩, by rw [ht]; exact hP9, va_K.moved hW.alike hK, hD9⟩, hS.F ht⟩) hS.2.2 dX9_comes_60
    · intro hq H locs ls hP hD hS hl
      subst hq
      refine (hWW _ _ _ _ _).mp ?_
      replace hf := x_ip rfl (x_in (by decide) (x_in (by decide) hf))
      refine lv_iload hx hb dX9_comes_170 (lv_at hl 4 rfl) ?_
      refine lv_aload_n hx hb dX9_comes_172 rfl (lv_at hl 0 rfl) ?_
      refine va_get (D := (dC, dI)) (ci := 9) (v := .int v9_16) (C := RX9) (T := TX9) (N := 62) hx hb hts i_X9_comes_X9 hown hK hP 0 rfl rfl 16 (by decide) k_4 (fun _ h9 => h9) rfl dX9_comes_173 ?_
      refine lv_icmp_ge (tgt := 246) hx hb dX9_comes_176 (by decide) (fun c_19 => ?_) (fun c_19 => ?_)
      · replace hf := x_ip c_19 hf
        refine lv_iconst (v := 0) hx hb dX9_comes_246 (by decide) ?_
        refine lv_istore (lv' := [(6, .int 0), (0, .ref o9), (3, .int l3), (4, .int l4), (5, .int l5)]) hx hb dX9_comes_247 hl (by decide) rfl (fun ls hl => ?_)
        exact (hWW _ _ _ _ _).mpr ((ih (5, 0, 0, l3, l4, l5, 0, 0, 0, g9_57) _ hf rfl _ _ _ _ _ _ _ _ _ _ rfl).2.2.2.2.2.1 rfl H locs ls hP hD hS (lv_sub hl [1, 2, 3, 4, 0] rfl))
      · replace hf := x_in c_19 hf
        refine lv_aload_n hx hb dX9_comes_179 rfl (lv_at hl 0 rfl) ?_
        refine lv_aload_n hx hb dX9_comes_180 rfl (lv_at hl 0 rfl) ?_
        refine va_get (D := (dC, dI)) (ci := 9) (v := .ref a9_57) (C := RX9) (T := TX9) (N := 62) hx hb hts i_X9_comes_X9 hown hK hP 0 rfl rfl 57 (by decide) k_3 (fun _ h9 => h9) rfl dX9_comes_181 ?_
        refine lv_iload hx hb dX9_comes_184 (lv_at hl 2 rfl) ?_
        refine lv_iload hx hb dX9_comes_186 (lv_at hl 4 rfl) ?_
        refine lv_iadd hx hb dX9_comes_188 ?_
        obtain ⟨g_20, hf⟩ := x_gu hf
        refine va_iald hx hb hK hP 11 0 rfl rfl (x_gdin g_20) dX9_comes_189 ?_
        refine lv_aload_n hx hb dX9_comes_190 rfl (lv_at hl 0 rfl) ?_
        refine va_get (D := (dC, dI)) (ci := 9) (v := .ref a9_33) (C := RX9) (T := TX9) (N := 62) hx hb hts i_X9_comes_X9 hown hK hP 0 rfl rfl 33 (by decide) k_11 (fun _ h9 => h9) rfl dX9_comes_191 ?_
        refine lv_iload hx hb dX9_comes_194 (lv_at hl 4 rfl) ?_
        obtain ⟨g_21, hf⟩ := x_gu hf
        refine va_iald hx hb hK hP 3 0 rfl rfl (x_gdin g_21) dX9_comes_196 ?_
        obtain ⟨r_22, h_22, hf⟩ := x_bi hf
        have hPc := hP.sub (ws' := [(o9, .inr (9, x_O9 v9_0 v9_1 v9_2 v9_3 a9_4 a9_5 a9_6 a9_7 a9_8 a9_9 a9_10 a9_11 a9_12 v9_13 v9_14 v9_15 v9_16 v9_17 v9_18 a9_19 v9_20 v9_21 v9_22 a9_23 a9_24 a9_25 a9_26 a9_27 a9_28 a9_29 a9_30 a9_31 a9_32 a9_33 a9_34 v9_35 v9_36 a9_37 a9_38 a9_39 a9_40 a9_41 v9_42 a9_43 a9_44 a9_45 a9_46 a9_47 v9_48 v9_49 v9_50 v9_51 a9_52 a9_53 v9_54 v9_55 a9_56 a9_57 v9_58 a9_59 a9_60 a9_61)), (a9_4, .inl (cyI, 200, .inl g9_4)), (a9_5, .inl (cyZ, 200, .inl g9_5))]) [0, 1, 2] rfl
        refine va_calli (va_runV (As := [.int (g9_57 (Int32.toNatClampNeg (l4 + l6))), .int (g9_33 (Int32.toNatClampNeg l6))]) (rest := []) ⟨hx, hb, hml, hown, hts⟩ (c_X9_joined l dC dI cyI cyZ cyJ H.size o9 v9_0 v9_1 v9_2 v9_3 a9_4 a9_5 a9_6 a9_7 a9_8 a9_9 a9_10 a9_11 a9_12 v9_13 v9_14 v9_15 v9_16 v9_17 v9_18 a9_19 v9_20 v9_21 v9_22 a9_23 a9_24 a9_25 a9_26 a9_27 a9_28 a9_29 a9_30 a9_31 a9_32 a9_33 a9_34 v9_35 v9_36 a9_37 a9_38 a9_39 a9_40 a9_41 v9_42 a9_43 a9_44 a9_45 a9_46 a9_47 v9_48 v9_49 v9_50 v9_51 a9_52 a9_53 v9_54 v9_55 a9_56 a9_57 v9_58 a9_59 a9_60 a9_61 g9_4 g9_5 (g9_57 (Int32.toNatClampNeg (l4 + l6))) (g9_33 (Int32.toNatClampNeg l6)) r_22 h_22) (cwV 2 hts gX9_comes_X9_joined rfl rfl rfl (by decide +kernel) ⟨Nat.le_of_ble_eq_true rfl, Nat.le_of_ble_eq_true rfl⟩) (x_pV hN hK hPc (ci := 9) (q0 := 0) rfl rfl) rfl rfl hl.1 rfl (lv_room (Nat.le_of_ble_eq_true rfl)) dX9_comes_197 ⟨Nat.le_of_ble_eq_true rfl, Nat.le_of_ble_eq_true rfl⟩) hS x_nA (x_nf hA hS) (fun q_22 u t H1 locs ht hvm hw hB hz1 hk1 hS => ?_)
        have hP := x_kp hP hk1
        clear ht hvm hB hz1 hk1 t u hPc
        generalize H1 = H at hP hS ⊢
        obtain rfl := hw.symm
        refine lv_istore (lv' := [(7, .int r_22), (0, .ref o9), (3, .int l3), (4, .int l4), (5, .int l5), (6, .int l6)]) hx hb dX9_comes_200 hl (by decide) rfl (fun ls hl => ?_)
        refine lv_iload hx hb dX9_comes_202 (lv_at hl 0 rfl) ?_
        refine lv_if_ge (tgt := 210) hx hb dX9_comes_204 (by decide) (fun c_23 => ?_) (fun c_23 => ?_)
        · replace hf := x_ip c_23 hf
          exact (hWW _ _ _ _ _).mpr ((ih (3, 0, 0, l3, l4, l5, l6, r_22, 0, g9_57) _ hf rfl _ _ _ _ _ _ _ _ _ _ rfl).2.2.2.1 rfl H locs ls hP hD hS (lv_sub hl [1, 2, 3, 4, 5, 0] rfl))
        · replace hf := x_in c_23 hf
          refine lv_iconst (v := 0) hx hb dX9_comes_207 (by decide) ?_
          refine lv_istore (lv' := [(7, .int 0), (0, .ref o9), (3, .int l3), (4, .int l4), (5, .int l5), (6, .int l6)]) hx hb dX9_comes_208 hl (by decide) rfl (fun ls hl => ?_)
          exact (hWW _ _ _ _ _).mpr ((ih (3, 0, 0, l3, l4, l5, l6, 0, 0, g9_57) _ hf rfl _ _ _ _ _ _ _ _ _ _ rfl).2.2.2.1 rfl H locs ls hP hD hS (lv_sub hl [1, 2, 3, 4, 5, 0] rfl))
    · intro hq H locs ls hP hD hS hl
      subst hq
      refine (hWW _ _ _ _ _).mp ?_
      replace hf := x_ip rfl (x_in (by decide) (x_in (by decide) (x_in (by decide) hf)))
      refine lv_iload hx hb dX9_comes_210 (lv_at hl 5 rfl) ?_
      refine lv_aload_n hx hb dX9_comes_212 rfl (lv_at hl 0 rfl) ?_
      refine va_get (D := (dC, dI)) (ci := 9) (v := .ref a9_57) (C := RX9) (T := TX9) (N := 62) hx hb hts i_X9_comes_X9 hown hK hP 0 rfl rfl 57 (by decide) k_3 (fun _ h9 => h9) rfl dX9_comes_213 ?_
      refine lv_iload hx hb dX9_comes_216 (lv_at hl 2 rfl) ?_
      refine lv_iload hx hb dX9_comes_218 (lv_at hl 4 rfl) ?_
      refine lv_iadd hx hb dX9_comes_220 ?_
      obtain ⟨g_24, hf⟩ := x_gu hf
      refine va_iald hx hb hK hP 11 0 rfl rfl (x_gdin g_24) dX9_comes_221 ?_
      refine lv_icmp_eq (tgt := 240) hx hb dX9_comes_222 (by decide) (fun c_25 => ?_) (fun c_25 => ?_)
      · replace hf := x_ip c_25 hf
        exact (hWW _ _ _ _ _).mpr ((ih (4, 0, 0, l3, l4, l5, l6, 0, 0, g9_57) _ hf rfl _ _ _ _ _ _ _ _ _ _ rfl).2.2.2.2.1 rfl H locs ls hP hD hS (lv_sub hl [0, 1, 2, 3, 4] rfl))
      · replace hf := x_in c_25 hf
        refine lv_aload_n hx hb dX9_comes_225 rfl (lv_at hl 0 rfl) ?_
        refine va_get (D := (dC, dI)) (ci := 9) (v := .ref a9_57) (C := RX9) (T := TX9) (N := 62) hx hb hts i_X9_comes_X9 hown hK hP 0 rfl rfl 57 (by decide) k_3 (fun _ h9 => h9) rfl dX9_comes_226 ?_
        refine lv_iload hx hb dX9_comes_229 (lv_at hl 2 rfl) ?_
        refine lv_iload hx hb dX9_comes_231 (lv_at hl 4 rfl) ?_
        refine lv_iadd hx hb dX9_comes_233 ?_
        refine lv_iload hx hb dX9_comes_234 (lv_at hl 5 rfl) ?_
        obtain ⟨g_26, hf⟩ := x_gu hf
        refine va_iast hx hb hK hP hD hS 11 0 rfl rfl (x_gdin g_26) dX9_comes_236 (fun H locs hP hD hS => ?_)
        have hP : va_P (dC, dI) vwCl [(o9, .inr (9, x_O9 v9_0 v9_1 v9_2 v9_3 a9_4 a9_5 a9_6 a9_7 a9_8 a9_9 a9_10 a9_11 a9_12 v9_13 v9_14 v9_15 v9_16 v9_17 v9_18 a9_19 v9_20 v9_21 v9_22 a9_23 a9_24 a9_25 a9_26 a9_27 a9_28 a9_29 a9_30 a9_31 a9_32 a9_33 a9_34 v9_35 v9_36 a9_37 a9_38 a9_39 a9_40 a9_41 v9_42 a9_43 a9_44 a9_45 a9_46 a9_47 v9_48 v9_49 v9_50 v9_51 a9_52 a9_53 v9_54 v9_55 a9_56 a9_57 v9_58 a9_59 a9_60 a9_61)), (a9_4, .inl (cyI, 200, .inl g9_4)), (a9_5, .inl (cyZ, 200, .inl g9_5)), (a9_33, .inl (cyI, 202, .inl g9_33)), (a9_34, .inl (cyI, 202, .inl g9_34)), (a9_43, .inl (cyI, 20010, .inl g9_43)), (a9_44, .inl (cyI, 20010, .inl g9_44)), (a9_45, .inl (cyI, 20010, .inl g9_45)), (a9_46, .inl (cyI, 1001, .inl g9_46)), (a9_47, .inl (cyZ, 20010, .inl g9_47)), (a9_53, .inl (cyI, 20010, .inl g9_53)), (a9_57, .inl (cyI, 60600, .inl (upd g9_57 (Int32.toNatClampNeg (l4 + l6)) l7)))] H := hP
        have hD : va_D A [(o9, .inr (9, x_O9 v9_0 v9_1 v9_2 v9_3 a9_4 a9_5 a9_6 a9_7 a9_8 a9_9 a9_10 a9_11 a9_12 v9_13 v9_14 v9_15 v9_16 v9_17 v9_18 a9_19 v9_20 v9_21 v9_22 a9_23 a9_24 a9_25 a9_26 a9_27 a9_28 a9_29 a9_30 a9_31 a9_32 a9_33 a9_34 v9_35 v9_36 a9_37 a9_38 a9_39 a9_40 a9_41 v9_42 a9_43 a9_44 a9_45 a9_46 a9_47 v9_48 v9_49 v9_50 v9_51 a9_52 a9_53 v9_54 v9_55 a9_56 a9_57 v9_58 a9_59 a9_60 a9_61)), (a9_4, .inl (cyI, 200, .inl g9_4)), (a9_5, .inl (cyZ, 200, .inl g9_5)), (a9_33, .inl (cyI, 202, .inl g9_33)), (a9_34, .inl (cyI, 202, .inl g9_34)), (a9_43, .inl (cyI, 20010, .inl g9_43)), (a9_44, .inl (cyI, 20010, .inl g9_44)), (a9_45, .inl (cyI, 20010, .inl g9_45)), (a9_46, .inl (cyI, 1001, .inl g9_46)), (a9_47, .inl (cyZ, 20010, .inl g9_47)), (a9_53, .inl (cyI, 20010, .inl g9_53)), (a9_57, .inl (cyI, 60600, .inl (upd g9_57 (Int32.toNatClampNeg (l4 + l6)) l7)))] := hD
        refine lv_iconst (v := 1) hx hb dX9_comes_237 (by decide) ?_
        refine lv_istore (lv' := [(5, .int 1), (0, .ref o9), (3, .int l3), (4, .int l4), (6, .int l6), (7, .int l7)]) hx hb dX9_comes_238 hl (by decide) rfl (fun ls hl => ?_)
        exact (hWW _ _ _ _ _).mpr ((ih (4, 0, 0, l3, l4, 1, l6, 0, 0, upd g9_57 (Int32.toNatClampNeg (l4 + l6)) l7) _ hf rfl _ _ _ _ _ _ _ _ _ _ rfl).2.2.2.2.1 rfl H locs ls hP hD hS (lv_sub hl [1, 2, 3, 0, 4] rfl))
    · intro hq H locs ls hP hD hS hl
      subst hq
      refine (hWW _ _ _ _ _).mp ?_
      replace hf := x_ip rfl (x_in (by decide) (x_in (by decide) (x_in (by decide) (x_in (by decide) hf))))
      refine lv_iinc (v := (l6 + 1)) (lv' := [(6, .int (l6 + 1)), (0, .ref o9), (3, .int l3), (4, .int l4), (5, .int l5)]) hx hb dX9_comes_240 hl (k := 4) rfl rfl (by decide) rfl (fun ls hl => ?_)
      refine lv_goto (tgt := 170) hx hb dX9_comes_243 (by decide) ?_
      exact (hWW _ _ _ _ _).mpr ((ih (2, 0, 0, l3, l4, l5, l6 + 1, 0, 0, g9_57) _ hf rfl _ _ _ _ _ _ _ _ _ _ rfl).2.2.1 rfl H locs ls hP hD hS (lv_sub hl [1, 2, 3, 4, 0] rfl))
    · intro hq H locs ls hP hD hS hl
      subst hq
      refine (hWW _ _ _ _ _).mp ?_
      replace hf := x_ip rfl (x_in (by decide) (x_in (by decide) (x_in (by decide) (x_in (by decide) (x_in (by decide) hf)))))
      refine lv_iload hx hb dX9_comes_249 (lv_at hl 4 rfl) ?_
      refine lv_aload_n hx hb dX9_comes_251 rfl (lv_at hl 0 rfl) ?_
      refine va_get (D := (dC, dI)) (ci := 9) (v := .int v9_16) (C := RX9) (T := TX9) (N := 62) hx hb hts i_X9_comes_X9 hown hK hP 0 rfl rfl 16 (by decide) k_4 (fun _ h9 => h9) rfl dX9_comes_252 ?_
      refine lv_icmp_ge (tgt := 372) hx hb dX9_comes_255 (by decide) (fun c_27 => ?_) (fun c_27 => ?_)
      · replace hf := x_ip c_27 hf
        refine lv_iconst (v := 0) hx hb dX9_comes_372 (by decide) ?_
        refine lv_istore (lv' := [(6, .int 0), (0, .ref o9), (3, .int l3), (4, .int l4), (5, .int l5)]) hx hb dX9_comes_373 hl (by decide) rfl (fun ls hl => ?_)
        exact (hWW _ _ _ _ _).mpr ((ih (10, 0, 0, l3, l4, l5, 0, 0, 0, g9_57) _ hf rfl _ _ _ _ _ _ _ _ _ _ rfl).2.2.2.2.2.2.2.2.2.2.1 rfl H locs ls hP hD hS (lv_sub hl [1, 2, 3, 4, 0] rfl))
      · replace hf := x_in c_27 hf
        refine lv_aload_n hx hb dX9_comes_258 rfl (lv_at hl 0 rfl) ?_
        refine va_get (D := (dC, dI)) (ci := 9) (v := .ref a9_57) (C := RX9) (T := TX9) (N := 62) hx hb hts i_X9_comes_X9 hown hK hP 0 rfl rfl 57 (by decide) k_3 (fun _ h9 => h9) rfl dX9_comes_259 ?_
        refine lv_iload hx hb dX9_comes_262 (lv_at hl 2 rfl) ?_
        refine lv_iload hx hb dX9_comes_264 (lv_at hl 4 rfl) ?_
        refine lv_iadd hx hb dX9_comes_266 ?_
        obtain ⟨g_28, hf⟩ := x_gu hf
        refine va_iald hx hb hK hP 11 0 rfl rfl (x_gdin g_28) dX9_comes_267 ?_
        refine lv_istore (lv' := [(7, .int (g9_57 (Int32.toNatClampNeg (l4 + l6)))), (0, .ref o9), (3, .int l3), (4, .int l4), (5, .int l5), (6, .int l6)]) hx hb dX9_comes_268 hl (by decide) rfl (fun ls hl => ?_)
        refine lv_iload hx hb dX9_comes_270 (lv_at hl 0 rfl) ?_
        refine lv_iconst (v := 3) hx hb dX9_comes_272 (by decide) ?_
        refine lv_icmp_eq (tgt := 282) hx hb dX9_comes_273 (by decide) (fun c_29 => ?_) (fun c_29 => ?_)
        · replace hf := x_ip c_29 hf
          exact (hWW _ _ _ _ _).mpr ((ih (6, 0, 0, l3, l4, l5, l6, g9_57 (Int32.toNatClampNeg (l4 + l6)), 0, g9_57) _ hf rfl _ _ _ _ _ _ _ _ _ _ rfl).2.2.2.2.2.2.1 rfl H locs ls hP hD hS (lv_sub hl [1, 2, 3, 4, 5, 0] rfl))
        · replace hf := x_in c_29 hf
          refine lv_iload hx hb dX9_comes_276 (lv_at hl 0 rfl) ?_
          refine lv_iconst (v := 4) hx hb dX9_comes_278 (by decide) ?_
          refine lv_icmp_ne (tgt := 286) hx hb dX9_comes_279 (by decide) (fun c_30 => ?_) (fun c_30 => ?_)
          · replace hf := x_in c_30 hf
            refine lv_iconst (v := 0) hx hb dX9_comes_286 (by decide) ?_
            refine lv_istore (lv' := [(8, .int 0), (7, .int (g9_57 (Int32.toNatClampNeg (l4 + l6)))), (0, .ref o9), (3, .int l3), (4, .int l4), (5, .int l5), (6, .int l6)]) hx hb dX9_comes_287 hl (by decide) rfl (fun ls hl => ?_)
            refine lv_iload hx hb dX9_comes_289 (lv_at hl 1 rfl) ?_
            refine lv_bipush (v := 7) hx hb dX9_comes_291 (by decide) ?_
            refine lv_icmp_ne (tgt := 333) hx hb dX9_comes_293 (by decide) (fun c_31 => ?_) (fun c_31 => ?_)
            · replace hf := x_in c_31 hf
              exact (hWW _ _ _ _ _).mpr ((ih (7, 0, 0, l3, l4, l5, l6, 0, 0, g9_57) _ hf rfl _ _ _ _ _ _ _ _ _ _ rfl).2.2.2.2.2.2.2.1 rfl H locs ls hP hD hS (lv_sub hl [2, 3, 4, 5, 6, 0] rfl))
            · replace hf := x_ip c_31 hf
              refine lv_iload hx hb dX9_comes_296 (lv_at hl 6 rfl) ?_
              refine lv_if_eq (tgt := 355) hx hb dX9_comes_298 (by decide) (fun c_32 => ?_) (fun c_32 => ?_)
              · replace hf := x_ip c_32 hf
                exact (hWW _ _ _ _ _).mpr ((ih (8, 0, 0, l3, l4, l5, l6, 0, 0, g9_57) _ hf rfl _ _ _ _ _ _ _ _ _ _ rfl).2.2.2.2.2.2.2.2.1 rfl H locs ls hP hD hS (lv_sub hl [2, 3, 4, 5, 6] rfl))
              · replace hf := x_in c_32 hf
                refine lv_aload_n hx hb dX9_comes_301 rfl (lv_at hl 2 rfl) ?_
                refine va_get (D := (dC, dI)) (ci := 9) (v := .ref a9_57) (C := RX9) (T := TX9) (N := 62) hx hb hts i_X9_comes_X9 hown hK hP 0 rfl rfl 57 (by decide) k_3 (fun _ h9 => h9) rfl dX9_comes_302 ?_
                refine lv_iload hx hb dX9_comes_305 (lv_at hl 4 rfl) ?_
                refine lv_iload hx hb dX9_comes_307 (lv_at hl 6 rfl) ?_
                refine lv_iadd hx hb dX9_comes_309 ?_
                refine lv_iconst (v := 1) hx hb dX9_comes_310 (by decide) ?_
                refine lv_isub hx hb dX9_comes_311 ?_
                obtain ⟨g_33, hf⟩ := x_gu hf
                refine va_iald hx hb hK hP 11 0 rfl rfl (x_gdin g_33) dX9_comes_312 ?_
                refine lv_iconst (v := 3) hx hb dX9_comes_313 (by decide) ?_
                refine lv_icmp_eq (tgt := 333) hx hb dX9_comes_314 (by decide) (fun c_34 => ?_) (fun c_34 => ?_)
                · replace hf := x_ip c_34 hf
                  exact (hWW _ _ _ _ _).mpr ((ih (7, 0, 0, l3, l4, l5, l6, 0, 0, g9_57) _ hf rfl _ _ _ _ _ _ _ _ _ _ rfl).2.2.2.2.2.2.2.1 rfl H locs ls hP hD hS (lv_sub hl [2, 3, 4, 5, 6, 0] rfl))
                · replace hf := x_in c_34 hf
                  refine lv_aload_n hx hb dX9_comes_317 rfl (lv_at hl 2 rfl) ?_
                  refine va_get (D := (dC, dI)) (ci := 9) (v := .ref a9_57) (C := RX9) (T := TX9) (N := 62) hx hb hts i_X9_comes_X9 hown hK hP 0 rfl rfl 57 (by decide) k_3 (fun _ h9 => h9) rfl dX9_comes_318 ?_
                  refine lv_iload hx hb dX9_comes_321 (lv_at hl 4 rfl) ?_
                  refine lv_iload hx hb dX9_comes_323 (lv_at hl 6 rfl) ?_
                  refine lv_iadd hx hb dX9_comes_325 ?_
                  refine lv_iconst (v := 1) hx hb dX9_comes_326 (by decide) ?_
                  refine lv_isub hx hb dX9_comes_327 ?_
                  obtain ⟨g_35, hf⟩ := x_gu hf
                  refine va_iald hx hb hK hP 11 0 rfl rfl (x_gdin g_35) dX9_comes_328 ?_
                  refine lv_iconst (v := 4) hx hb dX9_comes_329 (by decide) ?_
                  refine lv_icmp_ne (tgt := 355) hx hb dX9_comes_330 (by decide) (fun c_36 => ?_) (fun c_36 => ?_)
                  · replace hf := x_in c_36 hf
                    exact (hWW _ _ _ _ _).mpr ((ih (8, 0, 0, l3, l4, l5, l6, 0, 0, g9_57) _ hf rfl _ _ _ _ _ _ _ _ _ _ rfl).2.2.2.2.2.2.2.2.1 rfl H locs ls hP hD hS (lv_sub hl [2, 3, 4, 5, 6] rfl))
                  · replace hf := x_ip c_36 hf
                    exact (hWW _ _ _ _ _).mpr ((ih (7, 0, 0, l3, l4, l5, l6, 0, 0, g9_57) _ hf rfl _ _ _ _ _ _ _ _ _ _ rfl).2.2.2.2.2.2.2.1 rfl H locs ls hP hD hS (lv_sub hl [2, 3, 4, 5, 6, 0] rfl))
          · replace hf := x_ip c_30 hf
            exact (hWW _ _ _ _ _).mpr ((ih (6, 0, 0, l3, l4, l5, l6, g9_57 (Int32.toNatClampNeg (l4 + l6)), 0, g9_57) _ hf rfl _ _ _ _ _ _ _ _ _ _ rfl).2.2.2.2.2.2.1 rfl H locs ls hP hD hS (lv_sub hl [1, 2, 3, 4, 5, 0] rfl))
    · intro hq H locs ls hP hD hS hl
      subst hq
      refine (hWW _ _ _ _ _).mp ?_
      replace hf := x_ip rfl (x_in (by decide) (x_in (by decide) (x_in (by decide) (x_in (by decide) (x_in (by decide) (x_in (by decide) hf))))))
      refine lv_iconst (v := 1) hx hb dX9_comes_282 (by decide) ?_
      refine lv_goto (tgt := 287) hx hb dX9_comes_283 (by decide) ?_
      refine lv_istore (lv' := [(8, .int 1), (0, .ref o9), (3, .int l3), (4, .int l4), (5, .int l5), (6, .int l6), (7, .int l7)]) hx hb dX9_comes_287 hl (by decide) rfl (fun ls hl => ?_)
      refine lv_iload hx hb dX9_comes_289 (lv_at hl 6 rfl) ?_
      refine lv_bipush (v := 7) hx hb dX9_comes_291 (by decide) ?_
      refine lv_icmp_ne (tgt := 333) hx hb dX9_comes_293 (by decide) (fun c_37 => ?_) (fun c_37 => ?_)
      · replace hf := x_in c_37 hf
        exact (hWW _ _ _ _ _).mpr ((ih (7, 0, 0, l3, l4, l5, l6, 0, 1, g9_57) _ hf rfl _ _ _ _ _ _ _ _ _ _ rfl).2.2.2.2.2.2.2.1 rfl H locs ls hP hD hS (lv_sub hl [1, 2, 3, 4, 5, 0] rfl))
      · replace hf := x_ip c_37 hf
        refine lv_iload hx hb dX9_comes_296 (lv_at hl 5 rfl) ?_
        refine lv_if_eq (tgt := 355) hx hb dX9_comes_298 (by decide) (fun c_38 => ?_) (fun c_38 => ?_)
        · replace hf := x_ip c_38 hf
          exact (hWW _ _ _ _ _).mpr ((ih (8, 0, 0, l3, l4, l5, l6, 0, 0, g9_57) _ hf rfl _ _ _ _ _ _ _ _ _ _ rfl).2.2.2.2.2.2.2.2.1 rfl H locs ls hP hD hS (lv_sub hl [1, 2, 3, 4, 5] rfl))
        · replace hf := x_in c_38 hf
          refine lv_aload_n hx hb dX9_comes_301 rfl (lv_at hl 1 rfl) ?_
          refine va_get (D := (dC, dI)) (ci := 9) (v := .ref a9_57) (C := RX9) (T := TX9) (N := 62) hx hb hts i_X9_comes_X9 hown hK hP 0 rfl rfl 57 (by decide) k_3 (fun _ h9 => h9) rfl dX9_comes_302 ?_
          refine lv_iload hx hb dX9_comes_305 (lv_at hl 3 rfl) ?_
          refine lv_iload hx hb dX9_comes_307 (lv_at hl 5 rfl) ?_
          refine lv_iadd hx hb dX9_comes_309 ?_
          refine lv_iconst (v := 1) hx hb dX9_comes_310 (by decide) ?_
          refine lv_isub hx hb dX9_comes_311 ?_
          obtain ⟨g_39, hf⟩ := x_gu hf
          refine va_iald hx hb hK hP 11 0 rfl rfl (x_gdin g_39) dX9_comes_312 ?_
          refine lv_iconst (v := 3) hx hb dX9_comes_313 (by decide) ?_
          refine lv_icmp_eq (tgt := 333) hx hb dX9_comes_314 (by decide) (fun c_40 => ?_) (fun c_40 => ?_)
          · replace hf := x_ip c_40 hf
            exact (hWW _ _ _ _ _).mpr ((ih (7, 0, 0, l3, l4, l5, l6, 0, 1, g9_57) _ hf rfl _ _ _ _ _ _ _ _ _ _ rfl).2.2.2.2.2.2.2.1 rfl H locs ls hP hD hS (lv_sub hl [1, 2, 3, 4, 5, 0] rfl))
          · replace hf := x_in c_40 hf
            refine lv_aload_n hx hb dX9_comes_317 rfl (lv_at hl 1 rfl) ?_
            refine va_get (D := (dC, dI)) (ci := 9) (v := .ref a9_57) (C := RX9) (T := TX9) (N := 62) hx hb hts i_X9_comes_X9 hown hK hP 0 rfl rfl 57 (by decide) k_3 (fun _ h9 => h9) rfl dX9_comes_318 ?_
            refine lv_iload hx hb dX9_comes_321 (lv_at hl 3 rfl) ?_
            refine lv_iload hx hb dX9_comes_323 (lv_at hl 5 rfl) ?_
            refine lv_iadd hx hb dX9_comes_325 ?_
            refine lv_iconst (v := 1) hx hb dX9_comes_326 (by decide) ?_
            refine lv_isub hx hb dX9_comes_327 ?_
            obtain ⟨g_41, hf⟩ := x_gu hf
            refine va_iald hx hb hK hP 11 0 rfl rfl (x_gdin g_41) dX9_comes_328 ?_
            refine lv_iconst (v := 4) hx hb dX9_comes_329 (by decide) ?_
            refine lv_icmp_ne (tgt := 355) hx hb dX9_comes_330 (by decide) (fun c_42 => ?_) (fun c_42 => ?_)
            · replace hf := x_in c_42 hf
              exact (hWW _ _ _ _ _).mpr ((ih (8, 0, 0, l3, l4, l5, l6, 0, 0, g9_57) _ hf rfl _ _ _ _ _ _ _ _ _ _ rfl).2.2.2.2.2.2.2.2.1 rfl H locs ls hP hD hS (lv_sub hl [1, 2, 3, 4, 5] rfl))
            · replace hf := x_ip c_42 hf
              exact (hWW _ _ _ _ _).mpr ((ih (7, 0, 0, l3, l4, l5, l6, 0, 1, g9_57) _ hf rfl _ _ _ _ _ _ _ _ _ _ rfl).2.2.2.2.2.2.2.1 rfl H locs ls hP hD hS (lv_sub hl [1, 2, 3, 4, 5, 0] rfl))
    · intro hq H locs ls hP hD hS hl
      subst hq
      refine (hWW _ _ _ _ _).mp ?_
      replace hf := x_ip rfl (x_in (by decide) (x_in (by decide) (x_in (by decide) (x_in (by decide) (x_in (by decide) (x_in (by decide) (x_in (by decide) hf)))))))
      refine lv_iload hx hb dX9_comes_333 (lv_at hl 5 rfl) ?_
      refine lv_if_eq (tgt := 366) hx hb dX9_comes_335 (by decide) (fun c_43 => ?_) (fun c_43 => ?_)
      · replace hf := x_ip c_43 hf
        exact (hWW _ _ _ _ _).mpr ((ih (9, 0, 0, l3, l4, l5, l6, 0, 0, g9_57) _ hf rfl _ _ _ _ _ _ _ _ _ _ rfl).2.2.2.2.2.2.2.2.2.1 rfl H locs ls hP hD hS (lv_sub hl [0, 1, 2, 3, 4] rfl))
      · replace hf := x_in c_43 hf
        refine lv_aload_n hx hb dX9_comes_338 rfl (lv_at hl 0 rfl) ?_
        refine va_get (D := (dC, dI)) (ci := 9) (v := .ref a9_57) (C := RX9) (T := TX9) (N := 62) hx hb hts i_X9_comes_X9 hown hK hP 0 rfl rfl 57 (by decide) k_3 (fun _ h9 => h9) rfl dX9_comes_339 ?_
        refine lv_iload hx hb dX9_comes_342 (lv_at hl 2 rfl) ?_
        refine lv_iload hx hb dX9_comes_344 (lv_at hl 4 rfl) ?_
        refine lv_iadd hx hb dX9_comes_346 ?_
        refine lv_iconst (v := 1) hx hb dX9_comes_347 (by decide) ?_
        refine lv_iadd hx hb dX9_comes_348 ?_
        obtain ⟨g_44, hf⟩ := x_gu hf
        refine va_iald hx hb hK hP 11 0 rfl rfl (x_gdin g_44) dX9_comes_349 ?_
        refine lv_bipush (v := 7) hx hb dX9_comes_350 (by decide) ?_
        refine lv_icmp_eq (tgt := 366) hx hb dX9_comes_352 (by decide) (fun c_45 => ?_) (fun c_45 => ?_)
        · replace hf := x_ip c_45 hf
          exact (hWW _ _ _ _ _).mpr ((ih (9, 0, 0, l3, l4, l5, l6, 0, 0, g9_57) _ hf rfl _ _ _ _ _ _ _ _ _ _ rfl).2.2.2.2.2.2.2.2.2.1 rfl H locs ls hP hD hS (lv_sub hl [0, 1, 2, 3, 4] rfl))
        · replace hf := x_in c_45 hf
          exact (hWW _ _ _ _ _).mpr ((ih (8, 0, 0, l3, l4, l5, l6, 0, 0, g9_57) _ hf rfl _ _ _ _ _ _ _ _ _ _ rfl).2.2.2.2.2.2.2.2.1 rfl H locs ls hP hD hS (lv_sub hl [0, 1, 2, 3, 4] rfl))
    · intro hq H locs ls hP hD hS hl
      subst hq
      refine (hWW _ _ _ _ _).mp ?_
      replace hf := x_ip rfl (x_in (by decide) (x_in (by decide) (x_in (by decide) (x_in (by decide) (x_in (by decide) (x_in (by decide) (x_in (by decide) (x_in (by decide) hf))))))))
      refine lv_aload_n hx hb dX9_comes_355 rfl (lv_at hl 0 rfl) ?_
      refine va_get (D := (dC, dI)) (ci := 9) (v := .ref a9_57) (C := RX9) (T := TX9) (N := 62) hx hb hts i_X9_comes_X9 hown hK hP 0 rfl rfl 57 (by decide) k_3 (fun _ h9 => h9) rfl dX9_comes_356 ?_
      refine lv_iload hx hb dX9_comes_359 (lv_at hl 2 rfl) ?_
      refine lv_iload hx hb dX9_comes_361 (lv_at hl 4 rfl) ?_
      refine lv_iadd hx hb dX9_comes_363 ?_
      refine lv_iconst (v := 0) hx hb dX9_comes_364 (by decide) ?_
      obtain ⟨g_46, hf⟩ := x_gu hf
      refine va_iast hx hb hK hP hD hS 11 0 rfl rfl (x_gdin g_46) dX9_comes_365 (fun H locs hP hD hS => ?_)
      have hP : va_P (dC, dI) vwCl [(o9, .inr (9, x_O9 v9_0 v9_1 v9_2 v9_3 a9_4 a9_5 a9_6 a9_7 a9_8 a9_9 a9_10 a9_11 a9_12 v9_13 v9_14 v9_15 v9_16 v9_17 v9_18 a9_19 v9_20 v9_21 v9_22 a9_23 a9_24 a9_25 a9_26 a9_27 a9_28 a9_29 a9_30 a9_31 a9_32 a9_33 a9_34 v9_35 v9_36 a9_37 a9_38 a9_39 a9_40 a9_41 v9_42 a9_43 a9_44 a9_45 a9_46 a9_47 v9_48 v9_49 v9_50 v9_51 a9_52 a9_53 v9_54 v9_55 a9_56 a9_57 v9_58 a9_59 a9_60 a9_61)), (a9_4, .inl (cyI, 200, .inl g9_4)), (a9_5, .inl (cyZ, 200, .inl g9_5)), (a9_33, .inl (cyI, 202, .inl g9_33)), (a9_34, .inl (cyI, 202, .inl g9_34)), (a9_43, .inl (cyI, 20010, .inl g9_43)), (a9_44, .inl (cyI, 20010, .inl g9_44)), (a9_45, .inl (cyI, 20010, .inl g9_45)), (a9_46, .inl (cyI, 1001, .inl g9_46)), (a9_47, .inl (cyZ, 20010, .inl g9_47)), (a9_53, .inl (cyI, 20010, .inl g9_53)), (a9_57, .inl (cyI, 60600, .inl (upd g9_57 (Int32.toNatClampNeg (l4 + l6)) 0)))] H := hP
      have hD : va_D A [(o9, .inr (9, x_O9 v9_0 v9_1 v9_2 v9_3 a9_4 a9_5 a9_6 a9_7 a9_8 a9_9 a9_10 a9_11 a9_12 v9_13 v9_14 v9_15 v9_16 v9_17 v9_18 a9_19 v9_20 v9_21 v9_22 a9_23 a9_24 a9_25 a9_26 a9_27 a9_28 a9_29 a9_30 a9_31 a9_32 a9_33 a9_34 v9_35 v9_36 a9_37 a9_38 a9_39 a9_40 a9_41 v9_42 a9_43 a9_44 a9_45 a9_46 a9_47 v9_48 v9_49 v9_50 v9_51 a9_52 a9_53 v9_54 v9_55 a9_56 a9_57 v9_58 a9_59 a9_60 a9_61)), (a9_4, .inl (cyI, 200, .inl g9_4)), (a9_5, .inl (cyZ, 200, .inl g9_5)), (a9_33, .inl (cyI, 202, .inl g9_33)), (a9_34, .inl (cyI, 202, .inl g9_34)), (a9_43, .inl (cyI, 20010, .inl g9_43)), (a9_44, .inl (cyI, 20010, .inl g9_44)), (a9_45, .inl (cyI, 20010, .inl g9_45)), (a9_46, .inl (cyI, 1001, .inl g9_46)), (a9_47, .inl (cyZ, 20010, .inl g9_47)), (a9_53, .inl (cyI, 20010, .inl g9_53)), (a9_57, .inl (cyI, 60600, .inl (upd g9_57 (Int32.toNatClampNeg (l4 + l6)) 0)))] := hD
      exact (hWW _ _ _ _ _).mpr ((ih (9, 0, 0, l3, l4, l5, l6, 0, 0, upd g9_57 (Int32.toNatClampNeg (l4 + l6)) 0) _ hf rfl _ _ _ _ _ _ _ _ _ _ rfl).2.2.2.2.2.2.2.2.2.1 rfl H locs ls hP hD hS (lv_sub hl [0, 1, 2, 3, 4] rfl))
    · intro hq H locs ls hP hD hS hl
      subst hq
      refine (hWW _ _ _ _ _).mp ?_
      replace hf := x_ip rfl (x_in (by decide) (x_in (by decide) (x_in (by decide) (x_in (by decide) (x_in (by decide) (x_in (by decide) (x_in (by decide) (x_in (by decide) (x_in (by decide) hf)))))))))
      refine lv_iinc (v := (l6 + 1)) (lv' := [(6, .int (l6 + 1)), (0, .ref o9), (3, .int l3), (4, .int l4), (5, .int l5)]) hx hb dX9_comes_366 hl (k := 4) rfl rfl (by decide) rfl (fun ls hl => ?_)
      refine lv_goto (tgt := 249) hx hb dX9_comes_369 (by decide) ?_
      exact (hWW _ _ _ _ _).mpr ((ih (5, 0, 0, l3, l4, l5, l6 + 1, 0, 0, g9_57) _ hf rfl _ _ _ _ _ _ _ _ _ _ rfl).2.2.2.2.2.1 rfl H locs ls hP hD hS (lv_sub hl [1, 2, 3, 4, 0] rfl))
    · intro hq H locs ls hP hD hS hl
      subst hq
      refine (hWW _ _ _ _ _).mp ?_
      replace hf := x_ip rfl (x_in (by decide) (x_in (by decide) (x_in (by decide) (x_in (by decide) (x_in (by decide) (x_in (by decide) (x_in (by decide) (x_in (by decide) (x_in (by decide) (x_in (by decide) hf))))))))))
      refine lv_iload hx hb dX9_comes_375 (lv_at hl 4 rfl) ?_
      refine lv_aload_n hx hb dX9_comes_377 rfl (lv_at hl 0 rfl) ?_
      refine va_get (D := (dC, dI)) (ci := 9) (v := .int v9_35) (C := RX9) (T := TX9) (N := 62) hx hb hts i_X9_comes_X9 hown hK hP 0 rfl rfl 35 (by decide) k_6 (fun _ h9 => h9) rfl dX9_comes_378 ?_
      refine lv_icmp_ge (tgt := 465) hx hb dX9_comes_381 (by decide) (fun c_47 => ?_) (fun c_47 => ?_)
      · replace hf := x_ip c_47 hf
        refine lv_aload_n hx hb dX9_comes_465 rfl (lv_at hl 0 rfl) ?_
        refine va_get (D := (dC, dI)) (ci := 9) (v := .int v9_36) (C := RX9) (T := TX9) (N := 62) hx hb hts i_X9_comes_X9 hown hK hP 0 rfl rfl 36 (by decide) k_12 (fun _ h9 => h9) rfl dX9_comes_466 ?_
        refine lv_if_ne (tgt := 518) hx hb dX9_comes_469 (by decide) (fun c_48 => ?_) (fun c_48 => ?_)
        · replace hf := x_in c_48 hf
          exact (hWW _ _ _ _ _).mpr ((ih (12, 0, 0, l3, 0, l5, 0, 0, 0, g9_57) _ hf rfl _ _ _ _ _ _ _ _ _ _ rfl).2.2.2.2.2.2.2.2.2.2.2.2 rfl H locs ls hP hD hS (lv_sub hl [0, 1, 3] rfl))
        · replace hf := x_ip c_48 hf
          refine lv_aload_n hx hb dX9_comes_472 rfl (lv_at hl 0 rfl) ?_
          refine va_get (D := (dC, dI)) (ci := 9) (v := .ref a9_57) (C := RX9) (T := TX9) (N := 62) hx hb hts i_X9_comes_X9 hown hK hP 0 rfl rfl 57 (by decide) k_3 (fun _ h9 => h9) rfl dX9_comes_473 ?_
          refine lv_iload hx hb dX9_comes_476 (lv_at hl 2 rfl) ?_
          refine lv_aload_n hx hb dX9_comes_478 rfl (lv_at hl 0 rfl) ?_
          refine va_get (D := (dC, dI)) (ci := 9) (v := .int v9_16) (C := RX9) (T := TX9) (N := 62) hx hb hts i_X9_comes_X9 hown hK hP 0 rfl rfl 16 (by decide) k_4 (fun _ h9 => h9) rfl dX9_comes_479 ?_
          refine lv_iadd hx hb dX9_comes_482 ?_
          refine lv_aload_n hx hb dX9_comes_483 rfl (lv_at hl 0 rfl) ?_
          refine va_get (D := (dC, dI)) (ci := 9) (v := .int v9_17) (C := RX9) (T := TX9) (N := 62) hx hb hts i_X9_comes_X9 hown hK hP 0 rfl rfl 17 (by decide) k_5 (fun _ h9 => h9) rfl dX9_comes_484 ?_
          refine lv_iadd hx hb dX9_comes_487 ?_
          refine lv_iconst (v := 1) hx hb dX9_comes_488 (by decide) ?_
          refine lv_iadd hx hb dX9_comes_489 ?_
          obtain ⟨g_49, hf⟩ := x_gu hf
          refine va_iald hx hb hK hP 11 0 rfl rfl (x_gdin g_49) dX9_comes_490 ?_
          refine lv_iconst (v := 1) hx hb dX9_comes_491 (by decide) ?_
          refine lv_icmp_ne (tgt := 518) hx hb dX9_comes_492 (by decide) (fun c_50 => ?_) (fun c_50 => ?_)
          · replace hf := x_in c_50 hf
            exact (hWW _ _ _ _ _).mpr ((ih (12, 0, 0, l3, 0, l5, 0, 0, 0, g9_57) _ hf rfl _ _ _ _ _ _ _ _ _ _ rfl).2.2.2.2.2.2.2.2.2.2.2.2 rfl H locs ls hP hD hS (lv_sub hl [0, 1, 3] rfl))
          · replace hf := x_ip c_50 hf
            refine lv_aload_n hx hb dX9_comes_495 rfl (lv_at hl 0 rfl) ?_
            refine va_get (D := (dC, dI)) (ci := 9) (v := .ref a9_57) (C := RX9) (T := TX9) (N := 62) hx hb hts i_X9_comes_X9 hown hK hP 0 rfl rfl 57 (by decide) k_3 (fun _ h9 => h9) rfl dX9_comes_496 ?_
            refine lv_iload hx hb dX9_comes_499 (lv_at hl 2 rfl) ?_
            refine lv_aload_n hx hb dX9_comes_501 rfl (lv_at hl 0 rfl) ?_
            refine va_get (D := (dC, dI)) (ci := 9) (v := .int v9_16) (C := RX9) (T := TX9) (N := 62) hx hb hts i_X9_comes_X9 hown hK hP 0 rfl rfl 16 (by decide) k_4 (fun _ h9 => h9) rfl dX9_comes_502 ?_
            refine lv_iadd hx hb dX9_comes_505 ?_
            refine lv_aload_n hx hb dX9_comes_506 rfl (lv_at hl 0 rfl) ?_
            refine va_get (D := (dC, dI)) (ci := 9) (v := .int v9_17) (C := RX9) (T := TX9) (N := 62) hx hb hts i_X9_comes_X9 hown hK hP 0 rfl rfl 17 (by decide) k_5 (fun _ h9 => h9) rfl dX9_comes_507 ?_
            refine lv_iadd hx hb dX9_comes_510 ?_
            refine lv_iconst (v := 1) hx hb dX9_comes_511 (by decide) ?_
            refine lv_iadd hx hb dX9_comes_512 ?_
            refine lv_iconst (v := 0) hx hb dX9_comes_513 (by decide) ?_
            obtain ⟨g_51, hf⟩ := x_gu hf
            refine va_iast hx hb hK hP hD hS 11 0 rfl rfl (x_gdin g_51) dX9_comes_514 (fun H locs hP hD hS => ?_)
            have hP : va_P (dC, dI) vwCl [(o9, .inr (9, x_O9 v9_0 v9_1 v9_2 v9_3 a9_4 a9_5 a9_6 a9_7 a9_8 a9_9 a9_10 a9_11 a9_12 v9_13 v9_14 v9_15 v9_16 v9_17 v9_18 a9_19 v9_20 v9_21 v9_22 a9_23 a9_24 a9_25 a9_26 a9_27 a9_28 a9_29 a9_30 a9_31 a9_32 a9_33 a9_34 v9_35 v9_36 a9_37 a9_38 a9_39 a9_40 a9_41 v9_42 a9_43 a9_44 a9_45 a9_46 a9_47 v9_48 v9_49 v9_50 v9_51 a9_52 a9_53 v9_54 v9_55 a9_56 a9_57 v9_58 a9_59 a9_60 a9_61)), (a9_4, .inl (cyI, 200, .inl g9_4)), (a9_5, .inl (cyZ, 200, .inl g9_5)), (a9_33, .inl (cyI, 202, .inl g9_33)), (a9_34, .inl (cyI, 202, .inl g9_34)), (a9_43, .inl (cyI, 20010, .inl g9_43)), (a9_44, .inl (cyI, 20010, .inl g9_44)), (a9_45, .inl (cyI, 20010, .inl g9_45)), (a9_46, .inl (cyI, 1001, .inl g9_46)), (a9_47, .inl (cyZ, 20010, .inl g9_47)), (a9_53, .inl (cyI, 20010, .inl g9_53)), (a9_57, .inl (cyI, 60600, .inl (upd g9_57 (Int32.toNatClampNeg (((l4 + v9_16) + v9_17) + (1 : Int32))) 0)))] H := hP
            have hD : va_D A [(o9, .inr (9, x_O9 v9_0 v9_1 v9_2 v9_3 a9_4 a9_5 a9_6 a9_7 a9_8 a9_9 a9_10 a9_11 a9_12 v9_13 v9_14 v9_15 v9_16 v9_17 v9_18 a9_19 v9_20 v9_21 v9_22 a9_23 a9_24 a9_25 a9_26 a9_27 a9_28 a9_29 a9_30 a9_31 a9_32 a9_33 a9_34 v9_35 v9_36 a9_37 a9_38 a9_39 a9_40 a9_41 v9_42 a9_43 a9_44 a9_45 a9_46 a9_47 v9_48 v9_49 v9_50 v9_51 a9_52 a9_53 v9_54 v9_55 a9_56 a9_57 v9_58 a9_59 a9_60 a9_61)), (a9_4, .inl (cyI, 200, .inl g9_4)), (a9_5, .inl (cyZ, 200, .inl g9_5)), (a9_33, .inl (cyI, 202, .inl g9_33)), (a9_34, .inl (cyI, 202, .inl g9_34)), (a9_43, .inl (cyI, 20010, .inl g9_43)), (a9_44, .inl (cyI, 20010, .inl g9_44)), (a9_45, .inl (cyI, 20010, .inl g9_45)), (a9_46, .inl (cyI, 1001, .inl g9_46)), (a9_47, .inl (cyZ, 20010, .inl g9_47)), (a9_53, .inl (cyI, 20010, .inl g9_53)), (a9_57, .inl (cyI, 60600, .inl (upd g9_57 (Int32.toNatClampNeg (((l4 + v9_16) + v9_17) + (1 : Int32))) 0)))] := hD
            refine lv_iconst (v := 1) hx hb dX9_comes_515 (by decide) ?_
            refine lv_istore (lv' := [(5, .int 1), (0, .ref o9), (3, .int l3), (4, .int l4), (6, .int l6)]) hx hb dX9_comes_516 hl (by decide) rfl (fun ls hl => ?_)
            exact (hWW _ _ _ _ _).mpr ((ih (12, 0, 0, l3, 0, 1, 0, 0, 0, upd g9_57 (Int32.toNatClampNeg (((l4 + v9_16) + v9_17) + (1 : Int32))) 0) _ hf rfl _ _ _ _ _ _ _ _ _ _ rfl).2.2.2.2.2.2.2.2.2.2.2.2 rfl H locs ls hP hD hS (lv_sub hl [1, 2, 0] rfl))
      · replace hf := x_in c_47 hf
        refine lv_aload_n hx hb dX9_comes_384 rfl (lv_at hl 0 rfl) ?_
        refine lv_aload_n hx hb dX9_comes_385 rfl (lv_at hl 0 rfl) ?_
        refine va_get (D := (dC, dI)) (ci := 9) (v := .ref a9_57) (C := RX9) (T := TX9) (N := 62) hx hb hts i_X9_comes_X9 hown hK hP 0 rfl rfl 57 (by decide) k_3 (fun _ h9 => h9) rfl dX9_comes_386 ?_
        refine lv_iload hx hb dX9_comes_389 (lv_at hl 2 rfl) ?_
        refine lv_aload_n hx hb dX9_comes_391 rfl (lv_at hl 0 rfl) ?_
        refine va_get (D := (dC, dI)) (ci := 9) (v := .int v9_16) (C := RX9) (T := TX9) (N := 62) hx hb hts i_X9_comes_X9 hown hK hP 0 rfl rfl 16 (by decide) k_4 (fun _ h9 => h9) rfl dX9_comes_392 ?_
        refine lv_iadd hx hb dX9_comes_395 ?_
        refine lv_iload hx hb dX9_comes_396 (lv_at hl 4 rfl) ?_
        refine lv_iadd hx hb dX9_comes_398 ?_
        obtain ⟨g_52, hf⟩ := x_gu hf
        refine va_iald hx hb hK hP 11 0 rfl rfl (x_gdin g_52) dX9_comes_399 ?_
        refine lv_aload_n hx hb dX9_comes_400 rfl (lv_at hl 0 rfl) ?_
        refine va_get (D := (dC, dI)) (ci := 9) (v := .ref a9_34) (C := RX9) (T := TX9) (N := 62) hx hb hts i_X9_comes_X9 hown hK hP 0 rfl rfl 34 (by decide) k_13 (fun _ h9 => h9) rfl dX9_comes_401 ?_
        refine lv_iload hx hb dX9_comes_404 (lv_at hl 4 rfl) ?_
        obtain ⟨g_53, hf⟩ := x_gu hf
        refine va_iald hx hb hK hP 4 0 rfl rfl (x_gdin g_53) dX9_comes_406 ?_
        obtain ⟨r_54, h_54, hf⟩ := x_bi hf
        have hPc := hP.sub (ws' := [(o9, .inr (9, x_O9 v9_0 v9_1 v9_2 v9_3 a9_4 a9_5 a9_6 a9_7 a9_8 a9_9 a9_10 a9_11 a9_12 v9_13 v9_14 v9_15 v9_16 v9_17 v9_18 a9_19 v9_20 v9_21 v9_22 a9_23 a9_24 a9_25 a9_26 a9_27 a9_28 a9_29 a9_30 a9_31 a9_32 a9_33 a9_34 v9_35 v9_36 a9_37 a9_38 a9_39 a9_40 a9_41 v9_42 a9_43 a9_44 a9_45 a9_46 a9_47 v9_48 v9_49 v9_50 v9_51 a9_52 a9_53 v9_54 v9_55 a9_56 a9_57 v9_58 a9_59 a9_60 a9_61)), (a9_4, .inl (cyI, 200, .inl g9_4)), (a9_5, .inl (cyZ, 200, .inl g9_5))]) [0, 1, 2] rfl
        refine va_calli (va_runV (As := [.int (g9_57 (Int32.toNatClampNeg ((l4 + v9_16) + l6))), .int (g9_34 (Int32.toNatClampNeg l6))]) (rest := []) ⟨hx, hb, hml, hown, hts⟩ (c_X9_joined l dC dI cyI cyZ cyJ H.size o9 v9_0 v9_1 v9_2 v9_3 a9_4 a9_5 a9_6 a9_7 a9_8 a9_9 a9_10 a9_11 a9_12 v9_13 v9_14 v9_15 v9_16 v9_17 v9_18 a9_19 v9_20 v9_21 v9_22 a9_23 a9_24 a9_25 a9_26 a9_27 a9_28 a9_29 a9_30 a9_31 a9_32 a9_33 a9_34 v9_35 v9_36 a9_37 a9_38 a9_39 a9_40 a9_41 v9_42 a9_43 a9_44 a9_45 a9_46 a9_47 v9_48 v9_49 v9_50 v9_51 a9_52 a9_53 v9_54 v9_55 a9_56 a9_57 v9_58 a9_59 a9_60 a9_61 g9_4 g9_5 (g9_57 (Int32.toNatClampNeg ((l4 + v9_16) + l6))) (g9_34 (Int32.toNatClampNeg l6)) r_54 h_54) (cwV 2 hts gX9_comes_X9_joined rfl rfl rfl (by decide +kernel) ⟨Nat.le_of_ble_eq_true rfl, Nat.le_of_ble_eq_true rfl⟩) (x_pV hN hK hPc (ci := 9) (q0 := 0) rfl rfl) rfl rfl hl.1 rfl (lv_room (Nat.le_of_ble_eq_true rfl)) dX9_comes_407 ⟨Nat.le_of_ble_eq_true rfl, Nat.le_of_ble_eq_true rfl⟩) hS x_nA (x_nf hA hS) (fun q_54 u t H1 locs ht hvm hw hB hz1 hk1 hS => ?_)
        have hP := x_kp hP hk1
        clear ht hvm hB hz1 hk1 t u hPc
        generalize H1 = H at hP hS ⊢
        obtain rfl := hw.symm
        refine lv_istore (lv' := [(7, .int r_54), (0, .ref o9), (3, .int l3), (4, .int l4), (5, .int l5), (6, .int l6)]) hx hb dX9_comes_410 hl (by decide) rfl (fun ls hl => ?_)
        refine lv_iload hx hb dX9_comes_412 (lv_at hl 0 rfl) ?_
        refine lv_if_ge (tgt := 419) hx hb dX9_comes_414 (by decide) (fun c_55 => ?_) (fun c_55 => ?_)
        · replace hf := x_ip c_55 hf
          refine lv_iload hx hb dX9_comes_419 (lv_at hl 0 rfl) ?_
          refine lv_aload_n hx hb dX9_comes_421 rfl (lv_at hl 1 rfl) ?_
          refine va_get (D := (dC, dI)) (ci := 9) (v := .ref a9_57) (C := RX9) (T := TX9) (N := 62) hx hb hts i_X9_comes_X9 hown hK hP 0 rfl rfl 57 (by decide) k_3 (fun _ h9 => h9) rfl dX9_comes_422 ?_
          refine lv_iload hx hb dX9_comes_425 (lv_at hl 3 rfl) ?_
          refine lv_aload_n hx hb dX9_comes_427 rfl (lv_at hl 1 rfl) ?_
          refine va_get (D := (dC, dI)) (ci := 9) (v := .int v9_16) (C := RX9) (T := TX9) (N := 62) hx hb hts i_X9_comes_X9 hown hK hP 0 rfl rfl 16 (by decide) k_4 (fun _ h9 => h9) rfl dX9_comes_428 ?_
          refine lv_iadd hx hb dX9_comes_431 ?_
          refine lv_iload hx hb dX9_comes_432 (lv_at hl 5 rfl) ?_
          refine lv_iadd hx hb dX9_comes_434 ?_
          obtain ⟨g_56, hf⟩ := x_gu hf
          refine va_iald hx hb hK hP 11 0 rfl rfl (x_gdin g_56) dX9_comes_435 ?_
          refine lv_icmp_eq (tgt := 459) hx hb dX9_comes_436 (by decide) (fun c_57 => ?_) (fun c_57 => ?_)
          · replace hf := x_ip c_57 hf
            exact (hWW _ _ _ _ _).mpr ((ih (11, 0, 0, l3, l4, l5, l6, 0, 0, g9_57) _ hf rfl _ _ _ _ _ _ _ _ _ _ rfl).2.2.2.2.2.2.2.2.2.2.2.1 rfl H locs ls hP hD hS (lv_sub hl [1, 2, 3, 4, 5] rfl))
          · replace hf := x_in c_57 hf
            refine lv_aload_n hx hb dX9_comes_439 rfl (lv_at hl 1 rfl) ?_
            refine va_get (D := (dC, dI)) (ci := 9) (v := .ref a9_57) (C := RX9) (T := TX9) (N := 62) hx hb hts i_X9_comes_X9 hown hK hP 0 rfl rfl 57 (by decide) k_3 (fun _ h9 => h9) rfl dX9_comes_440 ?_
            refine lv_iload hx hb dX9_comes_443 (lv_at hl 3 rfl) ?_
            refine lv_aload_n hx hb dX9_comes_445 rfl (lv_at hl 1 rfl) ?_
            refine va_get (D := (dC, dI)) (ci := 9) (v := .int v9_16) (C := RX9) (T := TX9) (N := 62) hx hb hts i_X9_comes_X9 hown hK hP 0 rfl rfl 16 (by decide) k_4 (fun _ h9 => h9) rfl dX9_comes_446 ?_
            refine lv_iadd hx hb dX9_comes_449 ?_
            refine lv_iload hx hb dX9_comes_450 (lv_at hl 5 rfl) ?_
            refine lv_iadd hx hb dX9_comes_452 ?_
            refine lv_iload hx hb dX9_comes_453 (lv_at hl 0 rfl) ?_
            obtain ⟨g_58, hf⟩ := x_gu hf
            refine va_iast hx hb hK hP hD hS 11 0 rfl rfl (x_gdin g_58) dX9_comes_455 (fun H locs hP hD hS => ?_)
            have hP : va_P (dC, dI) vwCl [(o9, .inr (9, x_O9 v9_0 v9_1 v9_2 v9_3 a9_4 a9_5 a9_6 a9_7 a9_8 a9_9 a9_10 a9_11 a9_12 v9_13 v9_14 v9_15 v9_16 v9_17 v9_18 a9_19 v9_20 v9_21 v9_22 a9_23 a9_24 a9_25 a9_26 a9_27 a9_28 a9_29 a9_30 a9_31 a9_32 a9_33 a9_34 v9_35 v9_36 a9_37 a9_38 a9_39 a9_40 a9_41 v9_42 a9_43 a9_44 a9_45 a9_46 a9_47 v9_48 v9_49 v9_50 v9_51 a9_52 a9_53 v9_54 v9_55 a9_56 a9_57 v9_58 a9_59 a9_60 a9_61)), (a9_4, .inl (cyI, 200, .inl g9_4)), (a9_5, .inl (cyZ, 200, .inl g9_5)), (a9_33, .inl (cyI, 202, .inl g9_33)), (a9_34, .inl (cyI, 202, .inl g9_34)), (a9_43, .inl (cyI, 20010, .inl g9_43)), (a9_44, .inl (cyI, 20010, .inl g9_44)), (a9_45, .inl (cyI, 20010, .inl g9_45)), (a9_46, .inl (cyI, 1001, .inl g9_46)), (a9_47, .inl (cyZ, 20010, .inl g9_47)), (a9_53, .inl (cyI, 20010, .inl g9_53)), (a9_57, .inl (cyI, 60600, .inl (upd g9_57 (Int32.toNatClampNeg ((l4 + v9_16) + l6)) r_54)))] H := hP
            have hD : va_D A [(o9, .inr (9, x_O9 v9_0 v9_1 v9_2 v9_3 a9_4 a9_5 a9_6 a9_7 a9_8 a9_9 a9_10 a9_11 a9_12 v9_13 v9_14 v9_15 v9_16 v9_17 v9_18 a9_19 v9_20 v9_21 v9_22 a9_23 a9_24 a9_25 a9_26 a9_27 a9_28 a9_29 a9_30 a9_31 a9_32 a9_33 a9_34 v9_35 v9_36 a9_37 a9_38 a9_39 a9_40 a9_41 v9_42 a9_43 a9_44 a9_45 a9_46 a9_47 v9_48 v9_49 v9_50 v9_51 a9_52 a9_53 v9_54 v9_55 a9_56 a9_57 v9_58 a9_59 a9_60 a9_61)), (a9_4, .inl (cyI, 200, .inl g9_4)), (a9_5, .inl (cyZ, 200, .inl g9_5)), (a9_33, .inl (cyI, 202, .inl g9_33)), (a9_34, .inl (cyI, 202, .inl g9_34)), (a9_43, .inl (cyI, 20010, .inl g9_43)), (a9_44, .inl (cyI, 20010, .inl g9_44)), (a9_45, .inl (cyI, 20010, .inl g9_45)), (a9_46, .inl (cyI, 1001, .inl g9_46)), (a9_47, .inl (cyZ, 20010, .inl g9_47)), (a9_53, .inl (cyI, 20010, .inl g9_53)), (a9_57, .inl (cyI, 60600, .inl (upd g9_57 (Int32.toNatClampNeg ((l4 + v9_16) + l6)) r_54)))] := hD
            refine lv_iconst (v := 1) hx hb dX9_comes_456 (by decide) ?_
            refine lv_istore (lv' := [(5, .int 1), (7, .int r_54), (0, .ref o9), (3, .int l3), (4, .int l4), (6, .int l6)]) hx hb dX9_comes_457 hl (by decide) rfl (fun ls hl => ?_)
            exact (hWW _ _ _ _ _).mpr ((ih (11, 0, 0, l3, l4, 1, l6, 0, 0, upd g9_57 (Int32.toNatClampNeg ((l4 + v9_16) + l6)) r_54) _ hf rfl _ _ _ _ _ _ _ _ _ _ rfl).2.2.2.2.2.2.2.2.2.2.2.1 rfl H locs ls hP hD hS (lv_sub hl [2, 3, 4, 0, 5] rfl))
        · replace hf := x_in c_55 hf
          refine lv_iconst (v := 0) hx hb dX9_comes_417 (by decide) ?_
          obtain rfl := Option.some.inj hf
          have hP9 := hP.sub (ws' := [(o9, .inr (9, x_O9 v9_0 v9_1 v9_2 v9_3 a9_4 a9_5 a9_6 a9_7 a9_8 a9_9 a9_10 a9_11 a9_12 v9_13 v9_14 v9_15 v9_16 v9_17 v9_18 a9_19 v9_20 v9_21 v9_22 a9_23 a9_24 a9_25 a9_26 a9_27 a9_28 a9_29 a9_30 a9_31 a9_32 a9_33 a9_34 v9_35 v9_36 a9_37 a9_38 a9_39 a9_40 a9_41 v9_42 a9_43 a9_44 a9_45 a9_46 a9_47 v9_48 v9_49 v9_50 v9_51 a9_52 a9_53 v9_54 v9_55 a9_56 a9_57 v9_58 a9_59 a9_60 a9_61)), (a9_4, .inl (cyI, 200, .inl g9_4)), (a9_5, .inl (cyZ, 200, .inl g9_5)), (a9_33, .inl (cyI, 202, .inl g9_33)), (a9_34, .inl (cyI, 202, .inl g9_34)), (a9_43, .inl (cyI, 20010, .inl g9_43)), (a9_44, .inl (cyI, 20010, .inl g9_44)), (a9_45, .inl (cyI, 20010, .inl g9_45)), (a9_46, .inl (cyI, 1001, .inl g9_46)), (a9_47, .inl (cyZ, 20010, .inl g9_47)), (a9_53, .inl (cyI, 20010, .inl g9_53)), (a9_57, .inl (cyI, 60600, .inl g9_57))]) [0, 1, 2, 3, 4, 5, 6, 7, 8, 9, 10, 11] rfl
          have hD9 := hD.sub (ws' := [(o9, .inr (9, x_O9 v9_0 v9_1 v9_2 v9_3 a9_4 a9_5 a9_6 a9_7 a9_8 a9_9 a9_10 a9_11 a9_12 v9_13 v9_14 v9_15 v9_16 v9_17 v9_18 a9_19 v9_20 v9_21 v9_22 a9_23 a9_24 a9_25 a9_26 a9_27 a9_28 a9_29 a9_30 a9_31 a9_32 a9_33 a9_34 v9_35 v9_36 a9_37 a9_38 a9_39 a9_40 a9_41 v9_42 a9_43 a9_44 a9_45 a9_46 a9_47 v9_48 v9_49 v9_50 v9_51 a9_52 a9_53 v9_54 v9_55 a9_56 a9_57 v9_58 a9_59 a9_60 a9_61)), (a9_4, .inl (cyI, 200, .inl g9_4)), (a9_5, .inl (cyZ, 200, .inl g9_5)), (a9_33, .inl (cyI, 202, .inl g9_33)), (a9_34, .inl (cyI, 202, .inl g9_34)), (a9_43, .inl (cyI, 20010, .inl g9_43)), (a9_44, .inl (cyI, 20010, .inl g9_44)), (a9_45, .inl (cyI, 20010, .inl g9_45)), (a9_46, .inl (cyI, 1001, .inl g9_46)), (a9_47, .inl (cyZ, 20010, .inl g9_47)), (a9_53, .inl (cyI, 20010, .inl g9_53)), (a9_57, .inl (cyI, 60600, .inl g9_57))]) [0, 1, 2, 3, 4, 5, 6, 7, 8, 9, 10, 11] (by decide) rfl
          exact W.zret (ty := .boolean) hx hb hr rfl (fun t ht hW => ⟨⟨_, (), rfl, ⟨rfl, rfl⟩, by rw [ht]; exact hP9, va_K.moved hW.alike hK, hD9⟩, hS.F ht⟩) hS.2.2 dX9_comes_418
    · intro hq H locs ls hP hD hS hl
      subst hq
      refine (hWW _ _ _ _ _).mp ?_
      replace hf := x_ip rfl (x_in (by decide) (x_in (by decide) (x_in (by decide) (x_in (by decide) (x_in (by decide) (x_in (by decide) (x_in (by decide) (x_in (by decide) (x_in (by decide) (x_in (by decide) (x_in (by decide) hf)))))))))))
      refine lv_iinc (v := (l6 + 1)) (lv' := [(6, .int (l6 + 1)), (0, .ref o9), (3, .int l3), (4, .int l4), (5, .int l5)]) hx hb dX9_comes_459 hl (k := 4) rfl rfl (by decide) rfl (fun ls hl => ?_)
      refine lv_goto (tgt := 375) hx hb dX9_comes_462 (by decide) ?_
      exact (hWW _ _ _ _ _).mpr ((ih (10, 0, 0, l3, l4, l5, l6 + 1, 0, 0, g9_57) _ hf rfl _ _ _ _ _ _ _ _ _ _ rfl).2.2.2.2.2.2.2.2.2.2.1 rfl H locs ls hP hD hS (lv_sub hl [1, 2, 3, 4, 0] rfl))
    · intro hq H locs ls hP hD hS hl
      subst hq
      refine (hWW _ _ _ _ _).mp ?_
      replace hf := x_ip rfl (x_in (by decide) (x_in (by decide) (x_in (by decide) (x_in (by decide) (x_in (by decide) (x_in (by decide) (x_in (by decide) (x_in (by decide) (x_in (by decide) (x_in (by decide) (x_in (by decide) (x_in (by decide) hf))))))))))))
      refine lv_iload hx hb dX9_comes_518 (lv_at hl 2 rfl) ?_
      refine lv_if_eq (tgt := 528) hx hb dX9_comes_520 (by decide) (fun c_59 => ?_) (fun c_59 => ?_)
      · replace hf := x_ip c_59 hf
        refine lv_iconst (v := 1) hx hb dX9_comes_528 (by decide) ?_
        obtain rfl := Option.some.inj hf
        have hP9 := hP.sub (ws' := [(o9, .inr (9, x_O9 v9_0 v9_1 v9_2 v9_3 a9_4 a9_5 a9_6 a9_7 a9_8 a9_9 a9_10 a9_11 a9_12 v9_13 v9_14 v9_15 v9_16 v9_17 v9_18 a9_19 v9_20 v9_21 v9_22 a9_23 a9_24 a9_25 a9_26 a9_27 a9_28 a9_29 a9_30 a9_31 a9_32 a9_33 a9_34 v9_35 v9_36 a9_37 a9_38 a9_39 a9_40 a9_41 v9_42 a9_43 a9_44 a9_45 a9_46 a9_47 v9_48 v9_49 v9_50 v9_51 a9_52 a9_53 v9_54 v9_55 a9_56 a9_57 v9_58 a9_59 a9_60 a9_61)), (a9_4, .inl (cyI, 200, .inl g9_4)), (a9_5, .inl (cyZ, 200, .inl g9_5)), (a9_33, .inl (cyI, 202, .inl g9_33)), (a9_34, .inl (cyI, 202, .inl g9_34)), (a9_43, .inl (cyI, 20010, .inl g9_43)), (a9_44, .inl (cyI, 20010, .inl g9_44)), (a9_45, .inl (cyI, 20010, .inl g9_45)), (a9_46, .inl (cyI, 1001, .inl g9_46)), (a9_47, .inl (cyZ, 20010, .inl g9_47)), (a9_53, .inl (cyI, 20010, .inl g9_53)), (a9_57, .inl (cyI, 60600, .inl g9_57))]) [0, 1, 2, 3, 4, 5, 6, 7, 8, 9, 10, 11] rfl
        have hD9 := hD.sub (ws' := [(o9, .inr (9, x_O9 v9_0 v9_1 v9_2 v9_3 a9_4 a9_5 a9_6 a9_7 a9_8 a9_9 a9_10 a9_11 a9_12 v9_13 v9_14 v9_15 v9_16 v9_17 v9_18 a9_19 v9_20 v9_21 v9_22 a9_23 a9_24 a9_25 a9_26 a9_27 a9_28 a9_29 a9_30 a9_31 a9_32 a9_33 a9_34 v9_35 v9_36 a9_37 a9_38 a9_39 a9_40 a9_41 v9_42 a9_43 a9_44 a9_45 a9_46 a9_47 v9_48 v9_49 v9_50 v9_51 a9_52 a9_53 v9_54 v9_55 a9_56 a9_57 v9_58 a9_59 a9_60 a9_61)), (a9_4, .inl (cyI, 200, .inl g9_4)), (a9_5, .inl (cyZ, 200, .inl g9_5)), (a9_33, .inl (cyI, 202, .inl g9_33)), (a9_34, .inl (cyI, 202, .inl g9_34)), (a9_43, .inl (cyI, 20010, .inl g9_43)), (a9_44, .inl (cyI, 20010, .inl g9_44)), (a9_45, .inl (cyI, 20010, .inl g9_45)), (a9_46, .inl (cyI, 1001, .inl g9_46)), (a9_47, .inl (cyZ, 20010, .inl g9_47)), (a9_53, .inl (cyI, 20010, .inl g9_53)), (a9_57, .inl (cyI, 60600, .inl g9_57))]) [0, 1, 2, 3, 4, 5, 6, 7, 8, 9, 10, 11] (by decide) rfl
        exact W.zret (ty := .boolean) hx hb hr rfl (fun t ht hW => ⟨⟨_, (), rfl, ⟨rfl, rfl⟩, by rw [ht]; exact hP9, va_K.moved hW.alike hK, hD9⟩, hS.F ht⟩) hS.2.2 dX9_comes_529
      · replace hf := x_in c_59 hf
        refine lv_aload_n hx hb dX9_comes_523 rfl (lv_at hl 0 rfl) ?_
        refine lv_iload_n hx hb dX9_comes_524 rfl (lv_at hl 1 rfl) ?_
        obtain ⟨r_60, h_60, hf⟩ := x_bi hf
        have hPc := hP.sub (ws' := [(o9, .inr (9, x_O9 v9_0 v9_1 v9_2 v9_3 a9_4 a9_5 a9_6 a9_7 a9_8 a9_9 a9_10 a9_11 a9_12 v9_13 v9_14 v9_15 v9_16 v9_17 v9_18 a9_19 v9_20 v9_21 v9_22 a9_23 a9_24 a9_25 a9_26 a9_27 a9_28 a9_29 a9_30 a9_31 a9_32 a9_33 a9_34 v9_35 v9_36 a9_37 a9_38 a9_39 a9_40 a9_41 v9_42 a9_43 a9_44 a9_45 a9_46 a9_47 v9_48 v9_49 v9_50 v9_51 a9_52 a9_53 v9_54 v9_55 a9_56 a9_57 v9_58 a9_59 a9_60 a9_61)), (a9_47, .inl (cyZ, 20010, .inl g9_47)), (a9_53, .inl (cyI, 20010, .inl g9_53))]) [0, 9, 10] rfl
        have hDc := hD.sub (ws' := [(o9, .inr (9, x_O9 v9_0 v9_1 v9_2 v9_3 a9_4 a9_5 a9_6 a9_7 a9_8 a9_9 a9_10 a9_11 a9_12 v9_13 v9_14 v9_15 v9_16 v9_17 v9_18 a9_19 v9_20 v9_21 v9_22 a9_23 a9_24 a9_25 a9_26 a9_27 a9_28 a9_29 a9_30 a9_31 a9_32 a9_33 a9_34 v9_35 v9_36 a9_37 a9_38 a9_39 a9_40 a9_41 v9_42 a9_43 a9_44 a9_45 a9_46 a9_47 v9_48 v9_49 v9_50 v9_51 a9_52 a9_53 v9_54 v9_55 a9_56 a9_57 v9_58 a9_59 a9_60 a9_61)), (a9_47, .inl (cyZ, 20010, .inl g9_47)), (a9_53, .inl (cyI, 20010, .inl g9_53))]) [0, 9, 10] (by decide) rfl
        have hFc := va_free (wc := [(o9, .inr (9, x_O9 v9_0 v9_1 v9_2 v9_3 a9_4 a9_5 a9_6 a9_7 a9_8 a9_9 a9_10 a9_11 a9_12 v9_13 v9_14 v9_15 v9_16 v9_17 v9_18 a9_19 v9_20 v9_21 v9_22 a9_23 a9_24 a9_25 a9_26 a9_27 a9_28 a9_29 a9_30 a9_31 a9_32 a9_33 a9_34 v9_35 v9_36 a9_37 a9_38 a9_39 a9_40 a9_41 v9_42 a9_43 a9_44 a9_45 a9_46 a9_47 v9_48 v9_49 v9_50 v9_51 a9_52 a9_53 v9_54 v9_55 a9_56 a9_57 v9_58 a9_59 a9_60 a9_61)), (a9_47, .inl (cyZ, 20010, .inl g9_47)), (a9_53, .inl (cyI, 20010, .inl g9_53))]) hD hS hA [0, 9, 10] rfl
        refine va_callv (va_runV (As := [.int l3]) (rest := []) ⟨hx, hb, hml, hown, hts⟩ (c_X9_waits l dC dI cyI cyZ cyJ H.size o9 v9_0 v9_1 v9_2 v9_3 a9_4 a9_5 a9_6 a9_7 a9_8 a9_9 a9_10 a9_11 a9_12 v9_13 v9_14 v9_15 v9_16 v9_17 v9_18 a9_19 v9_20 v9_21 v9_22 a9_23 a9_24 a9_25 a9_26 a9_27 a9_28 a9_29 a9_30 a9_31 a9_32 a9_33 a9_34 v9_35 v9_36 a9_37 a9_38 a9_39 a9_40 a9_41 v9_42 a9_43 a9_44 a9_45 a9_46 a9_47 v9_48 v9_49 v9_50 v9_51 a9_52 a9_53 v9_54 v9_55 a9_56 a9_57 v9_58 a9_59 a9_60 a9_61 g9_47 g9_53 l3 r_60 h_60) (cwV 1 hts gX9_comes_X9_waits rfl rfl rfl (by decide +kernel) ⟨Nat.le_of_ble_eq_true rfl, Nat.le_of_ble_eq_true rfl⟩) (x_pVD hN hK hPc hDc (ci := 9) (q0 := 0) rfl rfl) rfl rfl hl.1 rfl (lv_room (Nat.le_of_ble_eq_true rfl)) dX9_comes_525 ⟨Nat.le_of_ble_eq_true rfl, Nat.le_of_ble_eq_true rfl⟩) hS (fun q _ h => hFc q h) hFc (fun u t H1 locs ht hvm hw hB hz1 hk1 hS => ?_)
        obtain ⟨hP1, hK1, hD1⟩ := hB
        rw [ht] at hP1
        obtain ⟨hP, hD⟩ := va_join (wr := [(a9_4, .inl (cyI, 200, .inl g9_4)), (a9_5, .inl (cyZ, 200, .inl g9_5)), (a9_33, .inl (cyI, 202, .inl g9_33)), (a9_34, .inl (cyI, 202, .inl g9_34)), (a9_43, .inl (cyI, 20010, .inl g9_43)), (a9_44, .inl (cyI, 20010, .inl g9_44)), (a9_45, .inl (cyI, 20010, .inl g9_45)), (a9_46, .inl (cyI, 1001, .inl g9_46)), (a9_57, .inl (cyI, 60600, .inl g9_57))]) (w1 := [(o9, .inr (9, x_O9 v9_0 v9_1 v9_2 v9_3 a9_4 a9_5 a9_6 a9_7 a9_8 a9_9 a9_10 a9_11 a9_12 v9_13 v9_14 v9_15 v9_16 v9_17 v9_18 a9_19 v9_20 v9_21 v9_22 a9_23 a9_24 a9_25 a9_26 a9_27 a9_28 a9_29 a9_30 a9_31 a9_32 a9_33 a9_34 v9_35 v9_36 a9_37 a9_38 a9_39 a9_40 a9_41 v9_42 a9_43 a9_44 a9_45 a9_46 a9_47 v9_48 v9_49 v9_50 v9_51 a9_52 a9_53 v9_54 (r_60.1) a9_56 a9_57 v9_58 a9_59 a9_60 a9_61)), (a9_47, .inl (cyZ, 20010, .inl r_60.2.1)), (a9_53, .inl (cyI, 20010, .inl r_60.2.2))]) hP hD [0, 9, 10] [1, 2, 3, 4, 5, 6, 7, 8, 11] rfl rfl (by decide) (by decide) hk1 hFc hP1 hD1
        clear hz1 hk1 hPc hDc hFc hP1 hK1 hD1 ht hvm t u
        generalize H1 = H at hP hS ⊢
        have hP : va_P (dC, dI) vwCl [(a9_4, .inl (cyI, 200, .inl g9_4)), (a9_5, .inl (cyZ, 200, .inl g9_5)), (a9_33, .inl (cyI, 202, .inl g9_33)), (a9_34, .inl (cyI, 202, .inl g9_34)), (a9_43, .inl (cyI, 20010, .inl g9_43)), (a9_44, .inl (cyI, 20010, .inl g9_44)), (a9_45, .inl (cyI, 20010, .inl g9_45)), (a9_46, .inl (cyI, 1001, .inl g9_46)), (a9_57, .inl (cyI, 60600, .inl g9_57)), (o9, .inr (9, x_O9 v9_0 v9_1 v9_2 v9_3 a9_4 a9_5 a9_6 a9_7 a9_8 a9_9 a9_10 a9_11 a9_12 v9_13 v9_14 v9_15 v9_16 v9_17 v9_18 a9_19 v9_20 v9_21 v9_22 a9_23 a9_24 a9_25 a9_26 a9_27 a9_28 a9_29 a9_30 a9_31 a9_32 a9_33 a9_34 v9_35 v9_36 a9_37 a9_38 a9_39 a9_40 a9_41 v9_42 a9_43 a9_44 a9_45 a9_46 a9_47 v9_48 v9_49 v9_50 v9_51 a9_52 a9_53 v9_54 (r_60.1) a9_56 a9_57 v9_58 a9_59 a9_60 a9_61)), (a9_47, .inl (cyZ, 20010, .inl r_60.2.1)), (a9_53, .inl (cyI, 20010, .inl r_60.2.2))] H := hP
        have hD : va_D A [(a9_4, .inl (cyI, 200, .inl g9_4)), (a9_5, .inl (cyZ, 200, .inl g9_5)), (a9_33, .inl (cyI, 202, .inl g9_33)), (a9_34, .inl (cyI, 202, .inl g9_34)), (a9_43, .inl (cyI, 20010, .inl g9_43)), (a9_44, .inl (cyI, 20010, .inl g9_44)), (a9_45, .inl (cyI, 20010, .inl g9_45)), (a9_46, .inl (cyI, 1001, .inl g9_46)), (a9_57, .inl (cyI, 60600, .inl g9_57)), (o9, .inr (9, x_O9 v9_0 v9_1 v9_2 v9_3 a9_4 a9_5 a9_6 a9_7 a9_8 a9_9 a9_10 a9_11 a9_12 v9_13 v9_14 v9_15 v9_16 v9_17 v9_18 a9_19 v9_20 v9_21 v9_22 a9_23 a9_24 a9_25 a9_26 a9_27 a9_28 a9_29 a9_30 a9_31 a9_32 a9_33 a9_34 v9_35 v9_36 a9_37 a9_38 a9_39 a9_40 a9_41 v9_42 a9_43 a9_44 a9_45 a9_46 a9_47 v9_48 v9_49 v9_50 v9_51 a9_52 a9_53 v9_54 (r_60.1) a9_56 a9_57 v9_58 a9_59 a9_60 a9_61)), (a9_47, .inl (cyZ, 20010, .inl r_60.2.1)), (a9_53, .inl (cyI, 20010, .inl r_60.2.2))] := hD
        refine lv_iconst (v := 1) hx hb dX9_comes_528 (by decide) ?_
        obtain rfl := Option.some.inj hf
        have hP9 := hP.sub (ws' := [(o9, .inr (9, x_O9 v9_0 v9_1 v9_2 v9_3 a9_4 a9_5 a9_6 a9_7 a9_8 a9_9 a9_10 a9_11 a9_12 v9_13 v9_14 v9_15 v9_16 v9_17 v9_18 a9_19 v9_20 v9_21 v9_22 a9_23 a9_24 a9_25 a9_26 a9_27 a9_28 a9_29 a9_30 a9_31 a9_32 a9_33 a9_34 v9_35 v9_36 a9_37 a9_38 a9_39 a9_40 a9_41 v9_42 a9_43 a9_44 a9_45 a9_46 a9_47 v9_48 v9_49 v9_50 v9_51 a9_52 a9_53 v9_54 (r_60.1) a9_56 a9_57 v9_58 a9_59 a9_60 a9_61)), (a9_4, .inl (cyI, 200, .inl g9_4)), (a9_5, .inl (cyZ, 200, .inl g9_5)), (a9_33, .inl (cyI, 202, .inl g9_33)), (a9_34, .inl (cyI, 202, .inl g9_34)), (a9_43, .inl (cyI, 20010, .inl g9_43)), (a9_44, .inl (cyI, 20010, .inl g9_44)), (a9_45, .inl (cyI, 20010, .inl g9_45)), (a9_46, .inl (cyI, 1001, .inl g9_46)), (a9_47, .inl (cyZ, 20010, .inl r_60.2.1)), (a9_53, .inl (cyI, 20010, .inl r_60.2.2)), (a9_57, .inl (cyI, 60600, .inl g9_57))]) [9, 0, 1, 2, 3, 4, 5, 6, 7, 10, 11, 8] rfl
        have hD9 := hD.sub (ws' := [(o9, .inr (9, x_O9 v9_0 v9_1 v9_2 v9_3 a9_4 a9_5 a9_6 a9_7 a9_8 a9_9 a9_10 a9_11 a9_12 v9_13 v9_14 v9_15 v9_16 v9_17 v9_18 a9_19 v9_20 v9_21 v9_22 a9_23 a9_24 a9_25 a9_26 a9_27 a9_28 a9_29 a9_30 a9_31 a9_32 a9_33 a9_34 v9_35 v9_36 a9_37 a9_38 a9_39 a9_40 a9_41 v9_42 a9_43 a9_44 a9_45 a9_46 a9_47 v9_48 v9_49 v9_50 v9_51 a9_52 a9_53 v9_54 (r_60.1) a9_56 a9_57 v9_58 a9_59 a9_60 a9_61)), (a9_4, .inl (cyI, 200, .inl g9_4)), (a9_5, .inl (cyZ, 200, .inl g9_5)), (a9_33, .inl (cyI, 202, .inl g9_33)), (a9_34, .inl (cyI, 202, .inl g9_34)), (a9_43, .inl (cyI, 20010, .inl g9_43)), (a9_44, .inl (cyI, 20010, .inl g9_44)), (a9_45, .inl (cyI, 20010, .inl g9_45)), (a9_46, .inl (cyI, 1001, .inl g9_46)), (a9_47, .inl (cyZ, 20010, .inl r_60.2.1)), (a9_53, .inl (cyI, 20010, .inl r_60.2.2)), (a9_57, .inl (cyI, 60600, .inl g9_57))]) [9, 0, 1, 2, 3, 4, 5, 6, 7, 10, 11, 8] (by decide) rfl
        exact W.zret (ty := .boolean) hx hb hr rfl (fun t ht hW => ⟨⟨_, (), rfl, ⟨rfl, rfl⟩, by rw [ht]; exact hP9, va_K.moved hW.alike hK, hD9⟩, hS.F ht⟩) hS.2.2 dX9_comes_529)
  refine lv_aload_n hx hb dX9_comes_0 rfl (lv_at hl 0 rfl) ?_
  refine va_get (D := (dC, dI)) (ci := 9) (v := .ref a9_46) (C := RX9) (T := TX9) (N := 62) hx hb hts i_X9_comes_X9 hown hK hP 0 rfl rfl 46 (by decide) k_9 (fun _ h9 => h9) rfl dX9_comes_1 ?_
  refine lv_iload_n hx hb dX9_comes_4 rfl (lv_at hl 1 rfl) ?_
  obtain ⟨g_61, hf⟩ := x_gu hf
  refine va_iald hx hb hK hP 8 0 rfl rfl (x_gdin g_61) dX9_comes_5 ?_
  refine lv_istore_n (lv' := [(3, .int (g9_46 (Int32.toNatClampNeg p1))), (0, .ref o9), (1, .int p1), (2, .int p2)]) hx hb dX9_comes_6 rfl hl (by decide) rfl (fun ls hl => ?_)
  exact (hWW _ _ _ _ _).mpr ((J v9_48 v9_55 g9_43 g9_44 g9_45 g9_46 g9_47 g9_53 (0, p1, p2, g9_46 (Int32.toNatClampNeg p1), 0, 0, 0, 0, 0, g9_57) _ hf rfl _ _ _ _ _ _ _ _ _ _ rfl).1 rfl H locs ls hP hD hS (lv_sub hl [1, 2, 3, 0] rfl))

def f_X9_formed_L (v9_14 : Int32) (v9_16 : Int32) (v9_18 : Int32) (v9_20 : Int32) (v9_21 : Int32) (g9_19 : Nat → Int32) (g9_23 : Nat → Int32) (g9_24 : Nat → Int32) (g9_26 : Nat → Int32) (g9_27 : Nat → Int32) (g9_28 : Nat → Int32) (g9_29 : Nat → Int32) (g9_30 : Nat → Int32) (g9_31 : Nat → Int32) (z : Nat × Int32 × Int32 × Int32 × Int32) : Option (Int32) := match z with
  | (q, l1, l2, l3, l4) => if q = 0 then if v9_18 ≤ l2 then if l1 ≤ v9_16 then (f_X9_formed_L v9_14 v9_16 v9_18 v9_20 v9_21 g9_19 g9_23 g9_24 g9_26 g9_27 g9_28 g9_29 g9_30 g9_31 (1, 0, 0, 0, 0)) else some 0 else if x_gd l2 20 = true then (f_X9_kindOf (g9_19 (Int32.toNatClampNeg l2))) >>= (fun r_4 => (f_X9_places r_4) >>= (fun r_5 => (f_X9_formed_L v9_14 v9_16 v9_18 v9_20 v9_21 g9_19 g9_23 g9_24 g9_26 g9_27 g9_28 g9_29 g9_30 g9_31 (0, l1 + r_5, l2 + 1, 0, 0)))) else none else if q = 1 then if v9_20 ≤ l2 then (f_X9_formed_L v9_14 v9_16 v9_18 v9_20 v9_21 g9_19 g9_23 g9_24 g9_26 g9_27 g9_28 g9_29 g9_30 g9_31 (13, 0, 0, 0, 0)) else if x_gd l2 1000 = true then if (g9_23 (Int32.toNatClampNeg l2)) < (21 : Int32) then (f_X9_formed_L v9_14 v9_16 v9_18 v9_20 v9_21 g9_19 g9_23 g9_24 g9_26 g9_27 g9_28 g9_29 g9_30 g9_31 (2, 0, l2, g9_23 (Int32.toNatClampNeg l2), 0)) else if (g9_23 (Int32.toNatClampNeg l2)) ≤ (25 : Int32) then (f_X9_formed_L v9_14 v9_16 v9_18 v9_20 v9_21 g9_19 g9_23 g9_24 g9_26 g9_27 g9_28 g9_29 g9_30 g9_31 (4, 0, l2, g9_23 (Int32.toNatClampNeg l2), 0)) else (f_X9_formed_L v9_14 v9_16 v9_18 v9_20 v9_21 g9_19 g9_23 g9_24 g9_26 g9_27 g9_28 g9_29 g9_30 g9_31 (2, 0, l2, g9_23 (Int32.toNatClampNeg l2), 0)) else none else if q = 2 then if l3 < (54 : Int32) then (f_X9_formed_L v9_14 v9_16 v9_18 v9_20 v9_21 g9_19 g9_23 g9_24 g9_26 g9_27 g9_28 g9_29 g9_30 g9_31 (3, 0, l2, l3, 0)) else if l3 ≤ (58 : Int32) then (f_X9_formed_L v9_14 v9_16 v9_18 v9_20 v9_21 g9_19 g9_23 g9_24 g9_26 g9_27 g9_28 g9_29 g9_30 g9_31 (4, 0, l2, l3, 0)) else (f_X9_formed_L v9_14 v9_16 v9_18 v9_20 v9_21 g9_19 g9_23 g9_24 g9_26 g9_27 g9_28 g9_29 g9_30 g9_31 (3, 0, l2, l3, 0)) else if q = 3 then if l3 = (132 : Int32) then (f_X9_formed_L v9_14 v9_16 v9_18 v9_20 v9_21 g9_19 g9_23 g9_24 g9_26 g9_27 g9_28 g9_29 g9_30 g9_31 (4, 0, l2, l3, 0)) else if l3 = (169 : Int32) then (f_X9_formed_L v9_14 v9_16 v9_18 v9_20 v9_21 g9_19 g9_23 g9_24 g9_26 g9_27 g9_28 g9_29 g9_30 g9_31 (4, 0, l2, l3, 0)) else (f_X9_formed_L v9_14 v9_16 v9_18 v9_20 v9_21 g9_19 g9_23 g9_24 g9_26 g9_27 g9_28 g9_29 g9_30 g9_31 (6, 0, l2, l3, 0)) else if q = 4 then if l3 = (22 : Int32) then (f_X9_formed_L v9_14 v9_16 v9_18 v9_20 v9_21 g9_19 g9_23 g9_24 g9_26 g9_27 g9_28 g9_29 g9_30 g9_31 (5, 0, l2, l3, 0)) else if l3 = (24 : Int32) then (f_X9_formed_L v9_14 v9_16 v9_18 v9_20 v9_21 g9_19 g9_23 g9_24 g9_26 g9_27 g9_28 g9_29 g9_30 g9_31 (5, 0, l2, l3, 0)) else if l3 = (55 : Int32) then (f_X9_formed_L v9_14 v9_16 v9_18 v9_20 v9_21 g9_19 g9_23 g9_24 g9_26 g9_27 g9_28 g9_29 g9_30 g9_31 (5, 0, l2, l3, 0)) else if l3 = (57 : Int32) then (f_X9_formed_L v9_14 v9_16 v9_18 v9_20 v9_21 g9_19 g9_23 g9_24 g9_26 g9_27 g9_28 g9_29 g9_30 g9_31 (5, 0, l2, l3, 0)) else if x_gd l2 1000 = true then if v9_16 ≤ (g9_24 (Int32.toNatClampNeg l2)) then some 0 else (f_X9_formed_L v9_14 v9_16 v9_18 v9_20 v9_21 g9_19 g9_23 g9_24 g9_26 g9_27 g9_28 g9_29 g9_30 g9_31 (6, 0, l2, l3, 0)) else none else if q = 5 then if x_gd l2 1000 = true then if v9_16 ≤ (g9_24 (Int32.toNatClampNeg l2)) then some 0 else if x_gd l2 1000 = true then if ((g9_24 (Int32.toNatClampNeg l2)) + (1 : Int32)) < v9_16 then (f_X9_formed_L v9_14 v9_16 v9_18 v9_20 v9_21 g9_19 g9_23 g9_24 g9_26 g9_27 g9_28 g9_29 g9_30 g9_31 (6, 0, l2, l3, 0)) else some 0 else none else none else if q = 6 then if l3 < (153 : Int32) then (f_X9_formed_L v9_14 v9_16 v9_18 v9_20 v9_21 g9_19 g9_23 g9_24 g9_26 g9_27 g9_28 g9_29 g9_30 g9_31 (7, 0, l2, l3, 0)) else if l3 ≤ (168 : Int32) then (f_X9_formed_L v9_14 v9_16 v9_18 v9_20 v9_21 g9_19 g9_23 g9_24 g9_26 g9_27 g9_28 g9_29 g9_30 g9_31 (8, 0, l2, l3, 0)) else (f_X9_formed_L v9_14 v9_16 v9_18 v9_20 v9_21 g9_19 g9_23 g9_24 g9_26 g9_27 g9_28 g9_29 g9_30 g9_31 (7, 0, l2, l3, 0)) else if q = 7 then if l3 = (198 : Int32) then (f_X9_formed_L v9_14 v9_16 v9_18 v9_20 v9_21 g9_19 g9_23 g9_24 g9_26 g9_27 g9_28 g9_29 g9_30 g9_31 (8, 0, l2, l3, 0)) else if l3 = (199 : Int32) then (f_X9_formed_L v9_14 v9_16 v9_18 v9_20 v9_21 g9_19 g9_23 g9_24 g9_26 g9_27 g9_28 g9_29 g9_30 g9_31 (8, 0, l2, l3, 0)) else (f_X9_formed_L v9_14 v9_16 v9_18 v9_20 v9_21 g9_19 g9_23 g9_24 g9_26 g9_27 g9_28 g9_29 g9_30 g9_31 (9, 0, l2, l3, 0)) else if q = 8 then if x_gd l2 1000 = true then if (g9_24 (Int32.toNatClampNeg l2)) < v9_20 then (f_X9_formed_L v9_14 v9_16 v9_18 v9_20 v9_21 g9_19 g9_23 g9_24 g9_26 g9_27 g9_28 g9_29 g9_30 g9_31 (9, 0, l2, l3, 0)) else some 0 else none else if q = 9 then if l3 = (170 : Int32) then (f_X9_formed_L v9_14 v9_16 v9_18 v9_20 v9_21 g9_19 g9_23 g9_24 g9_26 g9_27 g9_28 g9_29 g9_30 g9_31 (10, 0, l2, 0, 0)) else if l3 = (171 : Int32) then (f_X9_formed_L v9_14 v9_16 v9_18 v9_20 v9_21 g9_19 g9_23 g9_24 g9_26 g9_27 g9_28 g9_29 g9_30 g9_31 (10, 0, l2, 0, 0)) else (f_X9_formed_L v9_14 v9_16 v9_18 v9_20 v9_21 g9_19 g9_23 g9_24 g9_26 g9_27 g9_28 g9_29 g9_30 g9_31 (12, 0, l2, 0, 0)) else if q = 10 then if x_gd l2 1000 = true then if (g9_27 (Int32.toNatClampNeg l2)) = (0 : Int32) then some 0 else (f_X9_formed_L v9_14 v9_16 v9_18 v9_20 v9_21 g9_19 g9_23 g9_24 g9_26 g9_27 g9_28 g9_29 g9_30 g9_31 (11, 0, l2, 0, 0)) else none else if q = 11 then if x_gd l2 1000 = true then if (g9_27 (Int32.toNatClampNeg l2)) ≤ l4 then (f_X9_formed_L v9_14 v9_16 v9_18 v9_20 v9_21 g9_19 g9_23 g9_24 g9_26 g9_27 g9_28 g9_29 g9_30 g9_31 (12, 0, l2, 0, 0)) else if x_gd l2 1000 = true then if x_gd ((g9_26 (Int32.toNatClampNeg l2)) + l4) 50000 = true then if (g9_28 (Int32.toNatClampNeg ((g9_26 (Int32.toNatClampNeg l2)) + l4))) < v9_20 then (f_X9_formed_L v9_14 v9_16 v9_18 v9_20 v9_21 g9_19 g9_23 g9_24 g9_26 g9_27 g9_28 g9_29 g9_30 g9_31 (11, 0, l2, 0, l4 + 1)) else some 0 else none else none else none else if q = 12 then (f_X9_formed_L v9_14 v9_16 v9_18 v9_20 v9_21 g9_19 g9_23 g9_24 g9_26 g9_27 g9_28 g9_29 g9_30 g9_31 (1, 0, l2 + 1, 0, 0)) else if q = 13 then if v9_21 ≤ l2 then some 1 else if x_gd l2 50 = true then if v9_20 ≤ (g9_29 (Int32.toNatClampNeg l2)) then some 0 else if x_gd l2 50 = true then if v9_20 < (g9_30 (Int32.toNatClampNeg l2)) then some 0 else if x_gd l2 50 = true then if x_gd l2 50 = true then if (g9_30 (Int32.toNatClampNeg l2)) ≤ (g9_29 (Int32.toNatClampNeg l2)) then some 0 else if x_gd l2 50 = true then if (g9_31 (Int32.toNatClampNeg l2)) < v9_20 then (f_X9_formed_L v9_14 v9_16 v9_18 v9_20 v9_21 g9_19 g9_23 g9_24 g9_26 g9_27 g9_28 g9_29 g9_30 g9_31 (13, 0, l2 + 1, 0, 0)) else some 0 else none else none else none else none else none else none
partial_fixpoint
def f_X9_formed (v9_14 : Int32) (v9_16 : Int32) (v9_18 : Int32) (v9_20 : Int32) (v9_21 : Int32) (g9_19 : Nat → Int32) (g9_23 : Nat → Int32) (g9_24 : Nat → Int32) (g9_26 : Nat → Int32) (g9_27 : Nat → Int32) (g9_28 : Nat → Int32) (g9_29 : Nat → Int32) (g9_30 : Nat → Int32) (g9_31 : Nat → Int32) : Option (Int32) := if v9_20 = (0 : Int32) then some 0 else if v9_14 = (0 : Int32) then (f_X9_formed_L v9_14 v9_16 v9_18 v9_20 v9_21 g9_19 g9_23 g9_24 g9_26 g9_27 g9_28 g9_29 g9_30 g9_31 (0, 0, 0, 0, 0)) else (f_X9_formed_L v9_14 v9_16 v9_18 v9_20 v9_21 g9_19 g9_23 g9_24 g9_26 g9_27 g9_28 g9_29 g9_30 g9_31 (0, 1, 0, 0, 0))
theorem i_X9_formed_X9 : ∀ w ∈ wsX90, w ∈ wsX9_formed := fun _ h => List.mem_cons_of_mem _ (List.mem_append_right _ h)
set_option maxHeartbeats 4000000 in
set_option maxRecDepth 100000 in
theorem c_X9_formed (l : Launch) (dC : Nat → ClassId) (dI : Nat → Nat → Nat) (cyI cyZ cyJ : ClassId) (sz : Nat) (o9 : Nat) (v9_0 : Int32) (v9_1 : Int32) (v9_2 : Int32) (v9_3 : Int32) (a9_4 : Nat) (a9_5 : Nat) (a9_6 : Nat) (a9_7 : Nat) (a9_8 : Nat) (a9_9 : Nat) (a9_10 : Nat) (a9_11 : Nat) (a9_12 : Nat) (v9_13 : Int32) (v9_14 : Int32) (v9_15 : Int32) (v9_16 : Int32) (v9_17 : Int32) (v9_18 : Int32) (a9_19 : Nat) (v9_20 : Int32) (v9_21 : Int32) (v9_22 : Int32) (a9_23 : Nat) (a9_24 : Nat) (a9_25 : Nat) (a9_26 : Nat) (a9_27 : Nat) (a9_28 : Nat) (a9_29 : Nat) (a9_30 : Nat) (a9_31 : Nat) (a9_32 : Nat) (a9_33 : Nat) (a9_34 : Nat) (v9_35 : Int32) (v9_36 : Int32) (a9_37 : Nat) (a9_38 : Nat) (a9_39 : Nat) (a9_40 : Nat) (a9_41 : Nat) (v9_42 : Int32) (a9_43 : Nat) (a9_44 : Nat) (a9_45 : Nat) (a9_46 : Nat) (a9_47 : Nat) (v9_48 : Int32) (v9_49 : Int32) (v9_50 : Int32) (v9_51 : Int32) (a9_52 : Nat) (a9_53 : Nat) (v9_54 : Int32) (v9_55 : Int32) (a9_56 : Nat) (a9_57 : Nat) (v9_58 : Int32) (a9_59 : Nat) (a9_60 : Nat) (a9_61 : Nat) (g9_19 : Nat → Int32) (g9_23 : Nat → Int32) (g9_24 : Nat → Int32) (g9_26 : Nat → Int32) (g9_27 : Nat → Int32) (g9_28 : Nat → Int32) (g9_29 : Nat → Int32) (g9_30 : Nat → Int32) (g9_31 : Nat → Int32) (R : Int32) (hf : f_X9_formed v9_14 v9_16 v9_18 v9_20 v9_21 g9_19 g9_23 g9_24 g9_26 g9_27 g9_28 g9_29 g9_30 g9_31 = some R) : Met l yX9_formed wsX9_formed ({ frames := 1, cells := 0, slots := 0, locals := 20 }) (va_Pc [.ref o9] (x_Pre (dC, dI) (x_T cyI cyZ cyJ) [(o9, .inr (9, x_O9 v9_0 v9_1 v9_2 v9_3 a9_4 a9_5 a9_6 a9_7 a9_8 a9_9 a9_10 a9_11 a9_12 v9_13 v9_14 v9_15 v9_16 v9_17 v9_18 a9_19 v9_20 v9_21 v9_22 a9_23 a9_24 a9_25 a9_26 a9_27 a9_28 a9_29 a9_30 a9_31 a9_32 a9_33 a9_34 v9_35 v9_36 a9_37 a9_38 a9_39 a9_40 a9_41 v9_42 a9_43 a9_44 a9_45 a9_46 a9_47 v9_48 v9_49 v9_50 v9_51 a9_52 a9_53 v9_54 v9_55 a9_56 a9_57 v9_58 a9_59 a9_60 a9_61)), (a9_19, .inl (cyI, 20, .inl g9_19)), (a9_23, .inl (cyI, 1000, .inl g9_23)), (a9_24, .inl (cyI, 1000, .inl g9_24)), (a9_26, .inl (cyI, 1000, .inl g9_26)), (a9_27, .inl (cyI, 1000, .inl g9_27)), (a9_28, .inl (cyI, 50000, .inl g9_28)), (a9_29, .inl (cyI, 50, .inl g9_29)), (a9_30, .inl (cyI, 50, .inl g9_30)), (a9_31, .inl (cyI, 50, .inl g9_31))] sz)) (va_Qi (fun (r : Int32) (_ : Unit) => r = R ∧ x_nb r) (fun _ _ => True) (x_new sz)) 0 0 (x_new sz) := by
  refine Met.ofW (cc := cX9_formed) (maxL := 5) (ret := (some .boolean)) (by decide) rfl ?_
  intro p e s m args below meth c s₁ B hml hv
  obtain ⟨rfl, hsz, hP, hK, hN⟩ := hv
  have hx := B.exec
  have hb := B.bytes
  have hr := B.returns
  have hts := atoms_spec (ws := wsX9_formed) B.pre
  have hown : s.vm.findClass RX9 = some m.cls := findClass_of_methodNamed B.named
  have k_1 := hts (.fieldLink RX9 176 "FlowJudgeModel" "mArgs" "I") (by decide +kernel)
  have k_2 := hts (.fieldLink RX9 170 "FlowJudgeModel" "maxL" "I") (by decide +kernel)
  have k_3 := hts (.fieldLink RX9 48 "FlowJudgeModel" "mArg" "[I") (by decide +kernel)
  have k_4 := hts (.fieldLink RX9 179 "FlowJudgeModel" "many" "I") (by decide +kernel)
  have k_5 := hts (.fieldLink RX9 51 "FlowJudgeModel" "op" "[I") (by decide +kernel)
  have k_6 := hts (.fieldLink RX9 54 "FlowJudgeModel" "one" "[I") (by decide +kernel)
  have k_7 := hts (.fieldLink RX9 63 "FlowJudgeModel" "toMany" "[I") (by decide +kernel)
  have k_8 := hts (.fieldLink RX9 67 "FlowJudgeModel" "to" "[I") (by decide +kernel)
  have k_9 := hts (.fieldLink RX9 60 "FlowJudgeModel" "toAt" "[I") (by decide +kernel)
  have k_10 := hts (.fieldLink RX9 182 "FlowJudgeModel" "rows" "I") (by decide +kernel)
  have k_11 := hts (.fieldLink RX9 70 "FlowJudgeModel" "rFrom" "[I") (by decide +kernel)
  have k_12 := hts (.fieldLink RX9 73 "FlowJudgeModel" "rTo" "[I") (by decide +kernel)
  have k_13 := hts (.fieldLink RX9 76 "FlowJudgeModel" "rHandler" "[I") (by decide +kernel)
  have k_14 := hts (.fieldLink RX9 167 "FlowJudgeModel" "mHow" "I") (by decide +kernel)
  subst hsz
  have hA : ∀ q : Nat, s.heap.size ≤ q → x_new s.heap.size q := fun _ h => h
  have hS : va_S (x_new s.heap.size) s.heap s.heap [] := va_S.rf
  have hP : va_P (dC, dI) vwCl [(o9, .inr (9, x_O9 v9_0 v9_1 v9_2 v9_3 a9_4 a9_5 a9_6 a9_7 a9_8 a9_9 a9_10 a9_11 a9_12 v9_13 v9_14 v9_15 v9_16 v9_17 v9_18 a9_19 v9_20 v9_21 v9_22 a9_23 a9_24 a9_25 a9_26 a9_27 a9_28 a9_29 a9_30 a9_31 a9_32 a9_33 a9_34 v9_35 v9_36 a9_37 a9_38 a9_39 a9_40 a9_41 v9_42 a9_43 a9_44 a9_45 a9_46 a9_47 v9_48 v9_49 v9_50 v9_51 a9_52 a9_53 v9_54 v9_55 a9_56 a9_57 v9_58 a9_59 a9_60 a9_61)), (a9_19, .inl (cyI, 20, .inl g9_19)), (a9_23, .inl (cyI, 1000, .inl g9_23)), (a9_24, .inl (cyI, 1000, .inl g9_24)), (a9_26, .inl (cyI, 1000, .inl g9_26)), (a9_27, .inl (cyI, 1000, .inl g9_27)), (a9_28, .inl (cyI, 50000, .inl g9_28)), (a9_29, .inl (cyI, 50, .inl g9_29)), (a9_30, .inl (cyI, 50, .inl g9_30)), (a9_31, .inl (cyI, 50, .inl g9_31))] s.heap := hP
  have hl := lv_entry ([.ref o9]) (n := 5) (Nat.le_of_ble_eq_true rfl)
  rw [lg_entry_eq]
  generalize (lg_sl ([.ref o9]) ++ List.replicate (5 - (lg_sl ([.ref o9])).length) Slot.unset).toArray = ls at hl ⊢
  have hl : lv_has ls 5 [(0, .ref o9)] := hl
  obtain ⟨H, hH⟩ : ∃ z, z = s.heap := ⟨_, rfl⟩
  refine x_here hH ?_
  have hP : va_P (dC, dI) vwCl [(o9, .inr (9, x_O9 v9_0 v9_1 v9_2 v9_3 a9_4 a9_5 a9_6 a9_7 a9_8 a9_9 a9_10 a9_11 a9_12 v9_13 v9_14 v9_15 v9_16 v9_17 v9_18 a9_19 v9_20 v9_21 v9_22 a9_23 a9_24 a9_25 a9_26 a9_27 a9_28 a9_29 a9_30 a9_31 a9_32 a9_33 a9_34 v9_35 v9_36 a9_37 a9_38 a9_39 a9_40 a9_41 v9_42 a9_43 a9_44 a9_45 a9_46 a9_47 v9_48 v9_49 v9_50 v9_51 a9_52 a9_53 v9_54 v9_55 a9_56 a9_57 v9_58 a9_59 a9_60 a9_61)), (a9_19, .inl (cyI, 20, .inl g9_19)), (a9_23, .inl (cyI, 1000, .inl g9_23)), (a9_24, .inl (cyI, 1000, .inl g9_24)), (a9_26, .inl (cyI, 1000, .inl g9_26)), (a9_27, .inl (cyI, 1000, .inl g9_27)), (a9_28, .inl (cyI, 50000, .inl g9_28)), (a9_29, .inl (cyI, 50, .inl g9_29)), (a9_30, .inl (cyI, 50, .inl g9_30)), (a9_31, .inl (cyI, 50, .inl g9_31))] H := by rw [hH]; exact hP
  have hS : va_S (x_new s.heap.size) s.heap H [] := by rw [hH]; exact va_S.rf
  clear hH
  obtain ⟨locs, hlo⟩ : ∃ z : List Loc, z = [] := ⟨_, rfl⟩
  refine x_herl hlo ?_
  have hS : va_S (x_new s.heap.size) s.heap H locs := by rw [hlo]; exact hS
  clear hlo
  unfold f_X9_formed at hf
  refine x_wn (fun WW hWW => ?_)
  have J := f_X9_formed_L.partial_correctness v9_14 v9_16 v9_18 v9_20 v9_21 g9_19 g9_23 g9_24 g9_26 g9_27 g9_28 g9_29 g9_30 g9_31 (fun (z : Nat × Int32 × Int32 × Int32 × Int32) (r : Int32) => r = R → ∀ (q : Nat) (l1 : Int32) (l2 : Int32) (l3 : Int32) (l4 : Int32), z = (q, l1, l2, l3, l4) → ((q = 0 → ∀ (H : Heap) (locs : List Loc) (ls : Array Slot), va_P (dC, dI) vwCl [(o9, .inr (9, x_O9 v9_0 v9_1 v9_2 v9_3 a9_4 a9_5 a9_6 a9_7 a9_8 a9_9 a9_10 a9_11 a9_12 v9_13 v9_14 v9_15 v9_16 v9_17 v9_18 a9_19 v9_20 v9_21 v9_22 a9_23 a9_24 a9_25 a9_26 a9_27 a9_28 a9_29 a9_30 a9_31 a9_32 a9_33 a9_34 v9_35 v9_36 a9_37 a9_38 a9_39 a9_40 a9_41 v9_42 a9_43 a9_44 a9_45 a9_46 a9_47 v9_48 v9_49 v9_50 v9_51 a9_52 a9_53 v9_54 v9_55 a9_56 a9_57 v9_58 a9_59 a9_60 a9_61)), (a9_19, .inl (cyI, 20, .inl g9_19)), (a9_23, .inl (cyI, 1000, .inl g9_23)), (a9_24, .inl (cyI, 1000, .inl g9_24)), (a9_26, .inl (cyI, 1000, .inl g9_26)), (a9_27, .inl (cyI, 1000, .inl g9_27)), (a9_28, .inl (cyI, 50000, .inl g9_28)), (a9_29, .inl (cyI, 50, .inl g9_29)), (a9_30, .inl (cyI, 50, .inl g9_30)), (a9_31, .inl (cyI, 50, .inl g9_31))] H → va_S (x_new s.heap.size) s.heap H locs → lv_has ls 5 [(0, .ref o9), (1, .int l1), (2, .int l2)] → WW H locs 0 0 (F0 m 24 ls [])) ∧ (q = 1 → ∀ (H : Heap) (locs : List Loc) (ls : Array Slot), va_P (dC, dI) vwCl [(o9, .inr (9, x_O9 v9_0 v9_1 v9_2 v9_3 a9_4 a9_5 a9_6 a9_7 a9_8 a9_9 a9_10 a9_11 a9_12 v9_13 v9_14 v9_15 v9_16 v9_17 v9_18 a9_19 v9_20 v9_21 v9_22 a9_23 a9_24 a9_25 a9_26 a9_27 a9_28 a9_29 a9_30 a9_31 a9_32 a9_33 a9_34 v9_35 v9_36 a9_37 a9_38 a9_39 a9_40 a9_41 v9_42 a9_43 a9_44 a9_45 a9_46 a9_47 v9_48 v9_49 v9_50 v9_51 a9_52 a9_53 v9_54 v9_55 a9_56 a9_57 v9_58 a9_59 a9_60 a9_61)), (a9_19, .inl (cyI, 20, .inl g9_19)), (a9_23, .inl (cyI, 1000, .inl g9_23)), (a9_24, .inl (cyI, 1000, .inl g9_24)), (a9_26, .inl (cyI, 1000, .inl g9_26)), (a9_27, .inl (cyI, 1000, .inl g9_27)), (a9_28, .inl (cyI, 50000, .inl g9_28)), (a9_29, .inl (cyI, 50, .inl g9_29)), (a9_30, .inl (cyI, 50, .inl g9_30)), (a9_31, .inl (cyI, 50, .inl g9_31))] H → va_S (x_new s.heap.size) s.heap H locs → lv_has ls 5 [(0, .ref o9), (2, .int l2)] → WW H locs 0 0 (F0 m 65 ls [])) ∧ (q = 2 → ∀ (H : Heap) (locs : List Loc) (ls : Array Slot), va_P (dC, dI) vwCl [(o9, .inr (9, x_O9 v9_0 v9_1 v9_2 v9_3 a9_4 a9_5 a9_6 a9_7 a9_8 a9_9 a9_10 a9_11 a9_12 v9_13 v9_14 v9_15 v9_16 v9_17 v9_18 a9_19 v9_20 v9_21 v9_22 a9_23 a9_24 a9_25 a9_26 a9_27 a9_28 a9_29 a9_30 a9_31 a9_32 a9_33 a9_34 v9_35 v9_36 a9_37 a9_38 a9_39 a9_40 a9_41 v9_42 a9_43 a9_44 a9_45 a9_46 a9_47 v9_48 v9_49 v9_50 v9_51 a9_52 a9_53 v9_54 v9_55 a9_56 a9_57 v9_58 a9_59 a9_60 a9_61)), (a9_19, .inl (cyI, 20, .inl g9_19)), (a9_23, .inl (cyI, 1000, .inl g9_23)), (a9_24, .inl (cyI, 1000, .inl g9_24)), (a9_26, .inl (cyI, 1000, .inl g9_26)), (a9_27, .inl (cyI, 1000, .inl g9_27)), (a9_28, .inl (cyI, 50000, .inl g9_28)), (a9_29, .inl (cyI, 50, .inl g9_29)), (a9_30, .inl (cyI, 50, .inl g9_30)), (a9_31, .inl (cyI, 50, .inl g9_31))] H → va_S (x_new s.heap.size) s.heap H locs → lv_has ls 5 [(0, .ref o9), (2, .int l2), (3, .int l3)] → WW H locs 0 0 (F0 m 92 ls [])) ∧ (q = 3 → ∀ (H : Heap) (locs : List Loc) (ls : Array Slot), va_P (dC, dI) vwCl [(o9, .inr (9, x_O9 v9_0 v9_1 v9_2 v9_3 a9_4 a9_5 a9_6 a9_7 a9_8 a9_9 a9_10 a9_11 a9_12 v9_13 v9_14 v9_15 v9_16 v9_17 v9_18 a9_19 v9_20 v9_21 v9_22 a9_23 a9_24 a9_25 a9_26 a9_27 a9_28 a9_29 a9_30 a9_31 a9_32 a9_33 a9_34 v9_35 v9_36 a9_37 a9_38 a9_39 a9_40 a9_41 v9_42 a9_43 a9_44 a9_45 a9_46 a9_47 v9_48 v9_49 v9_50 v9_51 a9_52 a9_53 v9_54 v9_55 a9_56 a9_57 v9_58 a9_59 a9_60 a9_61)), (a9_19, .inl (cyI, 20, .inl g9_19)), (a9_23, .inl (cyI, 1000, .inl g9_23)), (a9_24, .inl (cyI, 1000, .inl g9_24)), (a9_26, .inl (cyI, 1000, .inl g9_26)), (a9_27, .inl (cyI, 1000, .inl g9_27)), (a9_28, .inl (cyI, 50000, .inl g9_28)), (a9_29, .inl (cyI, 50, .inl g9_29)), (a9_30, .inl (cyI, 50, .inl g9_30)), (a9_31, .inl (cyI, 50, .inl g9_31))] H → va_S (x_new s.heap.size) s.heap H locs → lv_has ls 5 [(0, .ref o9), (2, .int l2), (3, .int l3)] → WW H locs 0 0 (F0 m 104 ls [])) ∧ (q = 4 → ∀ (H : Heap) (locs : List Loc) (ls : Array Slot), va_P (dC, dI) vwCl [(o9, .inr (9, x_O9 v9_0 v9_1 v9_2 v9_3 a9_4 a9_5 a9_6 a9_7 a9_8 a9_9 a9_10 a9_11 a9_12 v9_13 v9_14 v9_15 v9_16 v9_17 v9_18 a9_19 v9_20 v9_21 v9_22 a9_23 a9_24 a9_25 a9_26 a9_27 a9_28 a9_29 a9_30 a9_31 a9_32 a9_33 a9_34 v9_35 v9_36 a9_37 a9_38 a9_39 a9_40 a9_41 v9_42 a9_43 a9_44 a9_45 a9_46 a9_47 v9_48 v9_49 v9_50 v9_51 a9_52 a9_53 v9_54 v9_55 a9_56 a9_57 v9_58 a9_59 a9_60 a9_61)), (a9_19, .inl (cyI, 20, .inl g9_19)), (a9_23, .inl (cyI, 1000, .inl g9_23)), (a9_24, .inl (cyI, 1000, .inl g9_24)), (a9_26, .inl (cyI, 1000, .inl g9_26)), (a9_27, .inl (cyI, 1000, .inl g9_27)), (a9_28, .inl (cyI, 50000, .inl g9_28)), (a9_29, .inl (cyI, 50, .inl g9_29)), (a9_30, .inl (cyI, 50, .inl g9_30)), (a9_31, .inl (cyI, 50, .inl g9_31))] H → va_S (x_new s.heap.size) s.heap H locs → lv_has ls 5 [(0, .ref o9), (2, .int l2), (3, .int l3)] → WW H locs 0 0 (F0 m 118 ls [])) ∧ (q = 5 → ∀ (H : Heap) (locs : List Loc) (ls : Array Slot), va_P (dC, dI) vwCl [(o9, .inr (9, x_O9 v9_0 v9_1 v9_2 v9_3 a9_4 a9_5 a9_6 a9_7 a9_8 a9_9 a9_10 a9_11 a9_12 v9_13 v9_14 v9_15 v9_16 v9_17 v9_18 a9_19 v9_20 v9_21 v9_22 a9_23 a9_24 a9_25 a9_26 a9_27 a9_28 a9_29 a9_30 a9_31 a9_32 a9_33 a9_34 v9_35 v9_36 a9_37 a9_38 a9_39 a9_40 a9_41 v9_42 a9_43 a9_44 a9_45 a9_46 a9_47 v9_48 v9_49 v9_50 v9_51 a9_52 a9_53 v9_54 v9_55 a9_56 a9_57 v9_58 a9_59 a9_60 a9_61)), (a9_19, .inl (cyI, 20, .inl g9_19)), (a9_23, .inl (cyI, 1000, .inl g9_23)), (a9_24, .inl (cyI, 1000, .inl g9_24)), (a9_26, .inl (cyI, 1000, .inl g9_26)), (a9_27, .inl (cyI, 1000, .inl g9_27)), (a9_28, .inl (cyI, 50000, .inl g9_28)), (a9_29, .inl (cyI, 50, .inl g9_29)), (a9_30, .inl (cyI, 50, .inl g9_30)), (a9_31, .inl (cyI, 50, .inl g9_31))] H → va_S (x_new s.heap.size) s.heap H locs → lv_has ls 5 [(0, .ref o9), (2, .int l2), (3, .int l3)] → WW H locs 0 0 (F0 m 142 ls [])) ∧ (q = 6 → ∀ (H : Heap) (locs : List Loc) (ls : Array Slot), va_P (dC, dI) vwCl [(o9, .inr (9, x_O9 v9_0 v9_1 v9_2 v9_3 a9_4 a9_5 a9_6 a9_7 a9_8 a9_9 a9_10 a9_11 a9_12 v9_13 v9_14 v9_15 v9_16 v9_17 v9_18 a9_19 v9_20 v9_21 v9_22 a9_23 a9_24 a9_25 a9_26 a9_27 a9_28 a9_29 a9_30 a9_31 a9_32 a9_33 a9_34 v9_35 v9_36 a9_37 a9_38 a9_39 a9_40 a9_41 v9_42 a9_43 a9_44 a9_45 a9_46 a9_47 v9_48 v9_49 v9_50 v9_51 a9_52 a9_53 v9_54 v9_55 a9_56 a9_57 v9_58 a9_59 a9_60 a9_61)), (a9_19, .inl (cyI, 20, .inl g9_19)), (a9_23, .inl (cyI, 1000, .inl g9_23)), (a9_24, .inl (cyI, 1000, .inl g9_24)), (a9_26, .inl (cyI, 1000, .inl g9_26)), (a9_27, .inl (cyI, 1000, .inl g9_27)), (a9_28, .inl (cyI, 50000, .inl g9_28)), (a9_29, .inl (cyI, 50, .inl g9_29)), (a9_30, .inl (cyI, 50, .inl g9_30)), (a9_31, .inl (cyI, 50, .inl g9_31))] H → va_S (x_new s.heap.size) s.heap H locs → lv_has ls 5 [(0, .ref o9), (2, .int l2), (3, .int l3)] → WW H locs 0 0 (F0 m 184 ls [])) ∧ (q = 7 → ∀ (H : Heap) (locs : List Loc) (ls : Array Slot), va_P (dC, dI) vwCl [(o9, .inr (9, x_O9 v9_0 v9_1 v9_2 v9_3 a9_4 a9_5 a9_6 a9_7 a9_8 a9_9 a9_10 a9_11 a9_12 v9_13 v9_14 v9_15 v9_16 v9_17 v9_18 a9_19 v9_20 v9_21 v9_22 a9_23 a9_24 a9_25 a9_26 a9_27 a9_28 a9_29 a9_30 a9_31 a9_32 a9_33 a9_34 v9_35 v9_36 a9_37 a9_38 a9_39 a9_40 a9_41 v9_42 a9_43 a9_44 a9_45 a9_46 a9_47 v9_48 v9_49 v9_50 v9_51 a9_52 a9_53 v9_54 v9_55 a9_56 a9_57 v9_58 a9_59 a9_60 a9_61)), (a9_19, .inl (cyI, 20, .inl g9_19)), (a9_23, .inl (cyI, 1000, .inl g9_23)), (a9_24, .inl (cyI, 1000, .inl g9_24)), (a9_26, .inl (cyI, 1000, .inl g9_26)), (a9_27, .inl (cyI, 1000, .inl g9_27)), (a9_28, .inl (cyI, 50000, .inl g9_28)), (a9_29, .inl (cyI, 50, .inl g9_29)), (a9_30, .inl (cyI, 50, .inl g9_30)), (a9_31, .inl (cyI, 50, .inl g9_31))] H → va_S (x_new s.heap.size) s.heap H locs → lv_has ls 5 [(0, .ref o9), (2, .int l2), (3, .int l3)] → WW H locs 0 0 (F0 m 198 ls [])) ∧ (q = 8 → ∀ (H : Heap) (locs : List Loc) (ls : Array Slot), va_P (dC, dI) vwCl [(o9, .inr (9, x_O9 v9_0 v9_1 v9_2 v9_3 a9_4 a9_5 a9_6 a9_7 a9_8 a9_9 a9_10 a9_11 a9_12 v9_13 v9_14 v9_15 v9_16 v9_17 v9_18 a9_19 v9_20 v9_21 v9_22 a9_23 a9_24 a9_25 a9_26 a9_27 a9_28 a9_29 a9_30 a9_31 a9_32 a9_33 a9_34 v9_35 v9_36 a9_37 a9_38 a9_39 a9_40 a9_41 v9_42 a9_43 a9_44 a9_45 a9_46 a9_47 v9_48 v9_49 v9_50 v9_51 a9_52 a9_53 v9_54 v9_55 a9_56 a9_57 v9_58 a9_59 a9_60 a9_61)), (a9_19, .inl (cyI, 20, .inl g9_19)), (a9_23, .inl (cyI, 1000, .inl g9_23)), (a9_24, .inl (cyI, 1000, .inl g9_24)), (a9_26, .inl (cyI, 1000, .inl g9_26)), (a9_27, .inl (cyI, 1000, .inl g9_27)), (a9_28, .inl (cyI, 50000, .inl g9_28)), (a9_29, .inl (cyI, 50, .inl g9_29)), (a9_30, .inl (cyI, 50, .inl g9_30)), (a9_31, .inl (cyI, 50, .inl g9_31))] H → va_S (x_new s.heap.size) s.heap H locs → lv_has ls 5 [(0, .ref o9), (2, .int l2), (3, .int l3)] → WW H locs 0 0 (F0 m 212 ls [])) ∧ (q = 9 → ∀ (H : Heap) (locs : List Loc) (ls : Array Slot), va_P (dC, dI) vwCl [(o9, .inr (9, x_O9 v9_0 v9_1 v9_2 v9_3 a9_4 a9_5 a9_6 a9_7 a9_8 a9_9 a9_10 a9_11 a9_12 v9_13 v9_14 v9_15 v9_16 v9_17 v9_18 a9_19 v9_20 v9_21 v9_22 a9_23 a9_24 a9_25 a9_26 a9_27 a9_28 a9_29 a9_30 a9_31 a9_32 a9_33 a9_34 v9_35 v9_36 a9_37 a9_38 a9_39 a9_40 a9_41 v9_42 a9_43 a9_44 a9_45 a9_46 a9_47 v9_48 v9_49 v9_50 v9_51 a9_52 a9_53 v9_54 v9_55 a9_56 a9_57 v9_58 a9_59 a9_60 a9_61)), (a9_19, .inl (cyI, 20, .inl g9_19)), (a9_23, .inl (cyI, 1000, .inl g9_23)), (a9_24, .inl (cyI, 1000, .inl g9_24)), (a9_26, .inl (cyI, 1000, .inl g9_26)), (a9_27, .inl (cyI, 1000, .inl g9_27)), (a9_28, .inl (cyI, 50000, .inl g9_28)), (a9_29, .inl (cyI, 50, .inl g9_29)), (a9_30, .inl (cyI, 50, .inl g9_30)), (a9_31, .inl (cyI, 50, .inl g9_31))] H → va_S (x_new s.heap.size) s.heap H locs → lv_has ls 5 [(0, .ref o9), (2, .int l2), (3, .int l3)] → WW H locs 0 0 (F0 m 227 ls [])) ∧ (q = 10 → ∀ (H : Heap) (locs : List Loc) (ls : Array Slot), va_P (dC, dI) vwCl [(o9, .inr (9, x_O9 v9_0 v9_1 v9_2 v9_3 a9_4 a9_5 a9_6 a9_7 a9_8 a9_9 a9_10 a9_11 a9_12 v9_13 v9_14 v9_15 v9_16 v9_17 v9_18 a9_19 v9_20 v9_21 v9_22 a9_23 a9_24 a9_25 a9_26 a9_27 a9_28 a9_29 a9_30 a9_31 a9_32 a9_33 a9_34 v9_35 v9_36 a9_37 a9_38 a9_39 a9_40 a9_41 v9_42 a9_43 a9_44 a9_45 a9_46 a9_47 v9_48 v9_49 v9_50 v9_51 a9_52 a9_53 v9_54 v9_55 a9_56 a9_57 v9_58 a9_59 a9_60 a9_61)), (a9_19, .inl (cyI, 20, .inl g9_19)), (a9_23, .inl (cyI, 1000, .inl g9_23)), (a9_24, .inl (cyI, 1000, .inl g9_24)), (a9_26, .inl (cyI, 1000, .inl g9_26)), (a9_27, .inl (cyI, 1000, .inl g9_27)), (a9_28, .inl (cyI, 50000, .inl g9_28)), (a9_29, .inl (cyI, 50, .inl g9_29)), (a9_30, .inl (cyI, 50, .inl g9_30)), (a9_31, .inl (cyI, 50, .inl g9_31))] H → va_S (x_new s.heap.size) s.heap H locs → lv_has ls 5 [(0, .ref o9), (2, .int l2)] → WW H locs 0 0 (F0 m 241 ls [])) ∧ (q = 11 → ∀ (H : Heap) (locs : List Loc) (ls : Array Slot), va_P (dC, dI) vwCl [(o9, .inr (9, x_O9 v9_0 v9_1 v9_2 v9_3 a9_4 a9_5 a9_6 a9_7 a9_8 a9_9 a9_10 a9_11 a9_12 v9_13 v9_14 v9_15 v9_16 v9_17 v9_18 a9_19 v9_20 v9_21 v9_22 a9_23 a9_24 a9_25 a9_26 a9_27 a9_28 a9_29 a9_30 a9_31 a9_32 a9_33 a9_34 v9_35 v9_36 a9_37 a9_38 a9_39 a9_40 a9_41 v9_42 a9_43 a9_44 a9_45 a9_46 a9_47 v9_48 v9_49 v9_50 v9_51 a9_52 a9_53 v9_54 v9_55 a9_56 a9_57 v9_58 a9_59 a9_60 a9_61)), (a9_19, .inl (cyI, 20, .inl g9_19)), (a9_23, .inl (cyI, 1000, .inl g9_23)), (a9_24, .inl (cyI, 1000, .inl g9_24)), (a9_26, .inl (cyI, 1000, .inl g9_26)), (a9_27, .inl (cyI, 1000, .inl g9_27)), (a9_28, .inl (cyI, 50000, .inl g9_28)), (a9_29, .inl (cyI, 50, .inl g9_29)), (a9_30, .inl (cyI, 50, .inl g9_30)), (a9_31, .inl (cyI, 50, .inl g9_31))] H → va_S (x_new s.heap.size) s.heap H locs → lv_has ls 5 [(0, .ref o9), (2, .int l2), (4, .int l4)] → WW H locs 0 0 (F0 m 255 ls [])) ∧ (q = 12 → ∀ (H : Heap) (locs : List Loc) (ls : Array Slot), va_P (dC, dI) vwCl [(o9, .inr (9, x_O9 v9_0 v9_1 v9_2 v9_3 a9_4 a9_5 a9_6 a9_7 a9_8 a9_9 a9_10 a9_11 a9_12 v9_13 v9_14 v9_15 v9_16 v9_17 v9_18 a9_19 v9_20 v9_21 v9_22 a9_23 a9_24 a9_25 a9_26 a9_27 a9_28 a9_29 a9_30 a9_31 a9_32 a9_33 a9_34 v9_35 v9_36 a9_37 a9_38 a9_39 a9_40 a9_41 v9_42 a9_43 a9_44 a9_45 a9_46 a9_47 v9_48 v9_49 v9_50 v9_51 a9_52 a9_53 v9_54 v9_55 a9_56 a9_57 v9_58 a9_59 a9_60 a9_61)), (a9_19, .inl (cyI, 20, .inl g9_19)), (a9_23, .inl (cyI, 1000, .inl g9_23)), (a9_24, .inl (cyI, 1000, .inl g9_24)), (a9_26, .inl (cyI, 1000, .inl g9_26)), (a9_27, .inl (cyI, 1000, .inl g9_27)), (a9_28, .inl (cyI, 50000, .inl g9_28)), (a9_29, .inl (cyI, 50, .inl g9_29)), (a9_30, .inl (cyI, 50, .inl g9_30)), (a9_31, .inl (cyI, 50, .inl g9_31))] H → va_S (x_new s.heap.size) s.heap H locs → lv_has ls 5 [(0, .ref o9), (2, .int l2)] → WW H locs 0 0 (F0 m 295 ls [])) ∧ (q = 13 → ∀ (H : Heap) (locs : List Loc) (ls : Array Slot), va_P (dC, dI) vwCl [(o9, .inr (9, x_O9 v9_0 v9_1 v9_2 v9_3 a9_4 a9_5 a9_6 a9_7 a9_8 a9_9 a9_10 a9_11 a9_12 v9_13 v9_14 v9_15 v9_16 v9_17 v9_18 a9_19 v9_20 v9_21 v9_22 a9_23 a9_24 a9_25 a9_26 a9_27 a9_28 a9_29 a9_30 a9_31 a9_32 a9_33 a9_34 v9_35 v9_36 a9_37 a9_38 a9_39 a9_40 a9_41 v9_42 a9_43 a9_44 a9_45 a9_46 a9_47 v9_48 v9_49 v9_50 v9_51 a9_52 a9_53 v9_54 v9_55 a9_56 a9_57 v9_58 a9_59 a9_60 a9_61)), (a9_19, .inl (cyI, 20, .inl g9_19)), (a9_23, .inl (cyI, 1000, .inl g9_23)), (a9_24, .inl (cyI, 1000, .inl g9_24)), (a9_26, .inl (cyI, 1000, .inl g9_26)), (a9_27, .inl (cyI, 1000, .inl g9_27)), (a9_28, .inl (cyI, 50000, .inl g9_28)), (a9_29, .inl (cyI, 50, .inl g9_29)), (a9_30, .inl (cyI, 50, .inl g9_30)), (a9_31, .inl (cyI, 50, .inl g9_31))] H → va_S (x_new s.heap.size) s.heap H locs → lv_has ls 5 [(0, .ref o9), (2, .int l2)] → WW H locs 0 0 (F0 m 303 ls [])))) (by
    intro F ih z r hf hr q l1 l2 l3 l4 hz
    subst hz
    obtain rfl := hr
    refine ⟨?_, ?_, ?_, ?_, ?_, ?_, ?_, ?_, ?_, ?_, ?_, ?_, ?_, ?_⟩
    · intro hq H locs ls hP hS hl
      subst hq
      refine (hWW _ _ _ _ _).mp ?_
      replace hf := x_ip rfl hf
      refine lv_iload_n hx hb dX9_formed_24 rfl (lv_at hl 2 rfl) ?_
      refine lv_aload_n hx hb dX9_formed_25 rfl (lv_at hl 0 rfl) ?_
      refine va_get (D := (dC, dI)) (ci := 9) (v := .int v9_18) (C := RX9) (T := TX9) (N := 62) hx hb hts i_X9_formed_X9 hown hK hP 0 rfl rfl 18 (by decide) k_1 (fun _ h9 => h9) rfl dX9_formed_26 ?_
      refine lv_icmp_ge (tgt := 53) hx hb dX9_formed_29 (by decide) (fun c_1 => ?_) (fun c_1 => ?_)
      · replace hf := x_ip c_1 hf
        refine lv_iload_n hx hb dX9_formed_53 rfl (lv_at hl 1 rfl) ?_
        refine lv_aload_n hx hb dX9_formed_54 rfl (lv_at hl 0 rfl) ?_
        refine va_get (D := (dC, dI)) (ci := 9) (v := .int v9_16) (C := RX9) (T := TX9) (N := 62) hx hb hts i_X9_formed_X9 hown hK hP 0 rfl rfl 16 (by decide) k_2 (fun _ h9 => h9) rfl dX9_formed_55 ?_
        refine lv_icmp_le (tgt := 63) hx hb dX9_formed_58 (by decide) (fun c_2 => ?_) (fun c_2 => ?_)
        · replace hf := x_ip c_2 hf
          refine lv_iconst (v := 0) hx hb dX9_formed_63 (by decide) ?_
          refine lv_istore_n (lv' := [(2, .int 0), (0, .ref o9), (1, .int l1)]) hx hb dX9_formed_64 rfl hl (by decide) rfl (fun ls hl => ?_)
          exact (hWW _ _ _ _ _).mpr ((ih (1, 0, 0, 0, 0) _ hf rfl _ _ _ _ _ rfl).2.1 rfl H locs ls hP hS (lv_sub hl [1, 0] rfl))
        · replace hf := x_in c_2 hf
          refine lv_iconst (v := 0) hx hb dX9_formed_61 (by decide) ?_
          obtain rfl := Option.some.inj hf
          exact W.zret (ty := .boolean) hx hb hr rfl (fun t ht hW => ⟨⟨_, (), rfl, ⟨rfl, rfl⟩, trivial⟩, hS.F ht⟩) hS.2.2 dX9_formed_62
      · replace hf := x_in c_1 hf
        refine lv_iload_n hx hb dX9_formed_32 rfl (lv_at hl 1 rfl) ?_
        refine lv_aload_n hx hb dX9_formed_33 rfl (lv_at hl 0 rfl) ?_
        refine va_get (D := (dC, dI)) (ci := 9) (v := .ref a9_19) (C := RX9) (T := TX9) (N := 62) hx hb hts i_X9_formed_X9 hown hK hP 0 rfl rfl 19 (by decide) k_3 (fun _ h9 => h9) rfl dX9_formed_34 ?_
        refine lv_iload_n hx hb dX9_formed_37 rfl (lv_at hl 2 rfl) ?_
        obtain ⟨g_3, hf⟩ := x_gu hf
        refine va_iald hx hb hK hP 1 0 rfl rfl (x_gdin g_3) dX9_formed_38 ?_
        obtain ⟨r_4, h_4, hf⟩ := x_bi hf
        have hPc := hP.sub (ws' := []) [] rfl
        refine va_calli (va_runS (As := [.int (g9_19 (Int32.toNatClampNeg l2))]) (rest := [.int l1]) ⟨hx, hb, hml, hown, hts⟩ (c_X9_kindOf l dC dI cyI cyZ cyJ H.size (g9_19 (Int32.toNatClampNeg l2)) r_4 h_4) (va_cwS 1 hts gX9_formed_X9_kindOf rfl rfl rfl (by decide +kernel) ⟨Nat.le_of_ble_eq_true rfl, Nat.le_of_ble_eq_true rfl⟩) (x_pS hN hK hPc) rfl rfl hl.1 rfl (lv_room (Nat.le_of_ble_eq_true rfl)) dX9_formed_39 ⟨Nat.le_of_ble_eq_true rfl, Nat.le_of_ble_eq_true rfl⟩) hS x_nA (x_nf hA hS) (fun q_4 u t H1 locs ht hvm hw hB hz1 hk1 hS => ?_)
        have hP := x_kp hP hk1
        clear ht hvm hB hz1 hk1 t u hPc
        generalize H1 = H at hP hS ⊢
        obtain rfl := hw.symm
        obtain ⟨r_5, h_5, hf⟩ := x_bi hf
        have hPc := hP.sub (ws' := []) [] rfl
        refine va_calli (va_runS (As := [.int r_4]) (rest := [.int l1]) ⟨hx, hb, hml, hown, hts⟩ (c_X9_places l dC dI cyI cyZ cyJ H.size r_4 r_5 h_5) (va_cwS 1 hts gX9_formed_X9_places rfl rfl rfl (by decide +kernel) ⟨Nat.le_of_ble_eq_true rfl, Nat.le_of_ble_eq_true rfl⟩) (x_pS hN hK hPc) rfl rfl hl.1 rfl (lv_room (Nat.le_of_ble_eq_true rfl)) dX9_formed_42 ⟨Nat.le_of_ble_eq_true rfl, Nat.le_of_ble_eq_true rfl⟩) hS x_nA (x_nf hA hS) (fun q_5 u t H1 locs ht hvm hw hB hz1 hk1 hS => ?_)
        have hP := x_kp hP hk1
        clear ht hvm hB hz1 hk1 t u hPc
        generalize H1 = H at hP hS ⊢
        obtain rfl := hw.symm
        refine lv_iadd hx hb dX9_formed_45 ?_
        refine lv_istore_n (lv' := [(1, .int (l1 + r_5)), (0, .ref o9), (2, .int l2)]) hx hb dX9_formed_46 rfl hl (by decide) rfl (fun ls hl => ?_)
        refine lv_iinc (v := (l2 + 1)) (lv' := [(2, .int (l2 + 1)), (1, .int (l1 + r_5)), (0, .ref o9)]) hx hb dX9_formed_47 hl (k := 2) rfl rfl (by decide) rfl (fun ls hl => ?_)
        refine lv_goto (tgt := 24) hx hb dX9_formed_50 (by decide) ?_
        exact (hWW _ _ _ _ _).mpr ((ih (0, l1 + r_5, l2 + 1, 0, 0) _ hf rfl _ _ _ _ _ rfl).1 rfl H locs ls hP hS (lv_sub hl [2, 1, 0] rfl))
    · intro hq H locs ls hP hS hl
      subst hq
      refine (hWW _ _ _ _ _).mp ?_
      replace hf := x_ip rfl (x_in (by decide) hf)
      refine lv_iload_n hx hb dX9_formed_65 rfl (lv_at hl 1 rfl) ?_
      refine lv_aload_n hx hb dX9_formed_66 rfl (lv_at hl 0 rfl) ?_
      refine va_get (D := (dC, dI)) (ci := 9) (v := .int v9_20) (C := RX9) (T := TX9) (N := 62) hx hb hts i_X9_formed_X9 hown hK hP 0 rfl rfl 20 (by decide) k_4 (fun _ h9 => h9) rfl dX9_formed_67 ?_
      refine lv_icmp_ge (tgt := 301) hx hb dX9_formed_70 (by decide) (fun c_6 => ?_) (fun c_6 => ?_)
      · replace hf := x_ip c_6 hf
        refine lv_iconst (v := 0) hx hb dX9_formed_301 (by decide) ?_
        refine lv_istore_n (lv' := [(2, .int 0), (0, .ref o9)]) hx hb dX9_formed_302 rfl hl (by decide) rfl (fun ls hl => ?_)
        exact (hWW _ _ _ _ _).mpr ((ih (13, 0, 0, 0, 0) _ hf rfl _ _ _ _ _ rfl).2.2.2.2.2.2.2.2.2.2.2.2.2 rfl H locs ls hP hS (lv_sub hl [1, 0] rfl))
      · replace hf := x_in c_6 hf
        refine lv_aload_n hx hb dX9_formed_73 rfl (lv_at hl 0 rfl) ?_
        refine va_get (D := (dC, dI)) (ci := 9) (v := .ref a9_23) (C := RX9) (T := TX9) (N := 62) hx hb hts i_X9_formed_X9 hown hK hP 0 rfl rfl 23 (by decide) k_5 (fun _ h9 => h9) rfl dX9_formed_74 ?_
        refine lv_iload_n hx hb dX9_formed_77 rfl (lv_at hl 1 rfl) ?_
        obtain ⟨g_7, hf⟩ := x_gu hf
        refine va_iald hx hb hK hP 2 0 rfl rfl (x_gdin g_7) dX9_formed_78 ?_
        refine lv_istore_n (lv' := [(3, .int (g9_23 (Int32.toNatClampNeg l2))), (0, .ref o9), (2, .int l2)]) hx hb dX9_formed_79 rfl hl (by decide) rfl (fun ls hl => ?_)
        refine lv_iload_n hx hb dX9_formed_80 rfl (lv_at hl 0 rfl) ?_
        refine lv_bipush (v := 21) hx hb dX9_formed_81 (by decide) ?_
        refine lv_icmp_lt (tgt := 92) hx hb dX9_formed_83 (by decide) (fun c_8 => ?_) (fun c_8 => ?_)
        · replace hf := x_ip c_8 hf
          exact (hWW _ _ _ _ _).mpr ((ih (2, 0, l2, g9_23 (Int32.toNatClampNeg l2), 0) _ hf rfl _ _ _ _ _ rfl).2.2.1 rfl H locs ls hP hS (lv_sub hl [1, 2, 0] rfl))
        · replace hf := x_in c_8 hf
          refine lv_iload_n hx hb dX9_formed_86 rfl (lv_at hl 0 rfl) ?_
          refine lv_bipush (v := 25) hx hb dX9_formed_87 (by decide) ?_
          refine lv_icmp_le (tgt := 118) hx hb dX9_formed_89 (by decide) (fun c_9 => ?_) (fun c_9 => ?_)
          · replace hf := x_ip c_9 hf
            exact (hWW _ _ _ _ _).mpr ((ih (4, 0, l2, g9_23 (Int32.toNatClampNeg l2), 0) _ hf rfl _ _ _ _ _ rfl).2.2.2.2.1 rfl H locs ls hP hS (lv_sub hl [1, 2, 0] rfl))
          · replace hf := x_in c_9 hf
            exact (hWW _ _ _ _ _).mpr ((ih (2, 0, l2, g9_23 (Int32.toNatClampNeg l2), 0) _ hf rfl _ _ _ _ _ rfl).2.2.1 rfl H locs ls hP hS (lv_sub hl [1, 2, 0] rfl))
    · intro hq H locs ls hP hS hl
      subst hq
      refine (hWW _ _ _ _ _).mp ?_
      replace hf := x_ip rfl (x_in (by decide) (x_in (by decide) hf))
      refine lv_iload_n hx hb dX9_formed_92 rfl (lv_at hl 2 rfl) ?_
      refine lv_bipush (v := 54) hx hb dX9_formed_93 (by decide) ?_
      refine lv_icmp_lt (tgt := 104) hx hb dX9_formed_95 (by decide) (fun c_10 => ?_) (fun c_10 => ?_)
      · replace hf := x_ip c_10 hf
        exact (hWW _ _ _ _ _).mpr ((ih (3, 0, l2, l3, 0) _ hf rfl _ _ _ _ _ rfl).2.2.2.1 rfl H locs ls hP hS (lv_sub hl [0, 1, 2] rfl))
      · replace hf := x_in c_10 hf
        refine lv_iload_n hx hb dX9_formed_98 rfl (lv_at hl 2 rfl) ?_
        refine lv_bipush (v := 58) hx hb dX9_formed_99 (by decide) ?_
        refine lv_icmp_le (tgt := 118) hx hb dX9_formed_101 (by decide) (fun c_11 => ?_) (fun c_11 => ?_)
        · replace hf := x_ip c_11 hf
          exact (hWW _ _ _ _ _).mpr ((ih (4, 0, l2, l3, 0) _ hf rfl _ _ _ _ _ rfl).2.2.2.2.1 rfl H locs ls hP hS (lv_sub hl [0, 1, 2] rfl))
        · replace hf := x_in c_11 hf
          exact (hWW _ _ _ _ _).mpr ((ih (3, 0, l2, l3, 0) _ hf rfl _ _ _ _ _ rfl).2.2.2.1 rfl H locs ls hP hS (lv_sub hl [0, 1, 2] rfl))
    · intro hq H locs ls hP hS hl
      subst hq
      refine (hWW _ _ _ _ _).mp ?_
      replace hf := x_ip rfl (x_in (by decide) (x_in (by decide) (x_in (by decide) hf)))
      refine lv_iload_n hx hb dX9_formed_104 rfl (lv_at hl 2 rfl) ?_
      refine lv_sipush (v := 132) hx hb dX9_formed_105 (by decide) ?_
      refine lv_icmp_eq (tgt := 118) hx hb dX9_formed_108 (by decide) (fun c_12 => ?_) (fun c_12 => ?_)
      · replace hf := x_ip c_12 hf
        exact (hWW _ _ _ _ _).mpr ((ih (4, 0, l2, l3, 0) _ hf rfl _ _ _ _ _ rfl).2.2.2.2.1 rfl H locs ls hP hS (lv_sub hl [0, 1, 2] rfl))
      · replace hf := x_in c_12 hf
        refine lv_iload_n hx hb dX9_formed_111 rfl (lv_at hl 2 rfl) ?_
        refine lv_sipush (v := 169) hx hb dX9_formed_112 (by decide) ?_
        refine lv_icmp_ne (tgt := 184) hx hb dX9_formed_115 (by decide) (fun c_13 => ?_) (fun c_13 => ?_)
        · replace hf := x_in c_13 hf
          exact (hWW _ _ _ _ _).mpr ((ih (6, 0, l2, l3, 0) _ hf rfl _ _ _ _ _ rfl).2.2.2.2.2.2.1 rfl H locs ls hP hS (lv_sub hl [0, 1, 2] rfl))
        · replace hf := x_ip c_13 hf
          exact (hWW _ _ _ _ _).mpr ((ih (4, 0, l2, l3, 0) _ hf rfl _ _ _ _ _ rfl).2.2.2.2.1 rfl H locs ls hP hS (lv_sub hl [0, 1, 2] rfl))
    · intro hq H locs ls hP hS hl
      subst hq
      refine (hWW _ _ _ _ _).mp ?_
      replace hf := x_ip rfl (x_in (by decide) (x_in (by decide) (x_in (by decide) (x_in (by decide) hf))))
      refine lv_iload_n hx hb dX9_formed_118 rfl (lv_at hl 2 rfl) ?_
      refine lv_bipush (v := 22) hx hb dX9_formed_119 (by decide) ?_
      refine lv_icmp_eq (tgt := 142) hx hb dX9_formed_121 (by decide) (fun c_14 => ?_) (fun c_14 => ?_)
      · replace hf := x_ip c_14 hf
        exact (hWW _ _ _ _ _).mpr ((ih (5, 0, l2, l3, 0) _ hf rfl _ _ _ _ _ rfl).2.2.2.2.2.1 rfl H locs ls hP hS (lv_sub hl [0, 1, 2] rfl))
      · replace hf := x_in c_14 hf
        refine lv_iload_n hx hb dX9_formed_124 rfl (lv_at hl 2 rfl) ?_
        refine lv_bipush (v := 24) hx hb dX9_formed_125 (by decide) ?_
        refine lv_icmp_eq (tgt := 142) hx hb dX9_formed_127 (by decide) (fun c_15 => ?_) (fun c_15 => ?_)
        · replace hf := x_ip c_15 hf
          exact (hWW _ _ _ _ _).mpr ((ih (5, 0, l2, l3, 0) _ hf rfl _ _ _ _ _ rfl).2.2.2.2.2.1 rfl H locs ls hP hS (lv_sub hl [0, 1, 2] rfl))
        · replace hf := x_in c_15 hf
          refine lv_iload_n hx hb dX9_formed_130 rfl (lv_at hl 2 rfl) ?_
          refine lv_bipush (v := 55) hx hb dX9_formed_131 (by decide) ?_
          refine lv_icmp_eq (tgt := 142) hx hb dX9_formed_133 (by decide) (fun c_16 => ?_) (fun c_16 => ?_)
          · replace hf := x_ip c_16 hf
            exact (hWW _ _ _ _ _).mpr ((ih (5, 0, l2, l3, 0) _ hf rfl _ _ _ _ _ rfl).2.2.2.2.2.1 rfl H locs ls hP hS (lv_sub hl [0, 1, 2] rfl))
          · replace hf := x_in c_16 hf
            refine lv_iload_n hx hb dX9_formed_136 rfl (lv_at hl 2 rfl) ?_
            refine lv_bipush (v := 57) hx hb dX9_formed_137 (by decide) ?_
            refine lv_icmp_ne (tgt := 146) hx hb dX9_formed_139 (by decide) (fun c_17 => ?_) (fun c_17 => ?_)
            · replace hf := x_in c_17 hf
              refine lv_iconst (v := 0) hx hb dX9_formed_146 (by decide) ?_
              refine lv_istore (lv' := [(4, .int 0), (0, .ref o9), (2, .int l2), (3, .int l3)]) hx hb dX9_formed_147 hl (by decide) rfl (fun ls hl => ?_)
              refine lv_aload_n hx hb dX9_formed_149 rfl (lv_at hl 1 rfl) ?_
              refine va_get (D := (dC, dI)) (ci := 9) (v := .ref a9_24) (C := RX9) (T := TX9) (N := 62) hx hb hts i_X9_formed_X9 hown hK hP 0 rfl rfl 24 (by decide) k_6 (fun _ h9 => h9) rfl dX9_formed_150 ?_
              refine lv_iload_n hx hb dX9_formed_153 rfl (lv_at hl 2 rfl) ?_
              obtain ⟨g_18, hf⟩ := x_gu hf
              refine va_iald hx hb hK hP 3 0 rfl rfl (x_gdin g_18) dX9_formed_154 ?_
              refine lv_aload_n hx hb dX9_formed_155 rfl (lv_at hl 1 rfl) ?_
              refine va_get (D := (dC, dI)) (ci := 9) (v := .int v9_16) (C := RX9) (T := TX9) (N := 62) hx hb hts i_X9_formed_X9 hown hK hP 0 rfl rfl 16 (by decide) k_2 (fun _ h9 => h9) rfl dX9_formed_156 ?_
              refine lv_icmp_ge (tgt := 182) hx hb dX9_formed_159 (by decide) (fun c_19 => ?_) (fun c_19 => ?_)
              · replace hf := x_ip c_19 hf
                refine lv_iconst (v := 0) hx hb dX9_formed_182 (by decide) ?_
                obtain rfl := Option.some.inj hf
                exact W.zret (ty := .boolean) hx hb hr rfl (fun t ht hW => ⟨⟨_, (), rfl, ⟨rfl, rfl⟩, trivial⟩, hS.F ht⟩) hS.2.2 dX9_formed_183
              · replace hf := x_in c_19 hf
                refine lv_iload hx hb dX9_formed_162 (lv_at hl 0 rfl) ?_
                refine lv_if_eq (tgt := 184) hx hb dX9_formed_164 (by decide) (fun _ => ?_) (fun c_20 => absurd (by decide) c_20)
                exact (hWW _ _ _ _ _).mpr ((ih (6, 0, l2, l3, 0) _ hf rfl _ _ _ _ _ rfl).2.2.2.2.2.2.1 rfl H locs ls hP hS (lv_sub hl [1, 2, 3] rfl))
            · replace hf := x_ip c_17 hf
              exact (hWW _ _ _ _ _).mpr ((ih (5, 0, l2, l3, 0) _ hf rfl _ _ _ _ _ rfl).2.2.2.2.2.1 rfl H locs ls hP hS (lv_sub hl [0, 1, 2] rfl))
    · intro hq H locs ls hP hS hl
      subst hq
      refine (hWW _ _ _ _ _).mp ?_
      replace hf := x_ip rfl (x_in (by decide) (x_in (by decide) (x_in (by decide) (x_in (by decide) (x_in (by decide) hf)))))
      refine lv_iconst (v := 1) hx hb dX9_formed_142 (by decide) ?_
      refine lv_goto (tgt := 147) hx hb dX9_formed_143 (by decide) ?_
      refine lv_istore (lv' := [(4, .int 1), (0, .ref o9), (2, .int l2), (3, .int l3)]) hx hb dX9_formed_147 hl (by decide) rfl (fun ls hl => ?_)
      refine lv_aload_n hx hb dX9_formed_149 rfl (lv_at hl 1 rfl) ?_
      refine va_get (D := (dC, dI)) (ci := 9) (v := .ref a9_24) (C := RX9) (T := TX9) (N := 62) hx hb hts i_X9_formed_X9 hown hK hP 0 rfl rfl 24 (by decide) k_6 (fun _ h9 => h9) rfl dX9_formed_150 ?_
      refine lv_iload_n hx hb dX9_formed_153 rfl (lv_at hl 2 rfl) ?_
      obtain ⟨g_21, hf⟩ := x_gu hf
      refine va_iald hx hb hK hP 3 0 rfl rfl (x_gdin g_21) dX9_formed_154 ?_
      refine lv_aload_n hx hb dX9_formed_155 rfl (lv_at hl 1 rfl) ?_
      refine va_get (D := (dC, dI)) (ci := 9) (v := .int v9_16) (C := RX9) (T := TX9) (N := 62) hx hb hts i_X9_formed_X9 hown hK hP 0 rfl rfl 16 (by decide) k_2 (fun _ h9 => h9) rfl dX9_formed_156 ?_
      refine lv_icmp_ge (tgt := 182) hx hb dX9_formed_159 (by decide) (fun c_22 => ?_) (fun c_22 => ?_)
      · replace hf := x_ip c_22 hf
        refine lv_iconst (v := 0) hx hb dX9_formed_182 (by decide) ?_
        obtain rfl := Option.some.inj hf
        exact W.zret (ty := .boolean) hx hb hr rfl (fun t ht hW => ⟨⟨_, (), rfl, ⟨rfl, rfl⟩, trivial⟩, hS.F ht⟩) hS.2.2 dX9_formed_183
      · replace hf := x_in c_22 hf
        refine lv_iload hx hb dX9_formed_162 (lv_at hl 0 rfl) ?_
        refine lv_if_eq (tgt := 184) hx hb dX9_formed_164 (by decide) (fun c_23 => absurd c_23 (by decide)) (fun _ => ?_)
        refine lv_aload_n hx hb dX9_formed_167 rfl (lv_at hl 1 rfl) ?_
        refine va_get (D := (dC, dI)) (ci := 9) (v := .ref a9_24) (C := RX9) (T := TX9) (N := 62) hx hb hts i_X9_formed_X9 hown hK hP 0 rfl rfl 24 (by decide) k_6 (fun _ h9 => h9) rfl dX9_formed_168 ?_
        refine lv_iload_n hx hb dX9_formed_171 rfl (lv_at hl 2 rfl) ?_
        obtain ⟨g_24, hf⟩ := x_gu hf
        refine va_iald hx hb hK hP 3 0 rfl rfl (x_gdin g_24) dX9_formed_172 ?_
        refine lv_iconst (v := 1) hx hb dX9_formed_173 (by decide) ?_
        refine lv_iadd hx hb dX9_formed_174 ?_
        refine lv_aload_n hx hb dX9_formed_175 rfl (lv_at hl 1 rfl) ?_
        refine va_get (D := (dC, dI)) (ci := 9) (v := .int v9_16) (C := RX9) (T := TX9) (N := 62) hx hb hts i_X9_formed_X9 hown hK hP 0 rfl rfl 16 (by decide) k_2 (fun _ h9 => h9) rfl dX9_formed_176 ?_
        refine lv_icmp_lt (tgt := 184) hx hb dX9_formed_179 (by decide) (fun c_25 => ?_) (fun c_25 => ?_)
        · replace hf := x_ip c_25 hf
          exact (hWW _ _ _ _ _).mpr ((ih (6, 0, l2, l3, 0) _ hf rfl _ _ _ _ _ rfl).2.2.2.2.2.2.1 rfl H locs ls hP hS (lv_sub hl [1, 2, 3] rfl))
        · replace hf := x_in c_25 hf
          refine lv_iconst (v := 0) hx hb dX9_formed_182 (by decide) ?_
          obtain rfl := Option.some.inj hf
          exact W.zret (ty := .boolean) hx hb hr rfl (fun t ht hW => ⟨⟨_, (), rfl, ⟨rfl, rfl⟩, trivial⟩, hS.F ht⟩) hS.2.2 dX9_formed_183
    · intro hq H locs ls hP hS hl
      subst hq
      refine (hWW _ _ _ _ _).mp ?_
      replace hf := x_ip rfl (x_in (by decide) (x_in (by decide) (x_in (by decide) (x_in (by decide) (x_in (by decide) (x_in (by decide) hf))))))
      refine lv_iload_n hx hb dX9_formed_184 rfl (lv_at hl 2 rfl) ?_
      refine lv_sipush (v := 153) hx hb dX9_formed_185 (by decide) ?_
      refine lv_icmp_lt (tgt := 198) hx hb dX9_formed_188 (by decide) (fun c_26 => ?_) (fun c_26 => ?_)
      · replace hf := x_ip c_26 hf
        exact (hWW _ _ _ _ _).mpr ((ih (7, 0, l2, l3, 0) _ hf rfl _ _ _ _ _ rfl).2.2.2.2.2.2.2.1 rfl H locs ls hP hS (lv_sub hl [0, 1, 2] rfl))
      · replace hf := x_in c_26 hf
        refine lv_iload_n hx hb dX9_formed_191 rfl (lv_at hl 2 rfl) ?_
        refine lv_sipush (v := 168) hx hb dX9_formed_192 (by decide) ?_
        refine lv_icmp_le (tgt := 212) hx hb dX9_formed_195 (by decide) (fun c_27 => ?_) (fun c_27 => ?_)
        · replace hf := x_ip c_27 hf
          exact (hWW _ _ _ _ _).mpr ((ih (8, 0, l2, l3, 0) _ hf rfl _ _ _ _ _ rfl).2.2.2.2.2.2.2.2.1 rfl H locs ls hP hS (lv_sub hl [0, 1, 2] rfl))
        · replace hf := x_in c_27 hf
          exact (hWW _ _ _ _ _).mpr ((ih (7, 0, l2, l3, 0) _ hf rfl _ _ _ _ _ rfl).2.2.2.2.2.2.2.1 rfl H locs ls hP hS (lv_sub hl [0, 1, 2] rfl))
    · intro hq H locs ls hP hS hl
      subst hq
      refine (hWW _ _ _ _ _).mp ?_
      replace hf := x_ip rfl (x_in (by decide) (x_in (by decide) (x_in (by decide) (x_in (by decide) (x_in (by decide) (x_in (by decide) (x_in (by decide) hf)))))))
      refine lv_iload_n hx hb dX9_formed_198 rfl (lv_at hl 2 rfl) ?_
      refine lv_sipush (v := 198) hx hb dX9_formed_199 (by decide) ?_
      refine lv_icmp_eq (tgt := 212) hx hb dX9_formed_202 (by decide) (fun c_28 => ?_) (fun c_28 => ?_)
      · replace hf := x_ip c_28 hf
        exact (hWW _ _ _ _ _).mpr ((ih (8, 0, l2, l3, 0) _ hf rfl _ _ _ _ _ rfl).2.2.2.2.2.2.2.2.1 rfl H locs ls hP hS (lv_sub hl [0, 1, 2] rfl))
      · replace hf := x_in c_28 hf
        refine lv_iload_n hx hb dX9_formed_205 rfl (lv_at hl 2 rfl) ?_
        refine lv_sipush (v := 199) hx hb dX9_formed_206 (by decide) ?_
        refine lv_icmp_ne (tgt := 227) hx hb dX9_formed_209 (by decide) (fun c_29 => ?_) (fun c_29 => ?_)
        · replace hf := x_in c_29 hf
          exact (hWW _ _ _ _ _).mpr ((ih (9, 0, l2, l3, 0) _ hf rfl _ _ _ _ _ rfl).2.2.2.2.2.2.2.2.2.1 rfl H locs ls hP hS (lv_sub hl [0, 1, 2] rfl))
        · replace hf := x_ip c_29 hf
          exact (hWW _ _ _ _ _).mpr ((ih (8, 0, l2, l3, 0) _ hf rfl _ _ _ _ _ rfl).2.2.2.2.2.2.2.2.1 rfl H locs ls hP hS (lv_sub hl [0, 1, 2] rfl))
    · intro hq H locs ls hP hS hl
      subst hq
      refine (hWW _ _ _ _ _).mp ?_
      replace hf := x_ip rfl (x_in (by decide) (x_in (by decide) (x_in (by decide) (x_in (by decide) (x_in (by decide) (x_in (by decide) (x_in (by decide) (x_in (by decide) hf))))))))
      refine lv_aload_n hx hb dX9_formed_212 rfl (lv_at hl 0 rfl) ?_
      refine va_get (D := (dC, dI)) (ci := 9) (v := .ref a9_24) (C := RX9) (T := TX9) (N := 62) hx hb hts i_X9_formed_X9 hown hK hP 0 rfl rfl 24 (by decide) k_6 (fun _ h9 => h9) rfl dX9_formed_213 ?_
      refine lv_iload_n hx hb dX9_formed_216 rfl (lv_at hl 1 rfl) ?_
      obtain ⟨g_30, hf⟩ := x_gu hf
      refine va_iald hx hb hK hP 3 0 rfl rfl (x_gdin g_30) dX9_formed_217 ?_
      refine lv_aload_n hx hb dX9_formed_218 rfl (lv_at hl 0 rfl) ?_
      refine va_get (D := (dC, dI)) (ci := 9) (v := .int v9_20) (C := RX9) (T := TX9) (N := 62) hx hb hts i_X9_formed_X9 hown hK hP 0 rfl rfl 20 (by decide) k_4 (fun _ h9 => h9) rfl dX9_formed_219 ?_
      refine lv_icmp_lt (tgt := 227) hx hb dX9_formed_222 (by decide) (fun c_31 => ?_) (fun c_31 => ?_)
      · replace hf := x_ip c_31 hf
        exact (hWW _ _ _ _ _).mpr ((ih (9, 0, l2, l3, 0) _ hf rfl _ _ _ _ _ rfl).2.2.2.2.2.2.2.2.2.1 rfl H locs ls hP hS (lv_sub hl [0, 1, 2] rfl))
      · replace hf := x_in c_31 hf
        refine lv_iconst (v := 0) hx hb dX9_formed_225 (by decide) ?_
        obtain rfl := Option.some.inj hf
        exact W.zret (ty := .boolean) hx hb hr rfl (fun t ht hW => ⟨⟨_, (), rfl, ⟨rfl, rfl⟩, trivial⟩, hS.F ht⟩) hS.2.2 dX9_formed_226
    · intro hq H locs ls hP hS hl
      subst hq
      refine (hWW _ _ _ _ _).mp ?_
      replace hf := x_ip rfl (x_in (by decide) (x_in (by decide) (x_in (by decide) (x_in (by decide) (x_in (by decide) (x_in (by decide) (x_in (by decide) (x_in (by decide) (x_in (by decide) hf)))))))))
      refine lv_iload_n hx hb dX9_formed_227 rfl (lv_at hl 2 rfl) ?_
      refine lv_sipush (v := 170) hx hb dX9_formed_228 (by decide) ?_
      refine lv_icmp_eq (tgt := 241) hx hb dX9_formed_231 (by decide) (fun c_32 => ?_) (fun c_32 => ?_)
      · replace hf := x_ip c_32 hf
        exact (hWW _ _ _ _ _).mpr ((ih (10, 0, l2, 0, 0) _ hf rfl _ _ _ _ _ rfl).2.2.2.2.2.2.2.2.2.2.1 rfl H locs ls hP hS (lv_sub hl [0, 1] rfl))
      · replace hf := x_in c_32 hf
        refine lv_iload_n hx hb dX9_formed_234 rfl (lv_at hl 2 rfl) ?_
        refine lv_sipush (v := 171) hx hb dX9_formed_235 (by decide) ?_
        refine lv_icmp_ne (tgt := 295) hx hb dX9_formed_238 (by decide) (fun c_33 => ?_) (fun c_33 => ?_)
        · replace hf := x_in c_33 hf
          exact (hWW _ _ _ _ _).mpr ((ih (12, 0, l2, 0, 0) _ hf rfl _ _ _ _ _ rfl).2.2.2.2.2.2.2.2.2.2.2.2.1 rfl H locs ls hP hS (lv_sub hl [0, 1] rfl))
        · replace hf := x_ip c_33 hf
          exact (hWW _ _ _ _ _).mpr ((ih (10, 0, l2, 0, 0) _ hf rfl _ _ _ _ _ rfl).2.2.2.2.2.2.2.2.2.2.1 rfl H locs ls hP hS (lv_sub hl [0, 1] rfl))
    · intro hq H locs ls hP hS hl
      subst hq
      refine (hWW _ _ _ _ _).mp ?_
      replace hf := x_ip rfl (x_in (by decide) (x_in (by decide) (x_in (by decide) (x_in (by decide) (x_in (by decide) (x_in (by decide) (x_in (by decide) (x_in (by decide) (x_in (by decide) (x_in (by decide) hf))))))))))
      refine lv_aload_n hx hb dX9_formed_241 rfl (lv_at hl 0 rfl) ?_
      refine va_get (D := (dC, dI)) (ci := 9) (v := .ref a9_27) (C := RX9) (T := TX9) (N := 62) hx hb hts i_X9_formed_X9 hown hK hP 0 rfl rfl 27 (by decide) k_7 (fun _ h9 => h9) rfl dX9_formed_242 ?_
      refine lv_iload_n hx hb dX9_formed_245 rfl (lv_at hl 1 rfl) ?_
      obtain ⟨g_34, hf⟩ := x_gu hf
      refine va_iald hx hb hK hP 5 0 rfl rfl (x_gdin g_34) dX9_formed_246 ?_
      refine lv_if_ne (tgt := 252) hx hb dX9_formed_247 (by decide) (fun c_35 => ?_) (fun c_35 => ?_)
      · replace hf := x_in c_35 hf
        refine lv_iconst (v := 0) hx hb dX9_formed_252 (by decide) ?_
        refine lv_istore (lv' := [(4, .int 0), (0, .ref o9), (2, .int l2)]) hx hb dX9_formed_253 hl (by decide) rfl (fun ls hl => ?_)
        exact (hWW _ _ _ _ _).mpr ((ih (11, 0, l2, 0, 0) _ hf rfl _ _ _ _ _ rfl).2.2.2.2.2.2.2.2.2.2.2.1 rfl H locs ls hP hS (lv_sub hl [1, 2, 0] rfl))
      · replace hf := x_ip c_35 hf
        refine lv_iconst (v := 0) hx hb dX9_formed_250 (by decide) ?_
        obtain rfl := Option.some.inj hf
        exact W.zret (ty := .boolean) hx hb hr rfl (fun t ht hW => ⟨⟨_, (), rfl, ⟨rfl, rfl⟩, trivial⟩, hS.F ht⟩) hS.2.2 dX9_formed_251
    · intro hq H locs ls hP hS hl
      subst hq
      refine (hWW _ _ _ _ _).mp ?_
      replace hf := x_ip rfl (x_in (by decide) (x_in (by decide) (x_in (by decide) (x_in (by decide) (x_in (by decide) (x_in (by decide) (x_in (by decide) (x_in (by decide) (x_in (by decide) (x_in (by decide) (x_in (by decide) hf)))))))))))
      refine lv_iload hx hb dX9_formed_255 (lv_at hl 2 rfl) ?_
      refine lv_aload_n hx hb dX9_formed_257 rfl (lv_at hl 0 rfl) ?_
      refine va_get (D := (dC, dI)) (ci := 9) (v := .ref a9_27) (C := RX9) (T := TX9) (N := 62) hx hb hts i_X9_formed_X9 hown hK hP 0 rfl rfl 27 (by decide) k_7 (fun _ h9 => h9) rfl dX9_formed_258 ?_
      refine lv_iload_n hx hb dX9_formed_261 rfl (lv_at hl 1 rfl) ?_
      obtain ⟨g_36, hf⟩ := x_gu hf
      refine va_iald hx hb hK hP 5 0 rfl rfl (x_gdin g_36) dX9_formed_262 ?_
      refine lv_icmp_ge (tgt := 295) hx hb dX9_formed_263 (by decide) (fun c_37 => ?_) (fun c_37 => ?_)
      · replace hf := x_ip c_37 hf
        exact (hWW _ _ _ _ _).mpr ((ih (12, 0, l2, 0, 0) _ hf rfl _ _ _ _ _ rfl).2.2.2.2.2.2.2.2.2.2.2.2.1 rfl H locs ls hP hS (lv_sub hl [0, 1] rfl))
      · replace hf := x_in c_37 hf
        refine lv_aload_n hx hb dX9_formed_266 rfl (lv_at hl 0 rfl) ?_
        refine va_get (D := (dC, dI)) (ci := 9) (v := .ref a9_28) (C := RX9) (T := TX9) (N := 62) hx hb hts i_X9_formed_X9 hown hK hP 0 rfl rfl 28 (by decide) k_8 (fun _ h9 => h9) rfl dX9_formed_267 ?_
        refine lv_aload_n hx hb dX9_formed_270 rfl (lv_at hl 0 rfl) ?_
        refine va_get (D := (dC, dI)) (ci := 9) (v := .ref a9_26) (C := RX9) (T := TX9) (N := 62) hx hb hts i_X9_formed_X9 hown hK hP 0 rfl rfl 26 (by decide) k_9 (fun _ h9 => h9) rfl dX9_formed_271 ?_
        refine lv_iload_n hx hb dX9_formed_274 rfl (lv_at hl 1 rfl) ?_
        obtain ⟨g_38, hf⟩ := x_gu hf
        refine va_iald hx hb hK hP 4 0 rfl rfl (x_gdin g_38) dX9_formed_275 ?_
        refine lv_iload hx hb dX9_formed_276 (lv_at hl 2 rfl) ?_
        refine lv_iadd hx hb dX9_formed_278 ?_
        obtain ⟨g_39, hf⟩ := x_gu hf
        refine va_iald hx hb hK hP 6 0 rfl rfl (x_gdin g_39) dX9_formed_279 ?_
        refine lv_aload_n hx hb dX9_formed_280 rfl (lv_at hl 0 rfl) ?_
        refine va_get (D := (dC, dI)) (ci := 9) (v := .int v9_20) (C := RX9) (T := TX9) (N := 62) hx hb hts i_X9_formed_X9 hown hK hP 0 rfl rfl 20 (by decide) k_4 (fun _ h9 => h9) rfl dX9_formed_281 ?_
        refine lv_icmp_lt (tgt := 289) hx hb dX9_formed_284 (by decide) (fun c_40 => ?_) (fun c_40 => ?_)
        · replace hf := x_ip c_40 hf
          refine lv_iinc (v := (l4 + 1)) (lv' := [(4, .int (l4 + 1)), (0, .ref o9), (2, .int l2)]) hx hb dX9_formed_289 hl (k := 2) rfl rfl (by decide) rfl (fun ls hl => ?_)
          refine lv_goto (tgt := 255) hx hb dX9_formed_292 (by decide) ?_
          exact (hWW _ _ _ _ _).mpr ((ih (11, 0, l2, 0, l4 + 1) _ hf rfl _ _ _ _ _ rfl).2.2.2.2.2.2.2.2.2.2.2.1 rfl H locs ls hP hS (lv_sub hl [1, 2, 0] rfl))
        · replace hf := x_in c_40 hf
          refine lv_iconst (v := 0) hx hb dX9_formed_287 (by decide) ?_
          obtain rfl := Option.some.inj hf
          exact W.zret (ty := .boolean) hx hb hr rfl (fun t ht hW => ⟨⟨_, (), rfl, ⟨rfl, rfl⟩, trivial⟩, hS.F ht⟩) hS.2.2 dX9_formed_288
    · intro hq H locs ls hP hS hl
      subst hq
      refine (hWW _ _ _ _ _).mp ?_
      replace hf := x_ip rfl (x_in (by decide) (x_in (by decide) (x_in (by decide) (x_in (by decide) (x_in (by decide) (x_in (by decide) (x_in (by decide) (x_in (by decide) (x_in (by decide) (x_in (by decide) (x_in (by decide) (x_in (by decide) hf))))))))))))
      refine lv_iinc (v := (l2 + 1)) (lv' := [(2, .int (l2 + 1)), (0, .ref o9)]) hx hb dX9_formed_295 hl (k := 1) rfl rfl (by decide) rfl (fun ls hl => ?_)
      refine lv_goto (tgt := 65) hx hb dX9_formed_298 (by decide) ?_
      exact (hWW _ _ _ _ _).mpr ((ih (1, 0, l2 + 1, 0, 0) _ hf rfl _ _ _ _ _ rfl).2.1 rfl H locs ls hP hS (lv_sub hl [1, 0] rfl))
    · intro hq H locs ls hP hS hl
      subst hq
      refine (hWW _ _ _ _ _).mp ?_
      replace hf := x_ip rfl (x_in (by decide) (x_in (by decide) (x_in (by decide) (x_in (by decide) (x_in (by decide) (x_in (by decide) (x_in (by decide) (x_in (by decide) (x_in (by decide) (x_in (by decide) (x_in (by decide) (x_in (by decide) (x_in (by decide) hf)))))))))))))
      refine lv_iload_n hx hb dX9_formed_303 rfl (lv_at hl 1 rfl) ?_
      refine lv_aload_n hx hb dX9_formed_304 rfl (lv_at hl 0 rfl) ?_
      refine va_get (D := (dC, dI)) (ci := 9) (v := .int v9_21) (C := RX9) (T := TX9) (N := 62) hx hb hts i_X9_formed_X9 hown hK hP 0 rfl rfl 21 (by decide) k_10 (fun _ h9 => h9) rfl dX9_formed_305 ?_
      refine lv_icmp_ge (tgt := 373) hx hb dX9_formed_308 (by decide) (fun c_41 => ?_) (fun c_41 => ?_)
      · replace hf := x_ip c_41 hf
        refine lv_iconst (v := 1) hx hb dX9_formed_373 (by decide) ?_
        obtain rfl := Option.some.inj hf
        exact W.zret (ty := .boolean) hx hb hr rfl (fun t ht hW => ⟨⟨_, (), rfl, ⟨rfl, rfl⟩, trivial⟩, hS.F ht⟩) hS.2.2 dX9_formed_374
      · replace hf := x_in c_41 hf
        refine lv_aload_n hx hb dX9_formed_311 rfl (lv_at hl 0 rfl) ?_
        refine va_get (D := (dC, dI)) (ci := 9) (v := .ref a9_29) (C := RX9) (T := TX9) (N := 62) hx hb hts i_X9_formed_X9 hown hK hP 0 rfl rfl 29 (by decide) k_11 (fun _ h9 => h9) rfl dX9_formed_312 ?_
        refine lv_iload_n hx hb dX9_formed_315 rfl (lv_at hl 1 rfl) ?_
        obtain ⟨g_42, hf⟩ := x_gu hf
        refine va_iald hx hb hK hP 7 0 rfl rfl (x_gdin g_42) dX9_formed_316 ?_
        refine lv_aload_n hx hb dX9_formed_317 rfl (lv_at hl 0 rfl) ?_
        refine va_get (D := (dC, dI)) (ci := 9) (v := .int v9_20) (C := RX9) (T := TX9) (N := 62) hx hb hts i_X9_formed_X9 hown hK hP 0 rfl rfl 20 (by decide) k_4 (fun _ h9 => h9) rfl dX9_formed_318 ?_
        refine lv_icmp_ge (tgt := 365) hx hb dX9_formed_321 (by decide) (fun c_43 => ?_) (fun c_43 => ?_)
        · replace hf := x_ip c_43 hf
          refine lv_iconst (v := 0) hx hb dX9_formed_365 (by decide) ?_
          obtain rfl := Option.some.inj hf
          exact W.zret (ty := .boolean) hx hb hr rfl (fun t ht hW => ⟨⟨_, (), rfl, ⟨rfl, rfl⟩, trivial⟩, hS.F ht⟩) hS.2.2 dX9_formed_366
        · replace hf := x_in c_43 hf
          refine lv_aload_n hx hb dX9_formed_324 rfl (lv_at hl 0 rfl) ?_
          refine va_get (D := (dC, dI)) (ci := 9) (v := .ref a9_30) (C := RX9) (T := TX9) (N := 62) hx hb hts i_X9_formed_X9 hown hK hP 0 rfl rfl 30 (by decide) k_12 (fun _ h9 => h9) rfl dX9_formed_325 ?_
          refine lv_iload_n hx hb dX9_formed_328 rfl (lv_at hl 1 rfl) ?_
          obtain ⟨g_44, hf⟩ := x_gu hf
          refine va_iald hx hb hK hP 8 0 rfl rfl (x_gdin g_44) dX9_formed_329 ?_
          refine lv_aload_n hx hb dX9_formed_330 rfl (lv_at hl 0 rfl) ?_
          refine va_get (D := (dC, dI)) (ci := 9) (v := .int v9_20) (C := RX9) (T := TX9) (N := 62) hx hb hts i_X9_formed_X9 hown hK hP 0 rfl rfl 20 (by decide) k_4 (fun _ h9 => h9) rfl dX9_formed_331 ?_
          refine lv_icmp_gt (tgt := 365) hx hb dX9_formed_334 (by decide) (fun c_45 => ?_) (fun c_45 => ?_)
          · replace hf := x_ip c_45 hf
            refine lv_iconst (v := 0) hx hb dX9_formed_365 (by decide) ?_
            obtain rfl := Option.some.inj hf
            exact W.zret (ty := .boolean) hx hb hr rfl (fun t ht hW => ⟨⟨_, (), rfl, ⟨rfl, rfl⟩, trivial⟩, hS.F ht⟩) hS.2.2 dX9_formed_366
          · replace hf := x_in c_45 hf
            refine lv_aload_n hx hb dX9_formed_337 rfl (lv_at hl 0 rfl) ?_
            refine va_get (D := (dC, dI)) (ci := 9) (v := .ref a9_29) (C := RX9) (T := TX9) (N := 62) hx hb hts i_X9_formed_X9 hown hK hP 0 rfl rfl 29 (by decide) k_11 (fun _ h9 => h9) rfl dX9_formed_338 ?_
            refine lv_iload_n hx hb dX9_formed_341 rfl (lv_at hl 1 rfl) ?_
            obtain ⟨g_46, hf⟩ := x_gu hf
            refine va_iald hx hb hK hP 7 0 rfl rfl (x_gdin g_46) dX9_formed_342 ?_
            refine lv_aload_n hx hb dX9_formed_343 rfl (lv_at hl 0 rfl) ?_
            refine va_get (D := (dC, dI)) (ci := 9) (v := .ref a9_30) (C := RX9) (T := TX9) (N := 62) hx hb hts i_X9_formed_X9 hown hK hP 0 rfl rfl 30 (by decide) k_12 (fun _ h9 => h9) rfl dX9_formed_344 ?_
            refine lv_iload_n hx hb dX9_formed_347 rfl (lv_at hl 1 rfl) ?_
            obtain ⟨g_47, hf⟩ := x_gu hf
            refine va_iald hx hb hK hP 8 0 rfl rfl (x_gdin g_47) dX9_formed_348 ?_
            refine lv_icmp_ge (tgt := 365) hx hb dX9_formed_349 (by decide) (fun c_48 => ?_) (fun c_48 => ?_)
            · replace hf := x_ip c_48 hf
              refine lv_iconst (v := 0) hx hb dX9_formed_365 (by decide) ?_
              obtain rfl := Option.some.inj hf
              exact W.zret (ty := .boolean) hx hb hr rfl (fun t ht hW => ⟨⟨_, (), rfl, ⟨rfl, rfl⟩, trivial⟩, hS.F ht⟩) hS.2.2 dX9_formed_366
            · replace hf := x_in c_48 hf
              refine lv_aload_n hx hb dX9_formed_352 rfl (lv_at hl 0 rfl) ?_
              refine va_get (D := (dC, dI)) (ci := 9) (v := .ref a9_31) (C := RX9) (T := TX9) (N := 62) hx hb hts i_X9_formed_X9 hown hK hP 0 rfl rfl 31 (by decide) k_13 (fun _ h9 => h9) rfl dX9_formed_353 ?_
              refine lv_iload_n hx hb dX9_formed_356 rfl (lv_at hl 1 rfl) ?_
              obtain ⟨g_49, hf⟩ := x_gu hf
              refine va_iald hx hb hK hP 9 0 rfl rfl (x_gdin g_49) dX9_formed_357 ?_
              refine lv_aload_n hx hb dX9_formed_358 rfl (lv_at hl 0 rfl) ?_
              refine va_get (D := (dC, dI)) (ci := 9) (v := .int v9_20) (C := RX9) (T := TX9) (N := 62) hx hb hts i_X9_formed_X9 hown hK hP 0 rfl rfl 20 (by decide) k_4 (fun _ h9 => h9) rfl dX9_formed_359 ?_
              refine lv_icmp_lt (tgt := 367) hx hb dX9_formed_362 (by decide) (fun c_50 => ?_) (fun c_50 => ?_)
              · replace hf := x_ip c_50 hf
                refine lv_iinc (v := (l2 + 1)) (lv' := [(2, .int (l2 + 1)), (0, .ref o9)]) hx hb dX9_formed_367 hl (k := 1) rfl rfl (by decide) rfl (fun ls hl => ?_)
                refine lv_goto (tgt := 303) hx hb dX9_formed_370 (by decide) ?_
                exact (hWW _ _ _ _ _).mpr ((ih (13, 0, l2 + 1, 0, 0) _ hf rfl _ _ _ _ _ rfl).2.2.2.2.2.2.2.2.2.2.2.2.2 rfl H locs ls hP hS (lv_sub hl [1, 0] rfl))
              · replace hf := x_in c_50 hf
                refine lv_iconst (v := 0) hx hb dX9_formed_365 (by decide) ?_
                obtain rfl := Option.some.inj hf
                exact W.zret (ty := .boolean) hx hb hr rfl (fun t ht hW => ⟨⟨_, (), rfl, ⟨rfl, rfl⟩, trivial⟩, hS.F ht⟩) hS.2.2 dX9_formed_366)
  refine lv_aload_n hx hb dX9_formed_0 rfl (lv_at hl 0 rfl) ?_
  refine va_get (D := (dC, dI)) (ci := 9) (v := .int v9_20) (C := RX9) (T := TX9) (N := 62) hx hb hts i_X9_formed_X9 hown hK hP 0 rfl rfl 20 (by decide) k_4 (fun _ h9 => h9) rfl dX9_formed_1 ?_
  refine lv_if_ne (tgt := 9) hx hb dX9_formed_4 (by decide) (fun c_51 => ?_) (fun c_51 => ?_)
  · replace hf := x_in c_51 hf
    refine lv_aload_n hx hb dX9_formed_9 rfl (lv_at hl 0 rfl) ?_
    refine va_get (D := (dC, dI)) (ci := 9) (v := .int v9_14) (C := RX9) (T := TX9) (N := 62) hx hb hts i_X9_formed_X9 hown hK hP 0 rfl rfl 14 (by decide) k_14 (fun _ h9 => h9) rfl dX9_formed_10 ?_
    refine lv_if_ne (tgt := 20) hx hb dX9_formed_13 (by decide) (fun c_52 => ?_) (fun c_52 => ?_)
    · replace hf := x_in c_52 hf
      refine lv_iconst (v := 1) hx hb dX9_formed_20 (by decide) ?_
      refine lv_istore_n (lv' := [(1, .int 1), (0, .ref o9)]) hx hb dX9_formed_21 rfl hl (by decide) rfl (fun ls hl => ?_)
      refine lv_iconst (v := 0) hx hb dX9_formed_22 (by decide) ?_
      refine lv_istore_n (lv' := [(2, .int 0), (1, .int 1), (0, .ref o9)]) hx hb dX9_formed_23 rfl hl (by decide) rfl (fun ls hl => ?_)
      exact (hWW _ _ _ _ _).mpr ((J (0, 1, 0, 0, 0) _ hf rfl _ _ _ _ _ rfl).1 rfl H locs ls hP hS (lv_sub hl [2, 1, 0] rfl))
    · replace hf := x_ip c_52 hf
      refine lv_iconst (v := 0) hx hb dX9_formed_16 (by decide) ?_
      refine lv_goto (tgt := 21) hx hb dX9_formed_17 (by decide) ?_
      refine lv_istore_n (lv' := [(1, .int 0), (0, .ref o9)]) hx hb dX9_formed_21 rfl hl (by decide) rfl (fun ls hl => ?_)
      refine lv_iconst (v := 0) hx hb dX9_formed_22 (by decide) ?_
      refine lv_istore_n (lv' := [(2, .int 0), (1, .int 0), (0, .ref o9)]) hx hb dX9_formed_23 rfl hl (by decide) rfl (fun ls hl => ?_)
      exact (hWW _ _ _ _ _).mpr ((J (0, 0, 0, 0, 0) _ hf rfl _ _ _ _ _ rfl).1 rfl H locs ls hP hS (lv_sub hl [2, 1, 0] rfl))
  · replace hf := x_ip c_51 hf
    refine lv_iconst (v := 0) hx hb dX9_formed_7 (by decide) ?_
    obtain rfl := Option.some.inj hf
    exact W.zret (ty := .boolean) hx hb hr rfl (fun t ht hW => ⟨⟨_, (), rfl, ⟨rfl, rfl⟩, trivial⟩, hS.F ht⟩) hS.2.2 dX9_formed_8

