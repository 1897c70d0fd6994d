def f_X3_join_L (v7_2 : Int32) (g7_0 : Nat → Int32) (v3_2 : Int32) (v3_3 : Int32) (n3_5 : Nat) (g3_8 : Nat → Int32) (n3_8 : Nat) (n3_9 : Nat) (n3_12 : Nat) (v5_3 : Int32) (v5_5 : Int32) (g5_1 : Nat → Int32) (l1 : Int32) (l4 : Int32) (v3_13 : Int32) (v3_14 : Int32) (g3_9 : Nat → Int32) (g3_12 : Nat → Int32) (z : Nat × Int32 × Int32 × (Nat → Int32)) : Option (Int32 × Int32 × Int32 × (Nat → Int32) × (Nat → Int32) × (Nat → Int32)) := match z with
  | (q, l3, l5, g3_5) => if q = 0 then if v5_3 ≤ l5 then if l3 = (0 : Int32) then some (1, v3_13, v3_14, g3_5, g3_9, g3_12) else if x_gd l1 n3_9 = true then if (g3_9 (Int32.toNatClampNeg l1)) ≤ v5_5 then if x_gd l1 n3_9 = true then if x_gd l1 n3_9 = true then (f_X3_await v3_13 v3_14 g3_12 n3_12 l1) >>= (fun r_7 => some (1, r_7.1, r_7.2.1, g3_5, upd g3_9 (Int32.toNatClampNeg l1) (g3_9 (Int32.toNatClampNeg l1)), r_7.2.2)) else none else none else if x_gd l1 n3_9 = true then (f_X3_await v3_13 v3_14 g3_12 n3_12 l1) >>= (fun r_9 => some (1, r_9.1, r_9.2.1, g3_5, upd g3_9 (Int32.toNatClampNeg l1) v5_5, r_9.2.2)) else none else none else if x_gd (l4 + l5) n3_5 = true then if x_gd l5 400 = true then if (g3_5 (Int32.toNatClampNeg (l4 + l5))) = (g5_1 (Int32.toNatClampNeg l5)) then if (g3_5 (Int32.toNatClampNeg (l4 + l5))) = (7 : Int32) then if x_gd l5 400 = true then (f_X7_meet v7_2 g7_0 (g3_5 (Int32.toNatClampNeg (l4 + l5))) (g5_1 (Int32.toNatClampNeg l5))) >>= (fun r_51 => if r_51 = (7 : Int32) then (f_X3_isWideAt g3_5 n3_5 ((l4 + l5) - (1 : Int32))) >>= (fun r_65 => if r_65 = (0 : Int32) then if l5 < v3_2 then if l3 = (0 : Int32) then if (0 : Int32) = (g3_5 (Int32.toNatClampNeg (l4 + l5))) then if x_gd (l4 + l5) n3_5 = true then (f_X3_join_L v7_2 g7_0 v3_2 v3_3 n3_5 g3_8 n3_8 n3_9 n3_12 v5_3 v5_5 g5_1 l1 l4 v3_13 v3_14 g3_9 g3_12 (0, 0, l5 + 1, upd g3_5 (Int32.toNatClampNeg (l4 + l5)) 0)) else none else if x_gd (l4 + l5) n3_5 = true then (f_X3_join_L v7_2 g7_0 v3_2 v3_3 n3_5 g3_8 n3_8 n3_9 n3_12 v5_3 v5_5 g5_1 l1 l4 v3_13 v3_14 g3_9 g3_12 (0, 1, l5 + 1, upd g3_5 (Int32.toNatClampNeg (l4 + l5)) 0)) else none else if x_gd (l4 + l5) n3_5 = true then (f_X3_join_L v7_2 g7_0 v3_2 v3_3 n3_5 g3_8 n3_8 n3_9 n3_12 v5_3 v5_5 g5_1 l1 l4 v3_13 v3_14 g3_9 g3_12 (0, 1, l5 + 1, upd g3_5 (Int32.toNatClampNeg (l4 + l5)) 0)) else none else some (0, v3_13, v3_14, g3_5, g3_9, g3_12) else if r_51 = (0 : Int32) then if l5 < v3_2 then if l3 = (0 : Int32) then if r_51 = (g3_5 (Int32.toNatClampNeg (l4 + l5))) then if x_gd (l4 + l5) n3_5 = true then (f_X3_join_L v7_2 g7_0 v3_2 v3_3 n3_5 g3_8 n3_8 n3_9 n3_12 v5_3 v5_5 g5_1 l1 l4 v3_13 v3_14 g3_9 g3_12 (0, 0, l5 + 1, upd g3_5 (Int32.toNatClampNeg (l4 + l5)) r_51)) else none else if x_gd (l4 + l5) n3_5 = true then (f_X3_join_L v7_2 g7_0 v3_2 v3_3 n3_5 g3_8 n3_8 n3_9 n3_12 v5_3 v5_5 g5_1 l1 l4 v3_13 v3_14 g3_9 g3_12 (0, 1, l5 + 1, upd g3_5 (Int32.toNatClampNeg (l4 + l5)) r_51)) else none else if x_gd (l4 + l5) n3_5 = true then (f_X3_join_L v7_2 g7_0 v3_2 v3_3 n3_5 g3_8 n3_8 n3_9 n3_12 v5_3 v5_5 g5_1 l1 l4 v3_13 v3_14 g3_9 g3_12 (0, 1, l5 + 1, upd g3_5 (Int32.toNatClampNeg (l4 + l5)) r_51)) else none else some (0, v3_13, v3_14, g3_5, g3_9, g3_12) else if l3 = (0 : Int32) then if r_51 = (g3_5 (Int32.toNatClampNeg (l4 + l5))) then if x_gd (l4 + l5) n3_5 = true then (f_X3_join_L v7_2 g7_0 v3_2 v3_3 n3_5 g3_8 n3_8 n3_9 n3_12 v5_3 v5_5 g5_1 l1 l4 v3_13 v3_14 g3_9 g3_12 (0, 0, l5 + 1, upd g3_5 (Int32.toNatClampNeg (l4 + l5)) r_51)) else none else if x_gd (l4 + l5) n3_5 = true then (f_X3_join_L v7_2 g7_0 v3_2 v3_3 n3_5 g3_8 n3_8 n3_9 n3_12 v5_3 v5_5 g5_1 l1 l4 v3_13 v3_14 g3_9 g3_12 (0, 1, l5 + 1, upd g3_5 (Int32.toNatClampNeg (l4 + l5)) r_51)) else none else if x_gd (l4 + l5) n3_5 = true then (f_X3_join_L v7_2 g7_0 v3_2 v3_3 n3_5 g3_8 n3_8 n3_9 n3_12 v5_3 v5_5 g5_1 l1 l4 v3_13 v3_14 g3_9 g3_12 (0, 1, l5 + 1, upd g3_5 (Int32.toNatClampNeg (l4 + l5)) r_51)) else none) else if r_51 = (0 : Int32) then if l5 < v3_2 then if l3 = (0 : Int32) then if r_51 = (g3_5 (Int32.toNatClampNeg (l4 + l5))) then if x_gd (l4 + l5) n3_5 = true then (f_X3_join_L v7_2 g7_0 v3_2 v3_3 n3_5 g3_8 n3_8 n3_9 n3_12 v5_3 v5_5 g5_1 l1 l4 v3_13 v3_14 g3_9 g3_12 (0, 0, l5 + 1, upd g3_5 (Int32.toNatClampNeg (l4 + l5)) r_51)) else none else if x_gd (l4 + l5) n3_5 = true then (f_X3_join_L v7_2 g7_0 v3_2 v3_3 n3_5 g3_8 n3_8 n3_9 n3_12 v5_3 v5_5 g5_1 l1 l4 v3_13 v3_14 g3_9 g3_12 (0, 1, l5 + 1, upd g3_5 (Int32.toNatClampNeg (l4 + l5)) r_51)) else none else if x_gd (l4 + l5) n3_5 = true then (f_X3_join_L v7_2 g7_0 v3_2 v3_3 n3_5 g3_8 n3_8 n3_9 n3_12 v5_3 v5_5 g5_1 l1 l4 v3_13 v3_14 g3_9 g3_12 (0, 1, l5 + 1, upd g3_5 (Int32.toNatClampNeg (l4 + l5)) r_51)) else none else some (0, v3_13, v3_14, g3_5, g3_9, g3_12) else if l3 = (0 : Int32) then if r_51 = (g3_5 (Int32.toNatClampNeg (l4 + l5))) then if x_gd (l4 + l5) n3_5 = true then (f_X3_join_L v7_2 g7_0 v3_2 v3_3 n3_5 g3_8 n3_8 n3_9 n3_12 v5_3 v5_5 g5_1 l1 l4 v3_13 v3_14 g3_9 g3_12 (0, 0, l5 + 1, upd g3_5 (Int32.toNatClampNeg (l4 + l5)) r_51)) else none else if x_gd (l4 + l5) n3_5 = true then (f_X3_join_L v7_2 g7_0 v3_2 v3_3 n3_5 g3_8 n3_8 n3_9 n3_12 v5_3 v5_5 g5_1 l1 l4 v3_13 v3_14 g3_9 g3_12 (0, 1, l5 + 1, upd g3_5 (Int32.toNatClampNeg (l4 + l5)) r_51)) else none else if x_gd (l4 + l5) n3_5 = true then (f_X3_join_L v7_2 g7_0 v3_2 v3_3 n3_5 g3_8 n3_8 n3_9 n3_12 v5_3 v5_5 g5_1 l1 l4 v3_13 v3_14 g3_9 g3_12 (0, 1, l5 + 1, upd g3_5 (Int32.toNatClampNeg (l4 + l5)) r_51)) else none) else none else (f_X3_join_L v7_2 g7_0 v3_2 v3_3 n3_5 g3_8 n3_8 n3_9 n3_12 v5_3 v5_5 g5_1 l1 l4 v3_13 v3_14 g3_9 g3_12 (0, l3, l5 + 1, g3_5)) else if x_gd l5 400 = true then (f_X7_meet v7_2 g7_0 (g3_5 (Int32.toNatClampNeg (l4 + l5))) (g5_1 (Int32.toNatClampNeg l5))) >>= (fun r_14 => if r_14 = (7 : Int32) then (f_X3_isWideAt g3_5 n3_5 ((l4 + l5) - (1 : Int32))) >>= (fun r_28 => if r_28 = (0 : Int32) then if l5 < v3_2 then if l3 = (0 : Int32) then if (0 : Int32) = (g3_5 (Int32.toNatClampNeg (l4 + l5))) then if x_gd (l4 + l5) n3_5 = true then (f_X3_join_L v7_2 g7_0 v3_2 v3_3 n3_5 g3_8 n3_8 n3_9 n3_12 v5_3 v5_5 g5_1 l1 l4 v3_13 v3_14 g3_9 g3_12 (0, 0, l5 + 1, upd g3_5 (Int32.toNatClampNeg (l4 + l5)) 0)) else none else if x_gd (l4 + l5) n3_5 = true then (f_X3_join_L v7_2 g7_0 v3_2 v3_3 n3_5 g3_8 n3_8 n3_9 n3_12 v5_3 v5_5 g5_1 l1 l4 v3_13 v3_14 g3_9 g3_12 (0, 1, l5 + 1, upd g3_5 (Int32.toNatClampNeg (l4 + l5)) 0)) else none else if x_gd (l4 + l5) n3_5 = true then (f_X3_join_L v7_2 g7_0 v3_2 v3_3 n3_5 g3_8 n3_8 n3_9 n3_12 v5_3 v5_5 g5_1 l1 l4 v3_13 v3_14 g3_9 g3_12 (0, 1, l5 + 1, upd g3_5 (Int32.toNatClampNeg (l4 + l5)) 0)) else none else some (0, v3_13, v3_14, g3_5, g3_9, g3_12) else if r_14 = (0 : Int32) then if l5 < v3_2 then if l3 = (0 : Int32) then if r_14 = (g3_5 (Int32.toNatClampNeg (l4 + l5))) then if x_gd (l4 + l5) n3_5 = true then (f_X3_join_L v7_2 g7_0 v3_2 v3_3 n3_5 g3_8 n3_8 n3_9 n3_12 v5_3 v5_5 g5_1 l1 l4 v3_13 v3_14 g3_9 g3_12 (0, 0, l5 + 1, upd g3_5 (Int32.toNatClampNeg (l4 + l5)) r_14)) else none else if x_gd (l4 + l5) n3_5 = true then (f_X3_join_L v7_2 g7_0 v3_2 v3_3 n3_5 g3_8 n3_8 n3_9 n3_12 v5_3 v5_5 g5_1 l1 l4 v3_13 v3_14 g3_9 g3_12 (0, 1, l5 + 1, upd g3_5 (Int32.toNatClampNeg (l4 + l5)) r_14)) else none else if x_gd (l4 + l5) n3_5 = true then (f_X3_join_L v7_2 g7_0 v3_2 v3_3 n3_5 g3_8 n3_8 n3_9 n3_12 v5_3 v5_5 g5_1 l1 l4 v3_13 v3_14 g3_9 g3_12 (0, 1, l5 + 1, upd g3_5 (Int32.toNatClampNeg (l4 + l5)) r_14)) else none else some (0, v3_13, v3_14, g3_5, g3_9, g3_12) else if l3 = (0 : Int32) then if r_14 = (g3_5 (Int32.toNatClampNeg (l4 + l5))) then if x_gd (l4 + l5) n3_5 = true then (f_X3_join_L v7_2 g7_0 v3_2 v3_3 n3_5 g3_8 n3_8 n3_9 n3_12 v5_3 v5_5 g5_1 l1 l4 v3_13 v3_14 g3_9 g3_12 (0, 0, l5 + 1, upd g3_5 (Int32.toNatClampNeg (l4 + l5)) r_14)) else none else if x_gd (l4 + l5) n3_5 = true then (f_X3_join_L v7_2 g7_0 v3_2 v3_3 n3_5 g3_8 n3_8 n3_9 n3_12 v5_3 v5_5 g5_1 l1 l4 v3_13 v3_14 g3_9 g3_12 (0, 1, l5 + 1, upd g3_5 (Int32.toNatClampNeg (l4 + l5)) r_14)) else none else if x_gd (l4 + l5) n3_5 = true then (f_X3_join_L v7_2 g7_0 v3_2 v3_3 n3_5 g3_8 n3_8 n3_9 n3_12 v5_3 v5_5 g5_1 l1 l4 v3_13 v3_14 g3_9 g3_12 (0, 1, l5 + 1, upd g3_5 (Int32.toNatClampNeg (l4 + l5)) r_14)) else none) else if r_14 = (0 : Int32) then if l5 < v3_2 then if l3 = (0 : Int32) then if r_14 = (g3_5 (Int32.toNatClampNeg (l4 + l5))) then if x_gd (l4 + l5) n3_5 = true then (f_X3_join_L v7_2 g7_0 v3_2 v3_3 n3_5 g3_8 n3_8 n3_9 n3_12 v5_3 v5_5 g5_1 l1 l4 v3_13 v3_14 g3_9 g3_12 (0, 0, l5 + 1, upd g3_5 (Int32.toNatClampNeg (l4 + l5)) r_14)) else none else if x_gd (l4 + l5) n3_5 = true then (f_X3_join_L v7_2 g7_0 v3_2 v3_3 n3_5 g3_8 n3_8 n3_9 n3_12 v5_3 v5_5 g5_1 l1 l4 v3_13 v3_14 g3_9 g3_12 (0, 1, l5 + 1, upd g3_5 (Int32.toNatClampNeg (l4 + l5)) r_14)) else none else if x_gd (l4 + l5) n3_5 = true then (f_X3_join_L v7_2 g7_0 v3_2 v3_3 n3_5 g3_8 n3_8 n3_9 n3_12 v5_3 v5_5 g5_1 l1 l4 v3_13 v3_14 g3_9 g3_12 (0, 1, l5 + 1, upd g3_5 (Int32.toNatClampNeg (l4 + l5)) r_14)) else none else some (0, v3_13, v3_14, g3_5, g3_9, g3_12) else if l3 = (0 : Int32) then if r_14 = (g3_5 (Int32.toNatClampNeg (l4 + l5))) then if x_gd (l4 + l5) n3_5 = true then (f_X3_join_L v7_2 g7_0 v3_2 v3_3 n3_5 g3_8 n3_8 n3_9 n3_12 v5_3 v5_5 g5_1 l1 l4 v3_13 v3_14 g3_9 g3_12 (0, 0, l5 + 1, upd g3_5 (Int32.toNatClampNeg (l4 + l5)) r_14)) else none else if x_gd (l4 + l5) n3_5 = true then (f_X3_join_L v7_2 g7_0 v3_2 v3_3 n3_5 g3_8 n3_8 n3_9 n3_12 v5_3 v5_5 g5_1 l1 l4 v3_13 v3_14 g3_9 g3_12 (0, 1, l5 + 1, upd g3_5 (Int32.toNatClampNeg (l4 + l5)) r_14)) else none else if x_gd (l4 + l5) n3_5 = true then (f_X3_join_L v7_2 g7_0 v3_2 v3_3 n3_5 g3_8 n3_8 n3_9 n3_12 v5_3 v5_5 g5_1 l1 l4 v3_13 v3_14 g3_9 g3_12 (0, 1, l5 + 1, upd g3_5 (Int32.toNatClampNeg (l4 + l5)) r_14)) else none) else none else none else none else none
partial_fixpoint
def f_X3_join (v7_2 : Int32) (g7_0 : Nat → Int32) (v3_2 : Int32) (v3_3 : Int32) (v3_13 : Int32) (v3_14 : Int32) (g3_5 : Nat → Int32) (n3_5 : Nat) (g3_8 : Nat → Int32) (n3_8 : Nat) (g3_9 : Nat → Int32) (n3_9 : Nat) (g3_12 : Nat → Int32) (n3_12 : Nat) (v5_3 : Int32) (v5_5 : Int32) (g5_1 : Nat → Int32) (p1 : Int32) : Option (Int32 × Int32 × Int32 × (Nat → Int32) × (Nat → Int32) × (Nat → Int32)) := if x_gd p1 n3_8 = true then if (v5_3 - v3_2) = (g3_8 (Int32.toNatClampNeg p1)) then if x_gd p1 n3_9 = true then if (g3_9 (Int32.toNatClampNeg p1)) ≤ v5_5 then (f_X3_join_L v7_2 g7_0 v3_2 v3_3 n3_5 g3_8 n3_8 n3_9 n3_12 v5_3 v5_5 g5_1 p1 (p1 * v3_3) v3_13 v3_14 g3_9 g3_12 (0, 0, 0, g3_5)) else (f_X3_join_L v7_2 g7_0 v3_2 v3_3 n3_5 g3_8 n3_8 n3_9 n3_12 v5_3 v5_5 g5_1 p1 (p1 * v3_3) v3_13 v3_14 g3_9 g3_12 (0, 1, 0, g3_5)) else none else some (0, v3_13, v3_14, g3_5, g3_9, g3_12) else none
theorem i_X3_join_X3 : ∀ w ∈ wsX30, w ∈ wsX3_join := fun _ h => List.mem_cons_of_mem _ (List.mem_append_left _ (List.mem_append_right _ h))
theorem i_X3_join_X5 : ∀ w ∈ wsX50, w ∈ wsX3_join := fun _ h => List.mem_cons_of_mem _ (List.mem_append_left _ (List.mem_append_left _ (List.mem_append_right _ h)))
set_option maxHeartbeats 4000000 in
set_option maxRecDepth 100000 in
theorem c_X3_join (l : Launch) (dC : Nat → ClassId) (dI : Nat → Nat → Nat) (cyI cyZ cyJ : ClassId) (sz : Nat) (o7 : Nat) (a7_0 : Nat) (a7_1 : Nat) (v7_2 : Int32) (g7_0 : Nat → Int32) (o3 : Nat) (o1 : Nat) (v3_2 : Int32) (v3_3 : Int32) (v3_4 : Int32) (a3_5 : Nat) (a3_6 : Nat) (a3_7 : Nat) (a3_8 : Nat) (a3_9 : Nat) (a3_10 : Nat) (a3_11 : Nat) (a3_12 : Nat) (v3_13 : Int32) (v3_14 : Int32) (a3_15 : Nat) (a3_16 : Nat) (g3_5 : Nat → Int32) (n3_5 : Nat) (g3_8 : Nat → Int32) (n3_8 : Nat) (g3_9 : Nat → Int32) (n3_9 : Nat) (g3_12 : Nat → Int32) (n3_12 : Nat) (o5 : Nat) (a5_1 : Nat) (v5_2 : Int32) (v5_3 : Int32) (v5_4 : Int32) (v5_5 : Int32) (v5_6 : Int32) (v5_7 : Int32) (v5_8 : Int32) (v5_9 : Int32) (g5_1 : Nat → Int32) (p1 : Int32) (R : Int32 × Int32 × Int32 × (Nat → Int32) × (Nat → Int32) × (Nat → Int32)) (hf : f_X3_join v7_2 g7_0 v3_2 v3_3 v3_13 v3_14 g3_5 n3_5 g3_8 n3_8 g3_9 n3_9 g3_12 n3_12 v5_3 v5_5 g5_1 p1 = some R) : Met l yX3_join wsX3_join ({ frames := 3, cells := 0, slots := 0, locals := 72 }) (va_Pc [.ref o3, .int p1, .ref o5] (x_PreD (dC, dI) (x_T cyI cyZ cyJ) [(o7, .inr (7, [.ref a7_0, .ref a7_1, .int v7_2])), (a7_0, .inl (cyI, 200, .inl g7_0)), (o3, .inr (3, [.ref o7, .ref o1, .int v3_2, .int v3_3, .int v3_4, .ref a3_5, .ref a3_6, .ref a3_7, .ref a3_8, .ref a3_9, .ref a3_10, .ref a3_11, .ref a3_12, .int v3_13, .int v3_14, .ref a3_15, .ref a3_16])), (a3_5, .inl (cyI, n3_5, .inl g3_5)), (a3_8, .inl (cyI, n3_8, .inl g3_8)), (a3_9, .inl (cyI, n3_9, .inl g3_9)), (a3_12, .inl (cyI, n3_12, .inl g3_12)), (o5, .inr (5, [.ref o7, .ref a5_1, .int v5_2, .int v5_3, .int v5_4, .int v5_5, .int v5_6, .int v5_7, .int v5_8, .int v5_9])), (a5_1, .inl (cyI, 400, .inl g5_1))] sz)) (va_Qi (fun (r : Int32) (_ : Unit) => r = R.1 ∧ x_nb r) (fun (_ : Unit) (t : State) => va_P (dC, dI) vwCl [(o7, .inr (7, [.ref a7_0, .ref a7_1, .int v7_2])), (a7_0, .inl (cyI, 200, .inl g7_0)), (o3, .inr (3, [.ref o7, .ref o1, .int v3_2, .int v3_3, .int v3_4, .ref a3_5, .ref a3_6, .ref a3_7, .ref a3_8, .ref a3_9, .ref a3_10, .ref a3_11, .ref a3_12, .int (R.2.1), .int (R.2.2.1), .ref a3_15, .ref a3_16])), (a3_5, .inl (cyI, n3_5, .inl R.2.2.2.1)), (a3_8, .inl (cyI, n3_8, .inl g3_8)), (a3_9, .inl (cyI, n3_9, .inl R.2.2.2.2.1)), (a3_12, .inl (cyI, n3_12, .inl R.2.2.2.2.2)), (o5, .inr (5, [.ref o7, .ref a5_1, .int v5_2, .int v5_3, .int v5_4, .int v5_5, .int v5_6, .int v5_7, .int v5_8, .int v5_9])), (a5_1, .inl (cyI, 400, .inl g5_1))] t.heap ∧ va_K (dC, dI) vwCl (x_T cyI cyZ cyJ) t ∧ va_D (va_A [(o7, .inr (7, [.ref a7_0, .ref a7_1, .int v7_2])), (a7_0, .inl (cyI, 200, .inl g7_0)), (o3, .inr (3, [.ref o7, .ref o1, .int v3_2, .int v3_3, .int v3_4, .ref a3_5, .ref a3_6, .ref a3_7, .ref a3_8, .ref a3_9, .ref a3_10, .ref a3_11, .ref a3_12, .int v3_13, .int v3_14, .ref a3_15, .ref a3_16])), (a3_5, .inl (cyI, n3_5, .inl g3_5)), (a3_8, .inl (cyI, n3_8, .inl g3_8)), (a3_9, .inl (cyI, n3_9, .inl g3_9)), (a3_12, .inl (cyI, n3_12, .inl g3_12)), (o5, .inr (5, [.ref o7, .ref a5_1, .int v5_2, .int v5_3, .int v5_4, .int v5_5, .int v5_6, .int v5_7, .int v5_8, .int v5_9])), (a5_1, .inl (cyI, 400, .inl g5_1))] sz) [(o7, .inr (7, [.ref a7_0, .ref a7_1, .int v7_2])), (a7_0, .inl (cyI, 200, .inl g7_0)), (o3, .inr (3, [.ref o7, .ref o1, .int v3_2, .int v3_3, .int v3_4, .ref a3_5, .ref a3_6, .ref a3_7, .ref a3_8, .ref a3_9, .ref a3_10, .ref a3_11, .ref a3_12, .int (R.2.1), .int (R.2.2.1), .ref a3_15, .ref a3_16])), (a3_5, .inl (cyI, n3_5, .inl R.2.2.2.1)), (a3_8, .inl (cyI, n3_8, .inl g3_8)), (a3_9, .inl (cyI, n3_9, .inl R.2.2.2.2.1)), (a3_12, .inl (cyI, n3_12, .inl R.2.2.2.2.2)), (o5, .inr (5, [.ref o7, .ref a5_1, .int v5_2, .int v5_3, .int v5_4, .int v5_5, .int v5_6, .int v5_7, .int v5_8, .int v5_9])), (a5_1, .inl (cyI, 400, .inl g5_1))]) (va_A [(o7, .inr (7, [.ref a7_0, .ref a7_1, .int v7_2])), (a7_0, .inl (cyI, 200, .inl g7_0)), (o3, .inr (3, [.ref o7, .ref o1, .int v3_2, .int v3_3, .int v3_4, .ref a3_5, .ref a3_6, .ref a3_7, .ref a3_8, .ref a3_9, .ref a3_10, .ref a3_11, .ref a3_12, .int v3_13, .int v3_14, .ref a3_15, .ref a3_16])), (a3_5, .inl (cyI, n3_5, .inl g3_5)), (a3_8, .inl (cyI, n3_8, .inl g3_8)), (a3_9, .inl (cyI, n3_9, .inl g3_9)), (a3_12, .inl (cyI, n3_12, .inl g3_12)), (o5, .inr (5, [.ref o7, .ref a5_1, .int v5_2, .int v5_3, .int v5_4, .int v5_5, .int v5_6, .int v5_7, .int v5_8, .int v5_9])), (a5_1, .inl (cyI, 400, .inl g5_1))] sz)) 0 0 (va_A [(o7, .inr (7, [.ref a7_0, .ref a7_1, .int v7_2])), (a7_0, .inl (cyI, 200, .inl g7_0)), (o3, .inr (3, [.ref o7, .ref o1, .int v3_2, .int v3_3, .int v3_4, .ref a3_5, .ref a3_6, .ref a3_7, .ref a3_8, .ref a3_9, .ref a3_10, .ref a3_11, .ref a3_12, .int v3_13, .int v3_14, .ref a3_15, .ref a3_16])), (a3_5, .inl (cyI, n3_5, .inl g3_5)), (a3_8, .inl (cyI, n3_8, .inl g3_8)), (a3_9, .inl (cyI, n3_9, .inl g3_9)), (a3_12, .inl (cyI, n3_12, .inl g3_12)), (o5, .inr (5, [.ref o7, .ref a5_1, .int v5_2, .int v5_3, .int v5_4, .int v5_5, .int v5_6, .int v5_7, .int v5_8, .int v5_9])), (a5_1, .inl (cyI, 400, .inl g5_1))] sz) := by
  refine Met.ofW (cc := cX3_join) (maxL := 8) (ret := (some .boolean)) (by decide) rfl ?_
  intro p e s m args below meth c s₁ B hml hv
  obtain ⟨rfl, ⟨hsz, hP, hK, hN⟩, hD0⟩ := hv
  have hx := B.exec
  have hb := B.bytes
  have hr := B.returns
  have hts := atoms_spec (ws := wsX3_join) B.pre
  have hown : s.vm.findClass RX3 = some m.cls := findClass_of_methodNamed B.named
  have k_1 := hts (.fieldLink RX3 24 "FlowJudge$Frames" "made" "[I") (by decide +kernel)
  have k_2 := hts (.fieldLink RX3 9 "FlowJudge$Frames" "words" "[I") (by decide +kernel)
  have k_3 := hts (.fieldLink RX3 49 "FlowJudge$Frames" "types" "LFlowJudge$Types;") (by decide +kernel)
  have k_4 := hts (.fieldLink RX3 63 "FlowJudge$Frames" "locals" "I") (by decide +kernel)
  have k_5 := hts (.fieldLink RX3 21 "FlowJudge$Frames" "heights" "[I") (by decide +kernel)
  have k_6 := hts (.fieldLink RX3 66 "FlowJudge$Frames" "size" "I") (by decide +kernel)
  subst hsz
  have hD := hD0.self (sz := s.heap.size)
  generalize hAe : va_A [(o7, .inr (7, [.ref a7_0, .ref a7_1, .int v7_2])), (a7_0, .inl (cyI, 200, .inl g7_0)), (o3, .inr (3, [.ref o7, .ref o1, .int v3_2, .int v3_3, .int v3_4, .ref a3_5, .ref a3_6, .ref a3_7, .ref a3_8, .ref a3_9, .ref a3_10, .ref a3_11, .ref a3_12, .int v3_13, .int v3_14, .ref a3_15, .ref a3_16])), (a3_5, .inl (cyI, n3_5, .inl g3_5)), (a3_8, .inl (cyI, n3_8, .inl g3_8)), (a3_9, .inl (cyI, n3_9, .inl g3_9)), (a3_12, .inl (cyI, n3_12, .inl g3_12)), (o5, .inr (5, [.ref o7, .ref a5_1, .int v5_2, .int v5_3, .int v5_4, .int v5_5, .int v5_6, .int v5_7, .int v5_8, .int v5_9])), (a5_1, .inl (cyI, 400, .inl g5_1))] s.heap.size = A at hD ⊢
  have hA : ∀ q : Nat, s.heap.size ≤ q → A q := fun q h => by rw [← hAe]; exact Or.inr h
  have hP : va_P (dC, dI) vwCl [(o7, .inr (7, [.ref a7_0, .ref a7_1, .int v7_2])), (a7_0, .inl (cyI, 200, .inl g7_0)), (o3, .inr (3, [.ref o7, .ref o1, .int v3_2, .int v3_3, .int v3_4, .ref a3_5, .ref a3_6, .ref a3_7, .ref a3_8, .ref a3_9, .ref a3_10, .ref a3_11, .ref a3_12, .int v3_13, .int v3_14, .ref a3_15, .ref a3_16])), (a3_5, .inl (cyI, n3_5, .inl g3_5)), (a3_8, .inl (cyI, n3_8, .inl g3_8)), (a3_9, .inl (cyI, n3_9, .inl g3_9)), (a3_12, .inl (cyI, n3_12, .inl g3_12)), (o5, .inr (5, [.ref o7, .ref a5_1, .int v5_2, .int v5_3, .int v5_4, .int v5_5, .int v5_6, .int v5_7, .int v5_8, .int v5_9])), (a5_1, .inl (cyI, 400, .inl g5_1))] s.heap := hP
  have hl := lv_entry ([.ref o3, .int p1, .ref o5]) (n := 8) (Nat.le_of_ble_eq_true rfl)
  rw [lg_entry_eq]
  generalize (lg_sl ([.ref o3, .int p1, .ref o5]) ++ List.replicate (8 - (lg_sl ([.ref o3, .int p1, .ref o5])).length) Slot.unset).toArray = ls at hl ⊢
  have hl : lv_has ls 8 [(0, .ref o3), (1, .int p1), (2, .ref o5)] := hl
  obtain ⟨H, hH⟩ : ∃ z, z = s.heap := ⟨_, rfl⟩
  refine x_here hH ?_
  have hP : va_P (dC, dI) vwCl [(o7, .inr (7, [.ref a7_0, .ref a7_1, .int v7_2])), (a7_0, .inl (cyI, 200, .inl g7_0)), (o3, .inr (3, [.ref o7, .ref o1, .int v3_2, .int v3_3, .int v3_4, .ref a3_5, .ref a3_6, .ref a3_7, .ref a3_8, .ref a3_9, .ref a3_10, .ref a3_11, .ref a3_12, .int v3_13, .int v3_14, .ref a3_15, .ref a3_16])), (a3_5, .inl (cyI, n3_5, .inl g3_5)), (a3_8, .inl (cyI, n3_8, .inl g3_8)), (a3_9, .inl (cyI, n3_9, .inl g3_9)), (a3_12, .inl (cyI, n3_12, .inl g3_12)), (o5, .inr (5, [.ref o7, .ref a5_1, .int v5_2, .int v5_3, .int v5_4, .int v5_5, .int v5_6, .int v5_7, .int v5_8, .int v5_9])), (a5_1, .inl (cyI, 400, .inl g5_1))] H := by rw [hH]; exact hP
  have hS : va_S A s.heap H [] := by rw [hH]; exact va_S.rf
  clear hH
  obtain ⟨locs, hlo⟩ : ∃ z : List Loc, z = [] := ⟨_, rfl⟩
  refine x_herl hlo ?_
  have hS : va_S A s.heap H locs := by rw [hlo]; exact hS
  clear hlo
  unfold f_X3_join at hf
  refine x_wn (fun WW hWW => ?_)
  have J := fun (l1 : Int32) (l4 : Int32) (v3_13 : Int32) (v3_14 : Int32) (g3_9 : Nat → Int32) (g3_12 : Nat → Int32) => f_X3_join_L.partial_correctness v7_2 g7_0 v3_2 v3_3 n3_5 g3_8 n3_8 n3_9 n3_12 v5_3 v5_5 g5_1 l1 l4 v3_13 v3_14 g3_9 g3_12 (fun (z : Nat × Int32 × Int32 × (Nat → Int32)) (r : Int32 × Int32 × Int32 × (Nat → Int32) × (Nat → Int32) × (Nat → Int32)) => r = R → ∀ (q : Nat) (l3 : Int32) (l5 : Int32) (g3_5 : Nat → Int32), z = (q, l3, l5, g3_5) → ((q = 0 → ∀ (H : Heap) (locs : List Loc) (ls : Array Slot), va_P (dC, dI) vwCl [(o7, .inr (7, [.ref a7_0, .ref a7_1, .int v7_2])), (a7_0, .inl (cyI, 200, .inl g7_0)), (o3, .inr (3, [.ref o7, .ref o1, .int v3_2, .int v3_3, .int v3_4, .ref a3_5, .ref a3_6, .ref a3_7, .ref a3_8, .ref a3_9, .ref a3_10, .ref a3_11, .ref a3_12, .int v3_13, .int v3_14, .ref a3_15, .ref a3_16])), (a3_5, .inl (cyI, n3_5, .inl g3_5)), (a3_8, .inl (cyI, n3_8, .inl g3_8)), (a3_9, .inl (cyI, n3_9, .inl g3_9)), (a3_12, .inl (cyI, n3_12, .inl g3_12)), (o5, .inr (5, [.ref o7, .ref a5_1, .int v5_2, .int v5_3, .int v5_4, .int v5_5, .int v5_6, .int v5_7, .int v5_8, .int v5_9])), (a5_1, .inl (cyI, 400, .inl g5_1))] H → va_D A [(o7, .inr (7, [.ref a7_0, .ref a7_1, .int v7_2])), (a7_0, .inl (cyI, 200, .inl g7_0)), (o3, .inr (3, [.ref o7, .ref o1, .int v3_2, .int v3_3, .int v3_4, .ref a3_5, .ref a3_6, .ref a3_7, .ref a3_8, .ref a3_9, .ref a3_10, .ref a3_11, .ref a3_12, .int v3_13, .int v3_14, .ref a3_15, .ref a3_16])), (a3_5, .inl (cyI, n3_5, .inl g3_5)), (a3_8, .inl (cyI, n3_8, .inl g3_8)), (a3_9, .inl (cyI, n3_9, .inl g3_9)), (a3_12, .inl (cyI, n3_12, .inl g3_12)), (o5, .inr (5, [.ref o7, .ref a5_1, .int v5_2, .int v5_3, .int v5_4, .int v5_5, .int v5_6, .int v5_7, .int v5_8, .int v5_9])), (a5_1, .inl (cyI, 400, .inl g5_1))] → va_S A s.heap H locs → lv_has ls 8 [(0, .ref o3), (1, .int l1), (2, .ref o5), (3, .int l3), (4, .int l4), (5, .int l5)] → WW H locs 0 0 (F0 m 50 ls [])))) (by
    intro F ih z r hf hr q l3 l5 g3_5 hz
    subst hz
    obtain rfl := hr
    · intro hq H locs ls hP hD hS hl
      subst hq
      refine (hWW _ _ _ _ _).mp ?_
      replace hf := x_ip rfl hf
      refine lv_iload hx hb dX3_join_50 (lv_at hl 5 rfl) ?_
      refine lv_aload_n hx hb dX3_join_52 rfl (lv_at hl 2 rfl) ?_
      refine va_getN (D := (dC, dI)) (ci := 5) (v := .int v5_3) (C := RX5) (T := TX5) (N := 10) hx hb hts i_X3_join_X5 hown hK hP 7 rfl rfl 3 (by decide) ((hN.1 ("FlowJudge$Frames", 79, "FlowJudge$Places", "top", "I") (List.mem_of_getElem? (i := 31) rfl)).use rfl) (fun _ h9 => h9) rfl dX3_join_53 ?_
      refine lv_icmp_ge (tgt := 186) hx hb dX3_join_56 (by decide) (fun c_1 => ?_) (fun c_1 => ?_)
      · replace hf := x_ip c_1 hf
        refine lv_iload_n hx hb dX3_join_186 rfl (lv_at hl 3 rfl) ?_
        refine lv_if_eq (tgt := 227) hx hb dX3_join_187 (by decide) (fun c_2 => ?_) (fun c_2 => ?_)
        · replace hf := x_ip c_2 hf
          refine lv_iconst (v := 1) hx hb dX3_join_227 (by decide) ?_
          obtain rfl := Option.some.inj hf
          have hP9 := hP.sub (ws' := [(o7, .inr (7, [.ref a7_0, .ref a7_1, .int v7_2])), (a7_0, .inl (cyI, 200, .inl g7_0)), (o3, .inr (3, [.ref o7, .ref o1, .int v3_2, .int v3_3, .int v3_4, .ref a3_5, .ref a3_6, .ref a3_7, .ref a3_8, .ref a3_9, .ref a3_10, .ref a3_11, .ref a3_12, .int v3_13, .int v3_14, .ref a3_15, .ref a3_16])), (a3_5, .inl (cyI, n3_5, .inl g3_5)), (a3_8, .inl (cyI, n3_8, .inl g3_8)), (a3_9, .inl (cyI, n3_9, .inl g3_9)), (a3_12, .inl (cyI, n3_12, .inl g3_12)), (o5, .inr (5, [.ref o7, .ref a5_1, .int v5_2, .int v5_3, .int v5_4, .int v5_5, .int v5_6, .int v5_7, .int v5_8, .int v5_9])), (a5_1, .inl (cyI, 400, .inl g5_1))]) [0, 1, 2, 3, 4, 5, 6, 7, 8] rfl
          have hD9 := hD.sub (ws' := [(o7, .inr (7, [.ref a7_0, .ref a7_1, .int v7_2])), (a7_0, .inl (cyI, 200, .inl g7_0)), (o3, .inr (3, [.ref o7, .ref o1, .int v3_2, .int v3_3, .int v3_4, .ref a3_5, .ref a3_6, .ref a3_7, .ref a3_8, .ref a3_9, .ref a3_10, .ref a3_11, .ref a3_12, .int v3_13, .int v3_14, .ref a3_15, .ref a3_16])), (a3_5, .inl (cyI, n3_5, .inl g3_5)), (a3_8, .inl (cyI, n3_8, .inl g3_8)), (a3_9, .inl (cyI, n3_9, .inl g3_9)), (a3_12, .inl (cyI, n3_12, .inl g3_12)), (o5, .inr (5, [.ref o7, .ref a5_1, .int v5_2, .int v5_3, .int v5_4, .int v5_5, .int v5_6, .int v5_7, .int v5_8, .int v5_9])), (a5_1, .inl (cyI, 400, .inl g5_1))]) [0, 1, 2, 3, 4, 5, 6, 7, 8] (by decide) rfl
          exact W.zret (ty := .boolean) hx hb hr rfl (fun t ht hW => ⟨⟨_, (), rfl, ⟨rfl, rfl⟩, by rw [ht]; exact hP9, va_K.moved hW.alike hK, hD9⟩, hS.F ht⟩) hS.2.2 dX3_join_228
        · replace hf := x_in c_2 hf
          refine lv_aload_n hx hb dX3_join_190 rfl (lv_at hl 0 rfl) ?_
          refine va_get (D := (dC, dI)) (ci := 3) (v := .ref a3_9) (C := RX3) (T := TX3) (N := 17) hx hb hts i_X3_join_X3 hown hK hP 2 rfl rfl 9 (by decide) k_1 (fun _ h9 => h9) rfl dX3_join_191 ?_
          refine lv_iload_n hx hb dX3_join_194 rfl (lv_at hl 1 rfl) ?_
          refine lv_aload_n hx hb dX3_join_195 rfl (lv_at hl 2 rfl) ?_
          refine va_getN (D := (dC, dI)) (ci := 5) (v := .int v5_5) (C := RX5) (T := TX5) (N := 10) hx hb hts i_X3_join_X5 hown hK hP 7 rfl rfl 5 (by decide) ((hN.1 ("FlowJudge$Frames", 84, "FlowJudge$Places", "made", "I") (List.mem_of_getElem? (i := 32) rfl)).use rfl) (fun _ h9 => h9) rfl dX3_join_196 ?_
          refine lv_aload_n hx hb dX3_join_199 rfl (lv_at hl 0 rfl) ?_
          refine va_get (D := (dC, dI)) (ci := 3) (v := .ref a3_9) (C := RX3) (T := TX3) (N := 17) hx hb hts i_X3_join_X3 hown hK hP 2 rfl rfl 9 (by decide) k_1 (fun _ h9 => h9) rfl dX3_join_200 ?_
          refine lv_iload_n hx hb dX3_join_203 rfl (lv_at hl 1 rfl) ?_
          obtain ⟨g_3, hf⟩ := x_gu hf
          refine va_iald hx hb hK hP 5 0 rfl rfl (x_gdin g_3) dX3_join_204 ?_
          refine lv_icmp_ge (tgt := 215) hx hb dX3_join_205 (by decide) (fun c_4 => ?_) (fun c_4 => ?_)
          · replace hf := x_ip c_4 hf
            refine lv_aload_n hx hb dX3_join_215 rfl (lv_at hl 0 rfl) ?_
            refine va_get (D := (dC, dI)) (ci := 3) (v := .ref a3_9) (C := RX3) (T := TX3) (N := 17) hx hb hts i_X3_join_X3 hown hK hP 2 rfl rfl 9 (by decide) k_1 (fun _ h9 => h9) rfl dX3_join_216 ?_
            refine lv_iload_n hx hb dX3_join_219 rfl (lv_at hl 1 rfl) ?_
            obtain ⟨g_5, hf⟩ := x_gu hf
            refine va_iald hx hb hK hP 5 0 rfl rfl (x_gdin g_5) dX3_join_220 ?_
            obtain ⟨g_6, hf⟩ := x_gu hf
            refine va_iast hx hb hK hP hD hS 5 0 rfl rfl (x_gdin g_6) dX3_join_221 (fun H locs hP hD hS => ?_)
            have hP : va_P (dC, dI) vwCl [(o7, .inr (7, [.ref a7_0, .ref a7_1, .int v7_2])), (a7_0, .inl (cyI, 200, .inl g7_0)), (o3, .inr (3, [.ref o7, .ref o1, .int v3_2, .int v3_3, .int v3_4, .ref a3_5, .ref a3_6, .ref a3_7, .ref a3_8, .ref a3_9, .ref a3_10, .ref a3_11, .ref a3_12, .int v3_13, .int v3_14, .ref a3_15, .ref a3_16])), (a3_5, .inl (cyI, n3_5, .inl g3_5)), (a3_8, .inl (cyI, n3_8, .inl g3_8)), (a3_9, .inl (cyI, n3_9, .inl (upd g3_9 (Int32.toNatClampNeg l1) (g3_9 (Int32.toNatClampNeg l1))))), (a3_12, .inl (cyI, n3_12, .inl g3_12)), (o5, .inr (5, [.ref o7, .ref a5_1, .int v5_2, .int v5_3, .int v5_4, .int v5_5, .int v5_6, .int v5_7, .int v5_8, .int v5_9])), (a5_1, .inl (cyI, 400, .inl g5_1))] H := hP
            have hD : va_D A [(o7, .inr (7, [.ref a7_0, .ref a7_1, .int v7_2])), (a7_0, .inl (cyI, 200, .inl g7_0)), (o3, .inr (3, [.ref o7, .ref o1, .int v3_2, .int v3_3, .int v3_4, .ref a3_5, .ref a3_6, .ref a3_7, .ref a3_8, .ref a3_9, .ref a3_10, .ref a3_11, .ref a3_12, .int v3_13, .int v3_14, .ref a3_15, .ref a3_16])), (a3_5, .inl (cyI, n3_5, .inl g3_5)), (a3_8, .inl (cyI, n3_8, .inl g3_8)), (a3_9, .inl (cyI, n3_9, .inl (upd g3_9 (Int32.toNatClampNeg l1) (g3_9 (Int32.toNatClampNeg l1))))), (a3_12, .inl (cyI, n3_12, .inl g3_12)), (o5, .inr (5, [.ref o7, .ref a5_1, .int v5_2, .int v5_3, .int v5_4, .int v5_5, .int v5_6, .int v5_7, .int v5_8, .int v5_9])), (a5_1, .inl (cyI, 400, .inl g5_1))] := hD
            refine lv_aload_n hx hb dX3_join_222 rfl (lv_at hl 0 rfl) ?_
            refine lv_iload_n hx hb dX3_join_223 rfl (lv_at hl 1 rfl) ?_
            obtain ⟨r_7, h_7, hf⟩ := x_bi hf
            have hPc := hP.sub (ws' := [(o3, .inr (3, [.ref o7, .ref o1, .int v3_2, .int v3_3, .int v3_4, .ref a3_5, .ref a3_6, .ref a3_7, .ref a3_8, .ref a3_9, .ref a3_10, .ref a3_11, .ref a3_12, .int v3_13, .int v3_14, .ref a3_15, .ref a3_16])), (a3_12, .inl (cyI, n3_12, .inl g3_12))]) [2, 6] rfl
            have hDc := hD.sub (ws' := [(o3, .inr (3, [.ref o7, .ref o1, .int v3_2, .int v3_3, .int v3_4, .ref a3_5, .ref a3_6, .ref a3_7, .ref a3_8, .ref a3_9, .ref a3_10, .ref a3_11, .ref a3_12, .int v3_13, .int v3_14, .ref a3_15, .ref a3_16])), (a3_12, .inl (cyI, n3_12, .inl g3_12))]) [2, 6] (by decide) rfl
            have hFc := va_free (wc := [(o3, .inr (3, [.ref o7, .ref o1, .int v3_2, .int v3_3, .int v3_4, .ref a3_5, .ref a3_6, .ref a3_7, .ref a3_8, .ref a3_9, .ref a3_10, .ref a3_11, .ref a3_12, .int v3_13, .int v3_14, .ref a3_15, .ref a3_16])), (a3_12, .inl (cyI, n3_12, .inl g3_12))]) hD hS hA [2, 6] rfl
            refine va_callv (va_runV (As := [.int l1]) (rest := []) ⟨hx, hb, hml, hown, hts⟩ (c_X3_await l dC dI cyI cyZ cyJ H.size o3 o7 o1 v3_2 v3_3 v3_4 a3_5 a3_6 a3_7 a3_8 a3_9 a3_10 a3_11 a3_12 v3_13 v3_14 a3_15 a3_16 g3_12 n3_12 l1 r_7 h_7) (cwV 1 hts gX3_join_X3_await rfl rfl rfl (by decide +kernel) ⟨Nat.le_of_ble_eq_true rfl, Nat.le_of_ble_eq_true rfl⟩) (x_pVD hN hK hPc hDc (ci := 3) (q0 := 0) rfl rfl) rfl rfl hl.1 rfl (lv_room (Nat.le_of_ble_eq_true rfl)) dX3_join_224 ⟨Nat.le_of_ble_eq_true rfl, Nat.le_of_ble_eq_true rfl⟩) hS (fun q _ h => hFc q h) hFc (fun u t H1 locs ht hvm hw hB hz1 hk1 hS => ?_)
            obtain ⟨hP1, hK1, hD1⟩ := hB
            rw [ht] at hP1
            obtain ⟨hP, hD⟩ := va_join (wr := [(o7, .inr (7, [.ref a7_0, .ref a7_1, .int v7_2])), (a7_0, .inl (cyI, 200, .inl g7_0)), (a3_5, .inl (cyI, n3_5, .inl g3_5)), (a3_8, .inl (cyI, n3_8, .inl g3_8)), (a3_9, .inl (cyI, n3_9, .inl (upd g3_9 (Int32.toNatClampNeg l1) (g3_9 (Int32.toNatClampNeg l1))))), (o5, .inr (5, [.ref o7, .ref a5_1, .int v5_2, .int v5_3, .int v5_4, .int v5_5, .int v5_6, .int v5_7, .int v5_8, .int v5_9])), (a5_1, .inl (cyI, 400, .inl g5_1))]) (w1 := [(o3, .inr (3, [.ref o7, .ref o1, .int v3_2, .int v3_3, .int v3_4, .ref a3_5, .ref a3_6, .ref a3_7, .ref a3_8, .ref a3_9, .ref a3_10, .ref a3_11, .ref a3_12, .int (r_7.1), .int (r_7.2.1), .ref a3_15, .ref a3_16])), (a3_12, .inl (cyI, n3_12, .inl r_7.2.2))]) hP hD [2, 6] [0, 1, 3, 4, 5, 7, 8] rfl rfl (by decide) (by decide) hk1 hFc hP1 hD1
            clear hz1 hk1 hPc hDc hFc hP1 hK1 hD1 ht hvm t u
            generalize H1 = H at hP hS ⊢
            have hP : va_P (dC, dI) vwCl [(o7, .inr (7, [.ref a7_0, .ref a7_1, .int v7_2])), (a7_0, .inl (cyI, 200, .inl g7_0)), (a3_5, .inl (cyI, n3_5, .inl g3_5)), (a3_8, .inl (cyI, n3_8, .inl g3_8)), (a3_9, .inl (cyI, n3_9, .inl (upd g3_9 (Int32.toNatClampNeg l1) (g3_9 (Int32.toNatClampNeg l1))))), (o5, .inr (5, [.ref o7, .ref a5_1, .int v5_2, .int v5_3, .int v5_4, .int v5_5, .int v5_6, .int v5_7, .int v5_8, .int v5_9])), (a5_1, .inl (cyI, 400, .inl g5_1)), (o3, .inr (3, [.ref o7, .ref o1, .int v3_2, .int v3_3, .int v3_4, .ref a3_5, .ref a3_6, .ref a3_7, .ref a3_8, .ref a3_9, .ref a3_10, .ref a3_11, .ref a3_12, .int (r_7.1), .int (r_7.2.1), .ref a3_15, .ref a3_16])), (a3_12, .inl (cyI, n3_12, .inl r_7.2.2))] H := hP
            have hD : va_D A [(o7, .inr (7, [.ref a7_0, .ref a7_1, .int v7_2])), (a7_0, .inl (cyI, 200, .inl g7_0)), (a3_5, .inl (cyI, n3_5, .inl g3_5)), (a3_8, .inl (cyI, n3_8, .inl g3_8)), (a3_9, .inl (cyI, n3_9, .inl (upd g3_9 (Int32.toNatClampNeg l1) (g3_9 (Int32.toNatClampNeg l1))))), (o5, .inr (5, [.ref o7, .ref a5_1, .int v5_2, .int v5_3, .int v5_4, .int v5_5, .int v5_6, .int v5_7, .int v5_8, .int v5_9])), (a5_1, .inl (cyI, 400, .inl g5_1)), (o3, .inr (3, [.ref o7, .ref o1, .int v3_2, .int v3_3, .int v3_4, .ref a3_5, .ref a3_6, .ref a3_7, .ref a3_8, .ref a3_9, .ref a3_10, .ref a3_11, .ref a3_12, .int (r_7.1), .int (r_7.2.1), .ref a3_15, .ref a3_16])), (a3_12, .inl (cyI, n3_12, .inl r_7.2.2))] := hD
            refine lv_iconst (v := 1) hx hb dX3_join_227 (by decide) ?_
            obtain rfl := Option.some.inj hf
            have hP9 := hP.sub (ws' := [(o7, .inr (7, [.ref a7_0, .ref a7_1, .int v7_2])), (a7_0, .inl (cyI, 200, .inl g7_0)), (o3, .inr (3, [.ref o7, .ref o1, .int v3_2, .int v3_3, .int v3_4, .ref a3_5, .ref a3_6, .ref a3_7, .ref a3_8, .ref a3_9, .ref a3_10, .ref a3_11, .ref a3_12, .int (r_7.1), .int (r_7.2.1), .ref a3_15, .ref a3_16])), (a3_5, .inl (cyI, n3_5, .inl g3_5)), (a3_8, .inl (cyI, n3_8, .inl g3_8)), (a3_9, .inl (cyI, n3_9, .inl (upd g3_9 (Int32.toNatClampNeg l1) (g3_9 (Int32.toNatClampNeg l1))))), (a3_12, .inl (cyI, n3_12, .inl r_7.2.2)), (o5, .inr (5, [.ref o7, .ref a5_1, .int v5_2, .int v5_3, .int v5_4, .int v5_5, .int v5_6, .int v5_7, .int v5_8, .int v5_9])), (a5_1, .inl (cyI, 400, .inl g5_1))]) [0, 1, 7, 2, 3, 4, 8, 5, 6] rfl
            have hD9 := hD.sub (ws' := [(o7, .inr (7, [.ref a7_0, .ref a7_1, .int v7_2])), (a7_0, .inl (cyI, 200, .inl g7_0)), (o3, .inr (3, [.ref o7, .ref o1, .int v3_2, .int v3_3, .int v3_4, .ref a3_5, .ref a3_6, .ref a3_7, .ref a3_8, .ref a3_9, .ref a3_10, .ref a3_11, .ref a3_12, .int (r_7.1), .int (r_7.2.1), .ref a3_15, .ref a3_16])), (a3_5, .inl (cyI, n3_5, .inl g3_5)), (a3_8, .inl (cyI, n3_8, .inl g3_8)), (a3_9, .inl (cyI, n3_9, .inl (upd g3_9 (Int32.toNatClampNeg l1) (g3_9 (Int32.toNatClampNeg l1))))), (a3_12, .inl (cyI, n3_12, .inl r_7.2.2)), (o5, .inr (5, [.ref o7, .ref a5_1, .int v5_2, .int v5_3, .int v5_4, .int v5_5, .int v5_6, .int v5_7, .int v5_8, .int v5_9])), (a5_1, .inl (cyI, 400, .inl g5_1))]) [0, 1, 7, 2, 3, 4, 8, 5, 6] (by decide) rfl
            exact W.zret (ty := .boolean) hx hb hr rfl (fun t ht hW => ⟨⟨_, (), rfl, ⟨rfl, rfl⟩, by rw [ht]; exact hP9, va_K.moved hW.alike hK, hD9⟩, hS.F ht⟩) hS.2.2 dX3_join_228
          · replace hf := x_in c_4 hf
            refine lv_aload_n hx hb dX3_join_208 rfl (lv_at hl 2 rfl) ?_
            refine va_getN (D := (dC, dI)) (ci := 5) (v := .int v5_5) (C := RX5) (T := TX5) (N := 10) hx hb hts i_X3_join_X5 hown hK hP 7 rfl rfl 5 (by decide) ((hN.1 ("FlowJudge$Frames", 84, "FlowJudge$Places", "made", "I") (List.mem_of_getElem? (i := 32) rfl)).use rfl) (fun _ h9 => h9) rfl dX3_join_209 ?_
            refine lv_goto (tgt := 221) hx hb dX3_join_212 (by decide) ?_
            obtain ⟨g_8, hf⟩ := x_gu hf
            refine va_iast hx hb hK hP hD hS 5 0 rfl rfl (x_gdin g_8) dX3_join_221 (fun H locs hP hD hS => ?_)
            have hP : va_P (dC, dI) vwCl [(o7, .inr (7, [.ref a7_0, .ref a7_1, .int v7_2])), (a7_0, .inl (cyI, 200, .inl g7_0)), (o3, .inr (3, [.ref o7, .ref o1, .int v3_2, .int v3_3, .int v3_4, .ref a3_5, .ref a3_6, .ref a3_7, .ref a3_8, .ref a3_9, .ref a3_10, .ref a3_11, .ref a3_12, .int v3_13, .int v3_14, .ref a3_15, .ref a3_16])), (a3_5, .inl (cyI, n3_5, .inl g3_5)), (a3_8, .inl (cyI, n3_8, .inl g3_8)), (a3_9, .inl (cyI, n3_9, .inl (upd g3_9 (Int32.toNatClampNeg l1) v5_5))), (a3_12, .inl (cyI, n3_12, .inl g3_12)), (o5, .inr (5, [.ref o7, .ref a5_1, .int v5_2, .int v5_3, .int v5_4, .int v5_5, .int v5_6, .int v5_7, .int v5_8, .int v5_9])), (a5_1, .inl (cyI, 400, .inl g5_1))] H := hP
            have hD : va_D A [(o7, .inr (7, [.ref a7_0, .ref a7_1, .int v7_2])), (a7_0, .inl (cyI, 200, .inl g7_0)), (o3, .inr (3, [.ref o7, .ref o1, .int v3_2, .int v3_3, .int v3_4, .ref a3_5, .ref a3_6, .ref a3_7, .ref a3_8, .ref a3_9, .ref a3_10, .ref a3_11, .ref a3_12, .int v3_13, .int v3_14, .ref a3_15, .ref a3_16])), (a3_5, .inl (cyI, n3_5, .inl g3_5)), (a3_8, .inl (cyI, n3_8, .inl g3_8)), (a3_9, .inl (cyI, n3_9, .inl (upd g3_9 (Int32.toNatClampNeg l1) v5_5))), (a3_12, .inl (cyI, n3_12, .inl g3_12)), (o5, .inr (5, [.ref o7, .ref a5_1, .int v5_2, .int v5_3, .int v5_4, .int v5_5, .int v5_6, .int v5_7, .int v5_8, .int v5_9])), (a5_1, .inl (cyI, 400, .inl g5_1))] := hD
            refine lv_aload_n hx hb dX3_join_222 rfl (lv_at hl 0 rfl) ?_
            refine lv_iload_n hx hb dX3_join_223 rfl (lv_at hl 1 rfl) ?_
            obtain ⟨r_9, h_9, hf⟩ := x_bi hf
            have hPc := hP.sub (ws' := [(o3, .inr (3, [.ref o7, .ref o1, .int v3_2, .int v3_3, .int v3_4, .ref a3_5, .ref a3_6, .ref a3_7, .ref a3_8, .ref a3_9, .ref a3_10, .ref a3_11, .ref a3_12, .int v3_13, .int v3_14, .ref a3_15, .ref a3_16])), (a3_12, .inl (cyI, n3_12, .inl g3_12))]) [2, 6] rfl
            have hDc := hD.sub (ws' := [(o3, .inr (3, [.ref o7, .ref o1, .int v3_2, .int v3_3, .int v3_4, .ref a3_5, .ref a3_6, .ref a3_7, .ref a3_8, .ref a3_9, .ref a3_10, .ref a3_11, .ref a3_12, .int v3_13, .int v3_14, .ref a3_15, .ref a3_16])), (a3_12, .inl (cyI, n3_12, .inl g3_12))]) [2, 6] (by decide) rfl
            have hFc := va_free (wc := [(o3, .inr (3, [.ref o7, .ref o1, .int v3_2, .int v3_3, .int v3_4, .ref a3_5, .ref a3_6, .ref a3_7, .ref a3_8, .ref a3_9, .ref a3_10, .ref a3_11, .ref a3_12, .int v3_13, .int v3_14, .ref a3_15, .ref a3_16])), (a3_12, .inl (cyI, n3_12, .inl g3_12))]) hD hS hA [2, 6] rfl
            refine va_callv (va_runV (As := [.int l1]) (rest := []) ⟨hx, hb, hml, hown, hts⟩ (c_X3_await l dC dI cyI cyZ cyJ H.size o3 o7 o1 v3_2 v3_3 v3_4 a3_5 a3_6 a3_7 a3_8 a3_9 a3_10 a3_11 a3_12 v3_13 v3_14 a3_15 a3_16 g3_12 n3_12 l1 r_9 h_9) (cwV 1 hts gX3_join_X3_await rfl rfl rfl (by decide +kernel) ⟨Nat.le_of_ble_eq_true rfl, Nat.le_of_ble_eq_true rfl⟩) (x_pVD hN hK hPc hDc (ci := 3) (q0 := 0) rfl rfl) rfl rfl hl.1 rfl (lv_room (Nat.le_of_ble_eq_true rfl)) dX3_join_224 ⟨Nat.le_of_ble_eq_true rfl, Nat.le_of_ble_eq_true rfl⟩) hS (fun q _ h => hFc q h) hFc (fun u t H1 locs ht hvm hw hB hz1 hk1 hS => ?_)
            obtain ⟨hP1, hK1, hD1⟩ := hB
            rw [ht] at hP1
            obtain ⟨hP, hD⟩ := va_join (wr := [(o7, .inr (7, [.ref a7_0, .ref a7_1, .int v7_2])), (a7_0, .inl (cyI, 200, .inl g7_0)), (a3_5, .inl (cyI, n3_5, .inl g3_5)), (a3_8, .inl (cyI, n3_8, .inl g3_8)), (a3_9, .inl (cyI, n3_9, .inl (upd g3_9 (Int32.toNatClampNeg l1) v5_5))), (o5, .inr (5, [.ref o7, .ref a5_1, .int v5_2, .int v5_3, .int v5_4, .int v5_5, .int v5_6, .int v5_7, .int v5_8, .int v5_9])), (a5_1, .inl (cyI, 400, .inl g5_1))]) (w1 := [(o3, .inr (3, [.ref o7, .ref o1, .int v3_2, .int v3_3, .int v3_4, .ref a3_5, .ref a3_6, .ref a3_7, .ref a3_8, .ref a3_9, .ref a3_10, .ref a3_11, .ref a3_12, .int (r_9.1), .int (r_9.2.1), .ref a3_15, .ref a3_16])), (a3_12, .inl (cyI, n3_12, .inl r_9.2.2))]) hP hD [2, 6] [0, 1, 3, 4, 5, 7, 8] rfl rfl (by decide) (by decide) hk1 hFc hP1 hD1
            clear hz1 hk1 hPc hDc hFc hP1 hK1 hD1 ht hvm t u
            generalize H1 = H at hP hS ⊢
            have hP : va_P (dC, dI) vwCl [(o7, .inr (7, [.ref a7_0, .ref a7_1, .int v7_2])), (a7_0, .inl (cyI, 200, .inl g7_0)), (a3_5, .inl (cyI, n3_5, .inl g3_5)), (a3_8, .inl (cyI, n3_8, .inl g3_8)), (a3_9, .inl (cyI, n3_9, .inl (upd g3_9 (Int32.toNatClampNeg l1) v5_5))), (o5, .inr (5, [.ref o7, .ref a5_1, .int v5_2, .int v5_3, .int v5_4, .int v5_5, .int v5_6, .int v5_7, .int v5_8, .int v5_9])), (a5_1, .inl (cyI, 400, .inl g5_1)), (o3, .inr (3, [.ref o7, .ref o1, .int v3_2, .int v3_3, .int v3_4, .ref a3_5, .ref a3_6, .ref a3_7, .ref a3_8, .ref a3_9, .ref a3_10, .ref a3_11, .ref a3_12, .int (r_9.1), .int (r_9.2.1), .ref a3_15, .ref a3_16])), (a3_12, .inl (cyI, n3_12, .inl r_9.2.2))] H := hP
            have hD : va_D A [(o7, .inr (7, [.ref a7_0, .ref a7_1, .int v7_2])), (a7_0, .inl (cyI, 200, .inl g7_0)), (a3_5, .inl (cyI, n3_5, .inl g3_5)), (a3_8, .inl (cyI, n3_8, .inl g3_8)), (a3_9, .inl (cyI, n3_9, .inl (upd g3_9 (Int32.toNatClampNeg l1) v5_5))), (o5, .inr (5, [.ref o7, .ref a5_1, .int v5_2, .int v5_3, .int v5_4, .int v5_5, .int v5_6, .int v5_7, .int v5_8, .int v5_9])), (a5_1, .inl (cyI, 400, .inl g5_1)), (o3, .inr (3, [.ref o7, .ref o1, .int v3_2, .int v3_3, .int v3_4, .ref a3_5, .ref a3_6, .ref a3_7, .ref a3_8, .ref a3_9, .ref a3_10, .ref a3_11, .ref a3_12, .int (r_9.1), .int (r_9.2.1), .ref a3_15, .ref a3_16])), (a3_12, .inl (cyI, n3_12, .inl r_9.2.2))] := hD
            refine lv_iconst (v := 1) hx hb dX3_join_227 (by decide) ?_
            obtain rfl := Option.some.inj hf
            have hP9 := hP.sub (ws' := [(o7, .inr (7, [.ref a7_0, .ref a7_1, .int v7_2])), (a7_0, .inl (cyI, 200, .inl g7_0)), (o3, .inr (3, [.ref o7, .ref o1, .int v3_2, .int v3_3, .int v3_4, .ref a3_5, .ref a3_6, .ref a3_7, .ref a3_8, .ref a3_9, .ref a3_10, .ref a3_11, .ref a3_12, .int (r_9.1), .int (r_9.2.1), .ref a3_15, .ref a3_16])), (a3_5, .inl (cyI, n3_5, .inl g3_5)), (a3_8, .inl (cyI, n3_8, .inl g3_8)), (a3_9, .inl (cyI, n3_9, .inl (upd g3_9 (Int32.toNatClampNeg l1) v5_5))), (a3_12, .inl (cyI, n3_12, .inl r_9.2.2)), (o5, .inr (5, [.ref o7, .ref a5_1, .int v5_2, .int v5_3, .int v5_4, .int v5_5, .int v5_6, .int v5_7, .int v5_8, .int v5_9])), (a5_1, .inl (cyI, 400, .inl g5_1))]) [0, 1, 7, 2, 3, 4, 8, 5, 6] rfl
            have hD9 := hD.sub (ws' := [(o7, .inr (7, [.ref a7_0, .ref a7_1, .int v7_2])), (a7_0, .inl (cyI, 200, .inl g7_0)), (o3, .inr (3, [.ref o7, .ref o1, .int v3_2, .int v3_3, .int v3_4, .ref a3_5, .ref a3_6, .ref a3_7, .ref a3_8, .ref a3_9, .ref a3_10, .ref a3_11, .ref a3_12, .int (r_9.1), .int (r_9.2.1), .ref a3_15, .ref a3_16])), (a3_5, .inl (cyI, n3_5, .inl g3_5)), (a3_8, .inl (cyI, n3_8, .inl g3_8)), (a3_9, .inl (cyI, n3_9, .inl (upd g3_9 (Int32.toNatClampNeg l1) v5_5))), (a3_12, .inl (cyI, n3_12, .inl r_9.2.2)), (o5, .inr (5, [.ref o7, .ref a5_1, .int v5_2, .int v5_3, .int v5_4, .int v5_5, .int v5_6, .int v5_7, .int v5_8, .int v5_9])), (a5_1, .inl (cyI, 400, .inl g5_1))]) [0, 1, 7, 2, 3, 4, 8, 5, 6] (by decide) rfl
            exact W.zret (ty := .boolean) hx hb hr rfl (fun t ht hW => ⟨⟨_, (), rfl, ⟨rfl, rfl⟩, by rw [ht]; exact hP9, va_K.moved hW.alike hK, hD9⟩, hS.F ht⟩) hS.2.2 dX3_join_228
      · replace hf := x_in c_1 hf
        refine lv_aload_n hx hb dX3_join_59 rfl (lv_at hl 0 rfl) ?_
        refine va_get (D := (dC, dI)) (ci := 3) (v := .ref a3_5) (C := RX3) (T := TX3) (N := 17) hx hb hts i_X3_join_X3 hown hK hP 2 rfl rfl 5 (by decide) k_2 (fun _ h9 => h9) rfl dX3_join_60 ?_
        refine lv_iload hx hb dX3_join_63 (lv_at hl 4 rfl) ?_
        refine lv_iload hx hb dX3_join_65 (lv_at hl 5 rfl) ?_
        refine lv_iadd hx hb dX3_join_67 ?_
        obtain ⟨g_10, hf⟩ := x_gu hf
        refine va_iald hx hb hK hP 3 0 rfl rfl (x_gdin g_10) dX3_join_68 ?_
        refine lv_istore (lv' := [(6, .int (g3_5 (Int32.toNatClampNeg (l4 + l5)))), (0, .ref o3), (1, .int l1), (2, .ref o5), (3, .int l3), (4, .int l4), (5, .int l5)]) hx hb dX3_join_69 hl (by decide) rfl (fun ls hl => ?_)
        refine lv_iload hx hb dX3_join_71 (lv_at hl 0 rfl) ?_
        refine lv_aload_n hx hb dX3_join_73 rfl (lv_at hl 3 rfl) ?_
        refine va_getN (D := (dC, dI)) (ci := 5) (v := .ref a5_1) (C := RX5) (T := TX5) (N := 10) hx hb hts i_X3_join_X5 hown hK hP 7 rfl rfl 1 (by decide) ((hN.1 ("FlowJudge$Frames", 86, "FlowJudge$Places", "cells", "[I") (List.mem_of_getElem? (i := 33) rfl)).use rfl) (fun _ h9 => h9) rfl dX3_join_74 ?_
        refine lv_iload hx hb dX3_join_77 (lv_at hl 6 rfl) ?_
        obtain ⟨g_11, hf⟩ := x_gu hf
        refine va_iald hx hb hK hP 8 0 rfl rfl (x_gdin g_11) dX3_join_79 ?_
        refine lv_icmp_ne (tgt := 93) hx hb dX3_join_80 (by decide) (fun c_12 => ?_) (fun c_12 => ?_)
        · replace hf := x_in c_12 hf
          refine lv_aload_n hx hb dX3_join_93 rfl (lv_at hl 1 rfl) ?_
          refine va_get (D := (dC, dI)) (ci := 3) (v := .ref o7) (C := RX3) (T := TX3) (N := 17) hx hb hts i_X3_join_X3 hown hK hP 2 rfl rfl 0 (by decide) k_3 (fun _ h9 => h9) rfl dX3_join_94 ?_
          refine lv_iload hx hb dX3_join_97 (lv_at hl 0 rfl) ?_
          refine lv_aload_n hx hb dX3_join_99 rfl (lv_at hl 3 rfl) ?_
          refine va_getN (D := (dC, dI)) (ci := 5) (v := .ref a5_1) (C := RX5) (T := TX5) (N := 10) hx hb hts i_X3_join_X5 hown hK hP 7 rfl rfl 1 (by decide) ((hN.1 ("FlowJudge$Frames", 86, "FlowJudge$Places", "cells", "[I") (List.mem_of_getElem? (i := 33) rfl)).use rfl) (fun _ h9 => h9) rfl dX3_join_100 ?_
          refine lv_iload hx hb dX3_join_103 (lv_at hl 6 rfl) ?_
          obtain ⟨g_13, hf⟩ := x_gu hf
          refine va_iald hx hb hK hP 8 0 rfl rfl (x_gdin g_13) dX3_join_105 ?_
          obtain ⟨r_14, h_14, hf⟩ := x_bi hf
          have hPc := hP.sub (ws' := [(o7, .inr (7, [.ref a7_0, .ref a7_1, .int v7_2])), (a7_0, .inl (cyI, 200, .inl g7_0))]) [0, 1] rfl
          refine va_calli (va_runV (As := [.int (g3_5 (Int32.toNatClampNeg (l4 + l5))), .int (g5_1 (Int32.toNatClampNeg l5))]) (rest := []) ⟨hx, hb, hml, hown, hts⟩ (c_X7_meet l dC dI cyI cyZ cyJ H.size o7 a7_0 a7_1 v7_2 g7_0 (g3_5 (Int32.toNatClampNeg (l4 + l5))) (g5_1 (Int32.toNatClampNeg l5)) r_14 h_14) (cwV 2 hts gX3_join_X7_meet rfl rfl rfl (by decide +kernel) ⟨Nat.le_of_ble_eq_true rfl, Nat.le_of_ble_eq_true rfl⟩) (x_pV hN hK hPc (ci := 7) (q0 := 0) rfl rfl) rfl rfl hl.1 rfl (lv_room (Nat.le_of_ble_eq_true rfl)) dX3_join_106 ⟨Nat.le_of_ble_eq_true rfl, Nat.le_of_ble_eq_true rfl⟩) hS x_nA (x_nf hA hS) (fun q_14 u t H1 locs ht hvm hw hB hz1 hk1 hS => ?_)
          have hP := x_kp hP hk1
          clear ht hvm hB hz1 hk1 t u hPc
          generalize H1 = H at hP hS ⊢
          obtain rfl := hw.symm
          refine lv_istore (lv' := [(7, .int r_14), (6, .int (g3_5 (Int32.toNatClampNeg (l4 + l5)))), (0, .ref o3), (1, .int l1), (2, .ref o5), (3, .int l3), (4, .int l4), (5, .int l5)]) hx hb dX3_join_109 hl (by decide) rfl (fun ls hl => ?_)
          refine lv_iload hx hb dX3_join_111 (lv_at hl 0 rfl) ?_
          refine lv_bipush (v := 7) hx hb dX3_join_113 (by decide) ?_
          refine lv_icmp_ne (tgt := 135) hx hb dX3_join_115 (by decide) (fun c_15 => ?_) (fun c_15 => ?_)
          · replace hf := x_in c_15 hf
            refine lv_iload hx hb dX3_join_135 (lv_at hl 0 rfl) ?_
            refine lv_if_ne (tgt := 151) hx hb dX3_join_137 (by decide) (fun c_16 => ?_) (fun c_16 => ?_)
            · replace hf := x_in c_16 hf
              refine lv_iload_n hx hb dX3_join_151 rfl (lv_at hl 5 rfl) ?_
              refine lv_if_ne (tgt := 162) hx hb dX3_join_152 (by decide) (fun c_17 => ?_) (fun c_17 => ?_)
              · replace hf := x_in c_17 hf
                refine lv_iconst (v := 1) hx hb dX3_join_162 (by decide) ?_
                refine lv_goto (tgt := 167) hx hb dX3_join_163 (by decide) ?_
                refine lv_istore_n (lv' := [(3, .int 1), (7, .int r_14), (6, .int (g3_5 (Int32.toNatClampNeg (l4 + l5)))), (0, .ref o3), (1, .int l1), (2, .ref o5), (4, .int l4), (5, .int l5)]) hx hb dX3_join_167 rfl hl (by decide) rfl (fun ls hl => ?_)
                refine lv_aload_n hx hb dX3_join_168 rfl (lv_at hl 3 rfl) ?_
                refine va_get (D := (dC, dI)) (ci := 3) (v := .ref a3_5) (C := RX3) (T := TX3) (N := 17) hx hb hts i_X3_join_X3 hown hK hP 2 rfl rfl 5 (by decide) k_2 (fun _ h9 => h9) rfl dX3_join_169 ?_
                refine lv_iload hx hb dX3_join_172 (lv_at hl 6 rfl) ?_
                refine lv_iload hx hb dX3_join_174 (lv_at hl 7 rfl) ?_
                refine lv_iadd hx hb dX3_join_176 ?_
                refine lv_iload hx hb dX3_join_177 (lv_at hl 1 rfl) ?_
                obtain ⟨g_18, hf⟩ := x_gu hf
                refine va_iast hx hb hK hP hD hS 3 0 rfl rfl (x_gdin g_18) dX3_join_179 (fun H locs hP hD hS => ?_)
                have hP : va_P (dC, dI) vwCl [(o7, .inr (7, [.ref a7_0, .ref a7_1, .int v7_2])), (a7_0, .inl (cyI, 200, .inl g7_0)), (o3, .inr (3, [.ref o7, .ref o1, .int v3_2, .int v3_3, .int v3_4, .ref a3_5, .ref a3_6, .ref a3_7, .ref a3_8, .ref a3_9, .ref a3_10, .ref a3_11, .ref a3_12, .int v3_13, .int v3_14, .ref a3_15, .ref a3_16])), (a3_5, .inl (cyI, n3_5, .inl (upd g3_5 (Int32.toNatClampNeg (l4 + l5)) r_14))), (a3_8, .inl (cyI, n3_8, .inl g3_8)), (a3_9, .inl (cyI, n3_9, .inl g3_9)), (a3_12, .inl (cyI, n3_12, .inl g3_12)), (o5, .inr (5, [.ref o7, .ref a5_1, .int v5_2, .int v5_3, .int v5_4, .int v5_5, .int v5_6, .int v5_7, .int v5_8, .int v5_9])), (a5_1, .inl (cyI, 400, .inl g5_1))] H := hP
                have hD : va_D A [(o7, .inr (7, [.ref a7_0, .ref a7_1, .int v7_2])), (a7_0, .inl (cyI, 200, .inl g7_0)), (o3, .inr (3, [.ref o7, .ref o1, .int v3_2, .int v3_3, .int v3_4, .ref a3_5, .ref a3_6, .ref a3_7, .ref a3_8, .ref a3_9, .ref a3_10, .ref a3_11, .ref a3_12, .int v3_13, .int v3_14, .ref a3_15, .ref a3_16])), (a3_5, .inl (cyI, n3_5, .inl (upd g3_5 (Int32.toNatClampNeg (l4 + l5)) r_14))), (a3_8, .inl (cyI, n3_8, .inl g3_8)), (a3_9, .inl (cyI, n3_9, .inl g3_9)), (a3_12, .inl (cyI, n3_12, .inl g3_12)), (o5, .inr (5, [.ref o7, .ref a5_1, .int v5_2, .int v5_3, .int v5_4, .int v5_5, .int v5_6, .int v5_7, .int v5_8, .int v5_9])), (a5_1, .inl (cyI, 400, .inl g5_1))] := hD
                refine lv_iinc (v := (l5 + 1)) (lv' := [(5, .int (l5 + 1)), (3, .int 1), (7, .int r_14), (6, .int (g3_5 (Int32.toNatClampNeg (l4 + l5)))), (0, .ref o3), (1, .int l1), (2, .ref o5), (4, .int l4)]) hx hb dX3_join_180 hl (k := 7) rfl rfl (by decide) rfl (fun ls hl => ?_)
                refine lv_goto (tgt := 50) hx hb dX3_join_183 (by decide) ?_
                exact (hWW _ _ _ _ _).mpr ((ih (0, 1, l5 + 1, upd g3_5 (Int32.toNatClampNeg (l4 + l5)) r_14) _ hf rfl _ _ _ _ rfl) rfl H locs ls hP hD hS (lv_sub hl [4, 5, 6, 1, 7, 0] rfl))
              · replace hf := x_ip c_17 hf
                refine lv_iload hx hb dX3_join_155 (lv_at hl 0 rfl) ?_
                refine lv_iload hx hb dX3_join_157 (lv_at hl 1 rfl) ?_
                refine lv_icmp_eq (tgt := 166) hx hb dX3_join_159 (by decide) (fun c_19 => ?_) (fun c_19 => ?_)
                · replace hf := x_ip c_19 hf
                  refine lv_iconst (v := 0) hx hb dX3_join_166 (by decide) ?_
                  refine lv_istore_n (lv' := [(3, .int 0), (7, .int r_14), (6, .int (g3_5 (Int32.toNatClampNeg (l4 + l5)))), (0, .ref o3), (1, .int l1), (2, .ref o5), (4, .int l4), (5, .int l5)]) hx hb dX3_join_167 rfl hl (by decide) rfl (fun ls hl => ?_)
                  refine lv_aload_n hx hb dX3_join_168 rfl (lv_at hl 3 rfl) ?_
                  refine va_get (D := (dC, dI)) (ci := 3) (v := .ref a3_5) (C := RX3) (T := TX3) (N := 17) hx hb hts i_X3_join_X3 hown hK hP 2 rfl rfl 5 (by decide) k_2 (fun _ h9 => h9) rfl dX3_join_169 ?_
                  refine lv_iload hx hb dX3_join_172 (lv_at hl 6 rfl) ?_
                  refine lv_iload hx hb dX3_join_174 (lv_at hl 7 rfl) ?_
                  refine lv_iadd hx hb dX3_join_176 ?_
                  refine lv_iload hx hb dX3_join_177 (lv_at hl 1 rfl) ?_
                  obtain ⟨g_20, hf⟩ := x_gu hf
                  refine va_iast hx hb hK hP hD hS 3 0 rfl rfl (x_gdin g_20) dX3_join_179 (fun H locs hP hD hS => ?_)
                  have hP : va_P (dC, dI) vwCl [(o7, .inr (7, [.ref a7_0, .ref a7_1, .int v7_2])), (a7_0, .inl (cyI, 200, .inl g7_0)), (o3, .inr (3, [.ref o7, .ref o1, .int v3_2, .int v3_3, .int v3_4, .ref a3_5, .ref a3_6, .ref a3_7, .ref a3_8, .ref a3_9, .ref a3_10, .ref a3_11, .ref a3_12, .int v3_13, .int v3_14, .ref a3_15, .ref a3_16])), (a3_5, .inl (cyI, n3_5, .inl (upd g3_5 (Int32.toNatClampNeg (l4 + l5)) r_14))), (a3_8, .inl (cyI, n3_8, .inl g3_8)), (a3_9, .inl (cyI, n3_9, .inl g3_9)), (a3_12, .inl (cyI, n3_12, .inl g3_12)), (o5, .inr (5, [.ref o7, .ref a5_1, .int v5_2, .int v5_3, .int v5_4, .int v5_5, .int v5_6, .int v5_7, .int v5_8, .int v5_9])), (a5_1, .inl (cyI, 400, .inl g5_1))] H := hP
                  have hD : va_D A [(o7, .inr (7, [.ref a7_0, .ref a7_1, .int v7_2])), (a7_0, .inl (cyI, 200, .inl g7_0)), (o3, .inr (3, [.ref o7, .ref o1, .int v3_2, .int v3_3, .int v3_4, .ref a3_5, .ref a3_6, .ref a3_7, .ref a3_8, .ref a3_9, .ref a3_10, .ref a3_11, .ref a3_12, .int v3_13, .int v3_14, .ref a3_15, .ref a3_16])), (a3_5, .inl (cyI, n3_5, .inl (upd g3_5 (Int32.toNatClampNeg (l4 + l5)) r_14))), (a3_8, .inl (cyI, n3_8, .inl g3_8)), (a3_9, .inl (cyI, n3_9, .inl g3_9)), (a3_12, .inl (cyI, n3_12, .inl g3_12)), (o5, .inr (5, [.ref o7, .ref a5_1, .int v5_2, .int v5_3, .int v5_4, .int v5_5, .int v5_6, .int v5_7, .int v5_8, .int v5_9])), (a5_1, .inl (cyI, 400, .inl g5_1))] := hD
                  refine lv_iinc (v := (l5 + 1)) (lv' := [(5, .int (l5 + 1)), (3, .int 0), (7, .int r_14), (6, .int (g3_5 (Int32.toNatClampNeg (l4 + l5)))), (0, .ref o3), (1, .int l1), (2, .ref o5), (4, .int l4)]) hx hb dX3_join_180 hl (k := 7) rfl rfl (by decide) rfl (fun ls hl => ?_)
                  refine lv_goto (tgt := 50) hx hb dX3_join_183 (by decide) ?_
                  exact (hWW _ _ _ _ _).mpr ((ih (0, 0, l5 + 1, upd g3_5 (Int32.toNatClampNeg (l4 + l5)) r_14) _ hf rfl _ _ _ _ rfl) rfl H locs ls hP hD hS (lv_sub hl [4, 5, 6, 1, 7, 0] rfl))
                · replace hf := x_in c_19 hf
                  refine lv_iconst (v := 1) hx hb dX3_join_162 (by decide) ?_
                  refine lv_goto (tgt := 167) hx hb dX3_join_163 (by decide) ?_
                  refine lv_istore_n (lv' := [(3, .int 1), (7, .int r_14), (6, .int (g3_5 (Int32.toNatClampNeg (l4 + l5)))), (0, .ref o3), (1, .int l1), (2, .ref o5), (4, .int l4), (5, .int l5)]) hx hb dX3_join_167 rfl hl (by decide) rfl (fun ls hl => ?_)
                  refine lv_aload_n hx hb dX3_join_168 rfl (lv_at hl 3 rfl) ?_
                  refine va_get (D := (dC, dI)) (ci := 3) (v := .ref a3_5) (C := RX3) (T := TX3) (N := 17) hx hb hts i_X3_join_X3 hown hK hP 2 rfl rfl 5 (by decide) k_2 (fun _ h9 => h9) rfl dX3_join_169 ?_
                  refine lv_iload hx hb dX3_join_172 (lv_at hl 6 rfl) ?_
                  refine lv_iload hx hb dX3_join_174 (lv_at hl 7 rfl) ?_
                  refine lv_iadd hx hb dX3_join_176 ?_
                  refine lv_iload hx hb dX3_join_177 (lv_at hl 1 rfl) ?_
                  obtain ⟨g_21, hf⟩ := x_gu hf
                  refine va_iast hx hb hK hP hD hS 3 0 rfl rfl (x_gdin g_21) dX3_join_179 (fun H locs hP hD hS => ?_)
                  have hP : va_P (dC, dI) vwCl [(o7, .inr (7, [.ref a7_0, .ref a7_1, .int v7_2])), (a7_0, .inl (cyI, 200, .inl g7_0)), (o3, .inr (3, [.ref o7, .ref o1, .int v3_2, .int v3_3, .int v3_4, .ref a3_5, .ref a3_6, .ref a3_7, .ref a3_8, .ref a3_9, .ref a3_10, .ref a3_11, .ref a3_12, .int v3_13, .int v3_14, .ref a3_15, .ref a3_16])), (a3_5, .inl (cyI, n3_5, .inl (upd g3_5 (Int32.toNatClampNeg (l4 + l5)) r_14))), (a3_8, .inl (cyI, n3_8, .inl g3_8)), (a3_9, .inl (cyI, n3_9, .inl g3_9)), (a3_12, .inl (cyI, n3_12, .inl g3_12)), (o5, .inr (5, [.ref o7, .ref a5_1, .int v5_2, .int v5_3, .int v5_4, .int v5_5, .int v5_6, .int v5_7, .int v5_8, .int v5_9])), (a5_1, .inl (cyI, 400, .inl g5_1))] H := hP
                  have hD : va_D A [(o7, .inr (7, [.ref a7_0, .ref a7_1, .int v7_2])), (a7_0, .inl (cyI, 200, .inl g7_0)), (o3, .inr (3, [.ref o7, .ref o1, .int v3_2, .int v3_3, .int v3_4, .ref a3_5, .ref a3_6, .ref a3_7, .ref a3_8, .ref a3_9, .ref a3_10, .ref a3_11, .ref a3_12, .int v3_13, .int v3_14, .ref a3_15, .ref a3_16])), (a3_5, .inl (cyI, n3_5, .inl (upd g3_5 (Int32.toNatClampNeg (l4 + l5)) r_14))), (a3_8, .inl (cyI, n3_8, .inl g3_8)), (a3_9, .inl (cyI, n3_9, .inl g3_9)), (a3_12, .inl (cyI, n3_12, .inl g3_12)), (o5, .inr (5, [.ref o7, .ref a5_1, .int v5_2, .int v5_3, .int v5_4, .int v5_5, .int v5_6, .int v5_7, .int v5_8, .int v5_9])), (a5_1, .inl (cyI, 400, .inl g5_1))] := hD
                  refine lv_iinc (v := (l5 + 1)) (lv' := [(5, .int (l5 + 1)), (3, .int 1), (7, .int r_14), (6, .int (g3_5 (Int32.toNatClampNeg (l4 + l5)))), (0, .ref o3), (1, .int l1), (2, .ref o5), (4, .int l4)]) hx hb dX3_join_180 hl (k := 7) rfl rfl (by decide) rfl (fun ls hl => ?_)
                  refine lv_goto (tgt := 50) hx hb dX3_join_183 (by decide) ?_
                  exact (hWW _ _ _ _ _).mpr ((ih (0, 1, l5 + 1, upd g3_5 (Int32.toNatClampNeg (l4 + l5)) r_14) _ hf rfl _ _ _ _ rfl) rfl H locs ls hP hD hS (lv_sub hl [4, 5, 6, 1, 7, 0] rfl))
            · replace hf := x_ip c_16 hf
              refine lv_iload hx hb dX3_join_140 (lv_at hl 7 rfl) ?_
              refine lv_aload_n hx hb dX3_join_142 rfl (lv_at hl 2 rfl) ?_
              refine va_get (D := (dC, dI)) (ci := 3) (v := .int v3_2) (C := RX3) (T := TX3) (N := 17) hx hb hts i_X3_join_X3 hown hK hP 2 rfl rfl 2 (by decide) k_4 (fun _ h9 => h9) rfl dX3_join_143 ?_
              refine lv_icmp_lt (tgt := 151) hx hb dX3_join_146 (by decide) (fun c_22 => ?_) (fun c_22 => ?_)
              · replace hf := x_ip c_22 hf
                refine lv_iload_n hx hb dX3_join_151 rfl (lv_at hl 5 rfl) ?_
                refine lv_if_ne (tgt := 162) hx hb dX3_join_152 (by decide) (fun c_23 => ?_) (fun c_23 => ?_)
                · replace hf := x_in c_23 hf
                  refine lv_iconst (v := 1) hx hb dX3_join_162 (by decide) ?_
                  refine lv_goto (tgt := 167) hx hb dX3_join_163 (by decide) ?_
                  refine lv_istore_n (lv' := [(3, .int 1), (7, .int r_14), (6, .int (g3_5 (Int32.toNatClampNeg (l4 + l5)))), (0, .ref o3), (1, .int l1), (2, .ref o5), (4, .int l4), (5, .int l5)]) hx hb dX3_join_167 rfl hl (by decide) rfl (fun ls hl => ?_)
                  refine lv_aload_n hx hb dX3_join_168 rfl (lv_at hl 3 rfl) ?_
                  refine va_get (D := (dC, dI)) (ci := 3) (v := .ref a3_5) (C := RX3) (T := TX3) (N := 17) hx hb hts i_X3_join_X3 hown hK hP 2 rfl rfl 5 (by decide) k_2 (fun _ h9 => h9) rfl dX3_join_169 ?_
                  refine lv_iload hx hb dX3_join_172 (lv_at hl 6 rfl) ?_
                  refine lv_iload hx hb dX3_join_174 (lv_at hl 7 rfl) ?_
                  refine lv_iadd hx hb dX3_join_176 ?_
                  refine lv_iload hx hb dX3_join_177 (lv_at hl 1 rfl) ?_
                  obtain ⟨g_24, hf⟩ := x_gu hf
                  refine va_iast hx hb hK hP hD hS 3 0 rfl rfl (x_gdin g_24) dX3_join_179 (fun H locs hP hD hS => ?_)
                  have hP : va_P (dC, dI) vwCl [(o7, .inr (7, [.ref a7_0, .ref a7_1, .int v7_2])), (a7_0, .inl (cyI, 200, .inl g7_0)), (o3, .inr (3, [.ref o7, .ref o1, .int v3_2, .int v3_3, .int v3_4, .ref a3_5, .ref a3_6, .ref a3_7, .ref a3_8, .ref a3_9, .ref a3_10, .ref a3_11, .ref a3_12, .int v3_13, .int v3_14, .ref a3_15, .ref a3_16])), (a3_5, .inl (cyI, n3_5, .inl (upd g3_5 (Int32.toNatClampNeg (l4 + l5)) r_14))), (a3_8, .inl (cyI, n3_8, .inl g3_8)), (a3_9, .inl (cyI, n3_9, .inl g3_9)), (a3_12, .inl (cyI, n3_12, .inl g3_12)), (o5, .inr (5, [.ref o7, .ref a5_1, .int v5_2, .int v5_3, .int v5_4, .int v5_5, .int v5_6, .int v5_7, .int v5_8, .int v5_9])), (a5_1, .inl (cyI, 400, .inl g5_1))] H := hP
                  have hD : va_D A [(o7, .inr (7, [.ref a7_0, .ref a7_1, .int v7_2])), (a7_0, .inl (cyI, 200, .inl g7_0)), (o3, .inr (3, [.ref o7, .ref o1, .int v3_2, .int v3_3, .int v3_4, .ref a3_5, .ref a3_6, .ref a3_7, .ref a3_8, .ref a3_9, .ref a3_10, .ref a3_11, .ref a3_12, .int v3_13, .int v3_14, .ref a3_15, .ref a3_16])), (a3_5, .inl (cyI, n3_5, .inl (upd g3_5 (Int32.toNatClampNeg (l4 + l5)) r_14))), (a3_8, .inl (cyI, n3_8, .inl g3_8)), (a3_9, .inl (cyI, n3_9, .inl g3_9)), (a3_12, .inl (cyI, n3_12, .inl g3_12)), (o5, .inr (5, [.ref o7, .ref a5_1, .int v5_2, .int v5_3, .int v5_4, .int v5_5, .int v5_6, .int v5_7, .int v5_8, .int v5_9])), (a5_1, .inl (cyI, 400, .inl g5_1))] := hD
                  refine lv_iinc (v := (l5 + 1)) (lv' := [(5, .int (l5 + 1)), (3, .int 1), (7, .int r_14), (6, .int (g3_5 (Int32.toNatClampNeg (l4 + l5)))), (0, .ref o3), (1, .int l1), (2, .ref o5), (4, .int l4)]) hx hb dX3_join_180 hl (k := 7) rfl rfl (by decide) rfl (fun ls hl => ?_)
                  refine lv_goto (tgt := 50) hx hb dX3_join_183 (by decide) ?_
                  exact (hWW _ _ _ _ _).mpr ((ih (0, 1, l5 + 1, upd g3_5 (Int32.toNatClampNeg (l4 + l5)) r_14) _ hf rfl _ _ _ _ rfl) rfl H locs ls hP hD hS (lv_sub hl [4, 5, 6, 1, 7, 0] rfl))
                · replace hf := x_ip c_23 hf
                  refine lv_iload hx hb dX3_join_155 (lv_at hl 0 rfl) ?_
                  refine lv_iload hx hb dX3_join_157 (lv_at hl 1 rfl) ?_
                  refine lv_icmp_eq (tgt := 166) hx hb dX3_join_159 (by decide) (fun c_25 => ?_) (fun c_25 => ?_)
                  · replace hf := x_ip c_25 hf
                    refine lv_iconst (v := 0) hx hb dX3_join_166 (by decide) ?_
                    refine lv_istore_n (lv' := [(3, .int 0), (7, .int r_14), (6, .int (g3_5 (Int32.toNatClampNeg (l4 + l5)))), (0, .ref o3), (1, .int l1), (2, .ref o5), (4, .int l4), (5, .int l5)]) hx hb dX3_join_167 rfl hl (by decide) rfl (fun ls hl => ?_)
                    refine lv_aload_n hx hb dX3_join_168 rfl (lv_at hl 3 rfl) ?_
                    refine va_get (D := (dC, dI)) (ci := 3) (v := .ref a3_5) (C := RX3) (T := TX3) (N := 17) hx hb hts i_X3_join_X3 hown hK hP 2 rfl rfl 5 (by decide) k_2 (fun _ h9 => h9) rfl dX3_join_169 ?_
                    refine lv_iload hx hb dX3_join_172 (lv_at hl 6 rfl) ?_
                    refine lv_iload hx hb dX3_join_174 (lv_at hl 7 rfl) ?_
                    refine lv_iadd hx hb dX3_join_176 ?_
                    refine lv_iload hx hb dX3_join_177 (lv_at hl 1 rfl) ?_
                    obtain ⟨g_26, hf⟩ := x_gu hf
                    refine va_iast hx hb hK hP hD hS 3 0 rfl rfl (x_gdin g_26) dX3_join_179 (fun H locs hP hD hS => ?_)
                    have hP : va_P (dC, dI) vwCl [(o7, .inr (7, [.ref a7_0, .ref a7_1, .int v7_2])), (a7_0, .inl (cyI, 200, .inl g7_0)), (o3, .inr (3, [.ref o7, .ref o1, .int v3_2, .int v3_3, .int v3_4, .ref a3_5, .ref a3_6, .ref a3_7, .ref a3_8, .ref a3_9, .ref a3_10, .ref a3_11, .ref a3_12, .int v3_13, .int v3_14, .ref a3_15, .ref a3_16])), (a3_5, .inl (cyI, n3_5, .inl (upd g3_5 (Int32.toNatClampNeg (l4 + l5)) r_14))), (a3_8, .inl (cyI, n3_8, .inl g3_8)), (a3_9, .inl (cyI, n3_9, .inl g3_9)), (a3_12, .inl (cyI, n3_12, .inl g3_12)), (o5, .inr (5, [.ref o7, .ref a5_1, .int v5_2, .int v5_3, .int v5_4, .int v5_5, .int v5_6, .int v5_7, .int v5_8, .int v5_9])), (a5_1, .inl (cyI, 400, .inl g5_1))] H := hP
                    have hD : va_D A [(o7, .inr (7, [.ref a7_0, .ref a7_1, .int v7_2])), (a7_0, .inl (cyI, 200, .inl g7_0)), (o3, .inr (3, [.ref o7, .ref o1, .int v3_2, .int v3_3, .int v3_4, .ref a3_5, .ref a3_6, .ref a3_7, .ref a3_8, .ref a3_9, .ref a3_10, .ref a3_11, .ref a3_12, .int v3_13, .int v3_14, .ref a3_15, .ref a3_16])), (a3_5, .inl (cyI, n3_5, .inl (upd g3_5 (Int32.toNatClampNeg (l4 + l5)) r_14))), (a3_8, .inl (cyI, n3_8, .inl g3_8)), (a3_9, .inl (cyI, n3_9, .inl g3_9)), (a3_12, .inl (cyI, n3_12, .inl g3_12)), (o5, .inr (5, [.ref o7, .ref a5_1, .int v5_2, .int v5_3, .int v5_4, .int v5_5, .int v5_6, .int v5_7, .int v5_8, .int v5_9])), (a5_1, .inl (cyI, 400, .inl g5_1))] := hD
                    refine lv_iinc (v := (l5 + 1)) (lv' := [(5, .int (l5 + 1)), (3, .int 0), (7, .int r_14), (6, .int (g3_5 (Int32.toNatClampNeg (l4 + l5)))), (0, .ref o3), (1, .int l1), (2, .ref o5), (4, .int l4)]) hx hb dX3_join_180 hl (k := 7) rfl rfl (by decide) rfl (fun ls hl => ?_)
                    refine lv_goto (tgt := 50) hx hb dX3_join_183 (by decide) ?_
                    exact (hWW _ _ _ _ _).mpr ((ih (0, 0, l5 + 1, upd g3_5 (Int32.toNatClampNeg (l4 + l5)) r_14) _ hf rfl _ _ _ _ rfl) rfl H locs ls hP hD hS (lv_sub hl [4, 5, 6, 1, 7, 0] rfl))
                  · replace hf := x_in c_25 hf
                    refine lv_iconst (v := 1) hx hb dX3_join_162 (by decide) ?_
                    refine lv_goto (tgt := 167) hx hb dX3_join_163 (by decide) ?_
                    refine lv_istore_n (lv' := [(3, .int 1), (7, .int r_14), (6, .int (g3_5 (Int32.toNatClampNeg (l4 + l5)))), (0, .ref o3), (1, .int l1), (2, .ref o5), (4, .int l4), (5, .int l5)]) hx hb dX3_join_167 rfl hl (by decide) rfl (fun ls hl => ?_)
                    refine lv_aload_n hx hb dX3_join_168 rfl (lv_at hl 3 rfl) ?_
                    refine va_get (D := (dC, dI)) (ci := 3) (v := .ref a3_5) (C := RX3) (T := TX3) (N := 17) hx hb hts i_X3_join_X3 hown hK hP 2 rfl rfl 5 (by decide) k_2 (fun _ h9 => h9) rfl dX3_join_169 ?_
                    refine lv_iload hx hb dX3_join_172 (lv_at hl 6 rfl) ?_
                    refine lv_iload hx hb dX3_join_174 (lv_at hl 7 rfl) ?_
                    refine lv_iadd hx hb dX3_join_176 ?_
                    refine lv_iload hx hb dX3_join_177 (lv_at hl 1 rfl) ?_
                    obtain ⟨g_27, hf⟩ := x_gu hf
                    refine va_iast hx hb hK hP hD hS 3 0 rfl rfl (x_gdin g_27) dX3_join_179 (fun H locs hP hD hS => ?_)
                    have hP : va_P (dC, dI) vwCl [(o7, .inr (7, [.ref a7_0, .ref a7_1, .int v7_2])), (a7_0, .inl (cyI, 200, .inl g7_0)), (o3, .inr (3, [.ref o7, .ref o1, .int v3_2, .int v3_3, .int v3_4, .ref a3_5, .ref a3_6, .ref a3_7, .ref a3_8, .ref a3_9, .ref a3_10, .ref a3_11, .ref a3_12, .int v3_13, .int v3_14, .ref a3_15, .ref a3_16])), (a3_5, .inl (cyI, n3_5, .inl (upd g3_5 (Int32.toNatClampNeg (l4 + l5)) r_14))), (a3_8, .inl (cyI, n3_8, .inl g3_8)), (a3_9, .inl (cyI, n3_9, .inl g3_9)), (a3_12, .inl (cyI, n3_12, .inl g3_12)), (o5, .inr (5, [.ref o7, .ref a5_1, .int v5_2, .int v5_3, .int v5_4, .int v5_5, .int v5_6, .int v5_7, .int v5_8, .int v5_9])), (a5_1, .inl (cyI, 400, .inl g5_1))] H := hP
                    have hD : va_D A [(o7, .inr (7, [.ref a7_0, .ref a7_1, .int v7_2])), (a7_0, .inl (cyI, 200, .inl g7_0)), (o3, .inr (3, [.ref o7, .ref o1, .int v3_2, .int v3_3, .int v3_4, .ref a3_5, .ref a3_6, .ref a3_7, .ref a3_8, .ref a3_9, .ref a3_10, .ref a3_11, .ref a3_12, .int v3_13, .int v3_14, .ref a3_15, .ref a3_16])), (a3_5, .inl (cyI, n3_5, .inl (upd g3_5 (Int32.toNatClampNeg (l4 + l5)) r_14))), (a3_8, .inl (cyI, n3_8, .inl g3_8)), (a3_9, .inl (cyI, n3_9, .inl g3_9)), (a3_12, .inl (cyI, n3_12, .inl g3_12)), (o5, .inr (5, [.ref o7, .ref a5_1, .int v5_2, .int v5_3, .int v5_4, .int v5_5, .int v5_6, .int v5_7, .int v5_8, .int v5_9])), (a5_1, .inl (cyI, 400, .inl g5_1))] := hD
                    refine lv_iinc (v := (l5 + 1)) (lv' := [(5, .int (l5 + 1)), (3, .int 1), (7, .int r_14), (6, .int (g3_5 (Int32.toNatClampNeg (l4 + l5)))), (0, .ref o3), (1, .int l1), (2, .ref o5), (4, .int l4)]) hx hb dX3_join_180 hl (k := 7) rfl rfl (by decide) rfl (fun ls hl => ?_)
                    refine lv_goto (tgt := 50) hx hb dX3_join_183 (by decide) ?_
                    exact (hWW _ _ _ _ _).mpr ((ih (0, 1, l5 + 1, upd g3_5 (Int32.toNatClampNeg (l4 + l5)) r_14) _ hf rfl _ _ _ _ rfl) rfl H locs ls hP hD hS (lv_sub hl [4, 5, 6, 1, 7, 0] rfl))
              · replace hf := x_in c_22 hf
                refine lv_iconst (v := 0) hx hb dX3_join_149 (by decide) ?_
                obtain rfl := Option.some.inj hf
                have hP9 := hP.sub (ws' := [(o7, .inr (7, [.ref a7_0, .ref a7_1, .int v7_2])), (a7_0, .inl (cyI, 200, .inl g7_0)), (o3, .inr (3, [.ref o7, .ref o1, .int v3_2, .int v3_3, .int v3_4, .ref a3_5, .ref a3_6, .ref a3_7, .ref a3_8, .ref a3_9, .ref a3_10, .ref a3_11, .ref a3_12, .int v3_13, .int v3_14, .ref a3_15, .ref a3_16])), (a3_5, .inl (cyI, n3_5, .inl g3_5)), (a3_8, .inl (cyI, n3_8, .inl g3_8)), (a3_9, .inl (cyI, n3_9, .inl g3_9)), (a3_12, .inl (cyI, n3_12, .inl g3_12)), (o5, .inr (5, [.ref o7, .ref a5_1, .int v5_2, .int v5_3, .int v5_4, .int v5_5, .int v5_6, .int v5_7, .int v5_8, .int v5_9])), (a5_1, .inl (cyI, 400, .inl g5_1))]) [0, 1, 2, 3, 4, 5, 6, 7, 8] rfl
                have hD9 := hD.sub (ws' := [(o7, .inr (7, [.ref a7_0, .ref a7_1, .int v7_2])), (a7_0, .inl (cyI, 200, .inl g7_0)), (o3, .inr (3, [.ref o7, .ref o1, .int v3_2, .int v3_3, .int v3_4, .ref a3_5, .ref a3_6, .ref a3_7, .ref a3_8, .ref a3_9, .ref a3_10, .ref a3_11, .ref a3_12, .int v3_13, .int v3_14, .ref a3_15, .ref a3_16])), (a3_5, .inl (cyI, n3_5, .inl g3_5)), (a3_8, .inl (cyI, n3_8, .inl g3_8)), (a3_9, .inl (cyI, n3_9, .inl g3_9)), (a3_12, .inl (cyI, n3_12, .inl g3_12)), (o5, .inr (5, [.ref o7, .ref a5_1, .int v5_2, .int v5_3, .int v5_4, .int v5_5, .int v5_6, .int v5_7, .int v5_8, .int v5_9])), (a5_1, .inl (cyI, 400, .inl g5_1))]) [0, 1, 2, 3, 4, 5, 6, 7, 8] (by decide) rfl
                exact W.zret (ty := .boolean) hx hb hr rfl (fun t ht hW => ⟨⟨_, (), rfl, ⟨rfl, rfl⟩, by rw [ht]; exact hP9, va_K.moved hW.alike hK, hD9⟩, hS.F ht⟩) hS.2.2 dX3_join_150
          · replace hf := x_ip c_15 hf
            refine lv_aload_n hx hb dX3_join_118 rfl (lv_at hl 2 rfl) ?_
            refine lv_iload hx hb dX3_join_119 (lv_at hl 6 rfl) ?_
            refine lv_iload hx hb dX3_join_121 (lv_at hl 7 rfl) ?_
            refine lv_iadd hx hb dX3_join_123 ?_
            refine lv_iconst (v := 1) hx hb dX3_join_124 (by decide) ?_
            refine lv_isub hx hb dX3_join_125 ?_
            obtain ⟨r_28, h_28, hf⟩ := x_bi hf
            have hPc := hP.sub (ws' := [(o3, .inr (3, [.ref o7, .ref o1, .int v3_2, .int v3_3, .int v3_4, .ref a3_5, .ref a3_6, .ref a3_7, .ref a3_8, .ref a3_9, .ref a3_10, .ref a3_11, .ref a3_12, .int v3_13, .int v3_14, .ref a3_15, .ref a3_16])), (a3_5, .inl (cyI, n3_5, .inl g3_5))]) [2, 3] rfl
            refine va_calli (va_runV (As := [.int ((l4 + l5) - (1 : Int32))]) (rest := []) ⟨hx, hb, hml, hown, hts⟩ (c_X3_isWideAt l dC dI cyI cyZ cyJ H.size o3 o7 o1 v3_2 v3_3 v3_4 a3_5 a3_6 a3_7 a3_8 a3_9 a3_10 a3_11 a3_12 v3_13 v3_14 a3_15 a3_16 g3_5 n3_5 ((l4 + l5) - (1 : Int32)) r_28 h_28) (cwV 1 hts gX3_join_X3_isWideAt rfl rfl rfl (by decide +kernel) ⟨Nat.le_of_ble_eq_true rfl, Nat.le_of_ble_eq_true rfl⟩) (x_pV hN hK hPc (ci := 3) (q0 := 0) rfl rfl) rfl rfl hl.1 rfl (lv_room (Nat.le_of_ble_eq_true rfl)) dX3_join_126 ⟨Nat.le_of_ble_eq_true rfl, Nat.le_of_ble_eq_true rfl⟩) hS x_nA (x_nf hA hS) (fun q_28 u t H1 locs ht hvm hw hB hz1 hk1 hS => ?_)
            have hP := x_kp hP hk1
            clear ht hvm hB hz1 hk1 t u hPc
            generalize H1 = H at hP hS ⊢
            obtain ⟨hw, b_28⟩ := hw
            obtain rfl := hw.symm
            refine lv_if_ne (tgt := 135) hx hb dX3_join_129 (by decide) (fun c_29 => ?_) (fun c_29 => ?_)
            · replace hf := x_in c_29 hf
              refine lv_iload hx hb dX3_join_135 (lv_at hl 0 rfl) ?_
              refine lv_if_ne (tgt := 151) hx hb dX3_join_137 (by decide) (fun c_30 => ?_) (fun c_30 => ?_)
              · replace hf := x_in c_30 hf
                refine lv_iload_n hx hb dX3_join_151 rfl (lv_at hl 5 rfl) ?_
                refine lv_if_ne (tgt := 162) hx hb dX3_join_152 (by decide) (fun c_31 => ?_) (fun c_31 => ?_)
                · replace hf := x_in c_31 hf
                  refine lv_iconst (v := 1) hx hb dX3_join_162 (by decide) ?_
                  refine lv_goto (tgt := 167) hx hb dX3_join_163 (by decide) ?_
                  refine lv_istore_n (lv' := [(3, .int 1), (7, .int r_14), (6, .int (g3_5 (Int32.toNatClampNeg (l4 + l5)))), (0, .ref o3), (1, .int l1), (2, .ref o5), (4, .int l4), (5, .int l5)]) hx hb dX3_join_167 rfl hl (by decide) rfl (fun ls hl => ?_)
                  refine lv_aload_n hx hb dX3_join_168 rfl (lv_at hl 3 rfl) ?_
                  refine va_get (D := (dC, dI)) (ci := 3) (v := .ref a3_5) (C := RX3) (T := TX3) (N := 17) hx hb hts i_X3_join_X3 hown hK hP 2 rfl rfl 5 (by decide) k_2 (fun _ h9 => h9) rfl dX3_join_169 ?_
                  refine lv_iload hx hb dX3_join_172 (lv_at hl 6 rfl) ?_
                  refine lv_iload hx hb dX3_join_174 (lv_at hl 7 rfl) ?_
                  refine lv_iadd hx hb dX3_join_176 ?_
                  refine lv_iload hx hb dX3_join_177 (lv_at hl 1 rfl) ?_
                  obtain ⟨g_32, hf⟩ := x_gu hf
                  refine va_iast hx hb hK hP hD hS 3 0 rfl rfl (x_gdin g_32) dX3_join_179 (fun H locs hP hD hS => ?_)
                  have hP : va_P (dC, dI) vwCl [(o7, .inr (7, [.ref a7_0, .ref a7_1, .int v7_2])), (a7_0, .inl (cyI, 200, .inl g7_0)), (o3, .inr (3, [.ref o7, .ref o1, .int v3_2, .int v3_3, .int v3_4, .ref a3_5, .ref a3_6, .ref a3_7, .ref a3_8, .ref a3_9, .ref a3_10, .ref a3_11, .ref a3_12, .int v3_13, .int v3_14, .ref a3_15, .ref a3_16])), (a3_5, .inl (cyI, n3_5, .inl (upd g3_5 (Int32.toNatClampNeg (l4 + l5)) r_14))), (a3_8, .inl (cyI, n3_8, .inl g3_8)), (a3_9, .inl (cyI, n3_9, .inl g3_9)), (a3_12, .inl (cyI, n3_12, .inl g3_12)), (o5, .inr (5, [.ref o7, .ref a5_1, .int v5_2, .int v5_3, .int v5_4, .int v5_5, .int v5_6, .int v5_7, .int v5_8, .int v5_9])), (a5_1, .inl (cyI, 400, .inl g5_1))] H := hP
                  have hD : va_D A [(o7, .inr (7, [.ref a7_0, .ref a7_1, .int v7_2])), (a7_0, .inl (cyI, 200, .inl g7_0)), (o3, .inr (3, [.ref o7, .ref o1, .int v3_2, .int v3_3, .int v3_4, .ref a3_5, .ref a3_6, .ref a3_7, .ref a3_8, .ref a3_9, .ref a3_10, .ref a3_11, .ref a3_12, .int v3_13, .int v3_14, .ref a3_15, .ref a3_16])), (a3_5, .inl (cyI, n3_5, .inl (upd g3_5 (Int32.toNatClampNeg (l4 + l5)) r_14))), (a3_8, .inl (cyI, n3_8, .inl g3_8)), (a3_9, .inl (cyI, n3_9, .inl g3_9)), (a3_12, .inl (cyI, n3_12, .inl g3_12)), (o5, .inr (5, [.ref o7, .ref a5_1, .int v5_2, .int v5_3, .int v5_4, .int v5_5, .int v5_6, .int v5_7, .int v5_8, .int v5_9])), (a5_1, .inl (cyI, 400, .inl g5_1))] := hD
                  refine lv_iinc (v := (l5 + 1)) (lv' := [(5, .int (l5 + 1)), (3, .int 1), (7, .int r_14), (6, .int (g3_5 (Int32.toNatClampNeg (l4 + l5)))), (0, .ref o3), (1, .int l1), (2, .ref o5), (4, .int l4)]) hx hb dX3_join_180 hl (k := 7) rfl rfl (by decide) rfl (fun ls hl => ?_)
                  refine lv_goto (tgt := 50) hx hb dX3_join_183 (by decide) ?_
                  exact (hWW _ _ _ _ _).mpr ((ih (0, 1, l5 + 1, upd g3_5 (Int32.toNatClampNeg (l4 + l5)) r_14) _ hf rfl _ _ _ _ rfl) rfl H locs ls hP hD hS (lv_sub hl [4, 5, 6, 1, 7, 0] rfl))
                · replace hf := x_ip c_31 hf
                  refine lv_iload hx hb dX3_join_155 (lv_at hl 0 rfl) ?_
                  refine lv_iload hx hb dX3_join_157 (lv_at hl 1 rfl) ?_
                  refine lv_icmp_eq (tgt := 166) hx hb dX3_join_159 (by decide) (fun c_33 => ?_) (fun c_33 => ?_)
                  · replace hf := x_ip c_33 hf
                    refine lv_iconst (v := 0) hx hb dX3_join_166 (by decide) ?_
                    refine lv_istore_n (lv' := [(3, .int 0), (7, .int r_14), (6, .int (g3_5 (Int32.toNatClampNeg (l4 + l5)))), (0, .ref o3), (1, .int l1), (2, .ref o5), (4, .int l4), (5, .int l5)]) hx hb dX3_join_167 rfl hl (by decide) rfl (fun ls hl => ?_)
                    refine lv_aload_n hx hb dX3_join_168 rfl (lv_at hl 3 rfl) ?_
                    refine va_get (D := (dC, dI)) (ci := 3) (v := .ref a3_5) (C := RX3) (T := TX3) (N := 17) hx hb hts i_X3_join_X3 hown hK hP 2 rfl rfl 5 (by decide) k_2 (fun _ h9 => h9) rfl dX3_join_169 ?_
                    refine lv_iload hx hb dX3_join_172 (lv_at hl 6 rfl) ?_
                    refine lv_iload hx hb dX3_join_174 (lv_at hl 7 rfl) ?_
                    refine lv_iadd hx hb dX3_join_176 ?_
                    refine lv_iload hx hb dX3_join_177 (lv_at hl 1 rfl) ?_
                    obtain ⟨g_34, hf⟩ := x_gu hf
                    refine va_iast hx hb hK hP hD hS 3 0 rfl rfl (x_gdin g_34) dX3_join_179 (fun H locs hP hD hS => ?_)
                    have hP : va_P (dC, dI) vwCl [(o7, .inr (7, [.ref a7_0, .ref a7_1, .int v7_2])), (a7_0, .inl (cyI, 200, .inl g7_0)), (o3, .inr (3, [.ref o7, .ref o1, .int v3_2, .int v3_3, .int v3_4, .ref a3_5, .ref a3_6, .ref a3_7, .ref a3_8, .ref a3_9, .ref a3_10, .ref a3_11, .ref a3_12, .int v3_13, .int v3_14, .ref a3_15, .ref a3_16])), (a3_5, .inl (cyI, n3_5, .inl (upd g3_5 (Int32.toNatClampNeg (l4 + l5)) r_14))), (a3_8, .inl (cyI, n3_8, .inl g3_8)), (a3_9, .inl (cyI, n3_9, .inl g3_9)), (a3_12, .inl (cyI, n3_12, .inl g3_12)), (o5, .inr (5, [.ref o7, .ref a5_1, .int v5_2, .int v5_3, .int v5_4, .int v5_5, .int v5_6, .int v5_7, .int v5_8, .int v5_9])), (a5_1, .inl (cyI, 400, .inl g5_1))] H := hP
                    have hD : va_D A [(o7, .inr (7, [.ref a7_0, .ref a7_1, .int v7_2])), (a7_0, .inl (cyI, 200, .inl g7_0)), (o3, .inr (3, [.ref o7, .ref o1, .int v3_2, .int v3_3, .int v3_4, .ref a3_5, .ref a3_6, .ref a3_7, .ref a3_8, .ref a3_9, .ref a3_10, .ref a3_11, .ref a3_12, .int v3_13, .int v3_14, .ref a3_15, .ref a3_16])), (a3_5, .inl (cyI, n3_5, .inl (upd g3_5 (Int32.toNatClampNeg (l4 + l5)) r_14))), (a3_8, .inl (cyI, n3_8, .inl g3_8)), (a3_9, .inl (cyI, n3_9, .inl g3_9)), (a3_12, .inl (cyI, n3_12, .inl g3_12)), (o5, .inr (5, [.ref o7, .ref a5_1, .int v5_2, .int v5_3, .int v5_4, .int v5_5, .int v5_6, .int v5_7, .int v5_8, .int v5_9])), (a5_1, .inl (cyI, 400, .inl g5_1))] := hD
                    refine lv_iinc (v := (l5 + 1)) (lv' := [(5, .int (l5 + 1)), (3, .int 0), (7, .int r_14), (6, .int (g3_5 (Int32.toNatClampNeg (l4 + l5)))), (0, .ref o3), (1, .int l1), (2, .ref o5), (4, .int l4)]) hx hb dX3_join_180 hl (k := 7) rfl rfl (by decide) rfl (fun ls hl => ?_)
                    refine lv_goto (tgt := 50) hx hb dX3_join_183 (by decide) ?_
                    exact (hWW _ _ _ _ _).mpr ((ih (0, 0, l5 + 1, upd g3_5 (Int32.toNatClampNeg (l4 + l5)) r_14) _ hf rfl _ _ _ _ rfl) rfl H locs ls hP hD hS (lv_sub hl [4, 5, 6, 1, 7, 0] rfl))
                  · replace hf := x_in c_33 hf
                    refine lv_iconst (v := 1) hx hb dX3_join_162 (by decide) ?_
                    refine lv_goto (tgt := 167) hx hb dX3_join_163 (by decide) ?_
                    refine lv_istore_n (lv' := [(3, .int 1), (7, .int r_14), (6, .int (g3_5 (Int32.toNatClampNeg (l4 + l5)))), (0, .ref o3), (1, .int l1), (2, .ref o5), (4, .int l4), (5, .int l5)]) hx hb dX3_join_167 rfl hl (by decide) rfl (fun ls hl => ?_)
                    refine lv_aload_n hx hb dX3_join_168 rfl (lv_at hl 3 rfl) ?_
                    refine va_get (D := (dC, dI)) (ci := 3) (v := .ref a3_5) (C := RX3) (T := TX3) (N := 17) hx hb hts i_X3_join_X3 hown hK hP 2 rfl rfl 5 (by decide) k_2 (fun _ h9 => h9) rfl dX3_join_169 ?_
                    refine lv_iload hx hb dX3_join_172 (lv_at hl 6 rfl) ?_
                    refine lv_iload hx hb dX3_join_174 (lv_at hl 7 rfl) ?_
                    refine lv_iadd hx hb dX3_join_176 ?_
                    refine lv_iload hx hb dX3_join_177 (lv_at hl 1 rfl) ?_
                    obtain ⟨g_35, hf⟩ := x_gu hf
                    refine va_iast hx hb hK hP hD hS 3 0 rfl rfl (x_gdin g_35) dX3_join_179 (fun H locs hP hD hS => ?_)
                    have hP : va_P (dC, dI) vwCl [(o7, .inr (7, [.ref a7_0, .ref a7_1, .int v7_2])), (a7_0, .inl (cyI, 200, .inl g7_0)), (o3, .inr (3, [.ref o7, .ref o1, .int v3_2, .int v3_3, .int v3_4, .ref a3_5, .ref a3_6, .ref a3_7, .ref a3_8, .ref a3_9, .ref a3_10, .ref a3_11, .ref a3_12, .int v3_13, .int v3_14, .ref a3_15, .ref a3_16])), (a3_5, .inl (cyI, n3_5, .inl (upd g3_5 (Int32.toNatClampNeg (l4 + l5)) r_14))), (a3_8, .inl (cyI, n3_8, .inl g3_8)), (a3_9, .inl (cyI, n3_9, .inl g3_9)), (a3_12, .inl (cyI, n3_12, .inl g3_12)), (o5, .inr (5, [.ref o7, .ref a5_1, .int v5_2, .int v5_3, .int v5_4, .int v5_5, .int v5_6, .int v5_7, .int v5_8, .int v5_9])), (a5_1, .inl (cyI, 400, .inl g5_1))] H := hP
                    have hD : va_D A [(o7, .inr (7, [.ref a7_0, .ref a7_1, .int v7_2])), (a7_0, .inl (cyI, 200, .inl g7_0)), (o3, .inr (3, [.ref o7, .ref o1, .int v3_2, .int v3_3, .int v3_4, .ref a3_5, .ref a3_6, .ref a3_7, .ref a3_8, .ref a3_9, .ref a3_10, .ref a3_11, .ref a3_12, .int v3_13, .int v3_14, .ref a3_15, .ref a3_16])), (a3_5, .inl (cyI, n3_5, .inl (upd g3_5 (Int32.toNatClampNeg (l4 + l5)) r_14))), (a3_8, .inl (cyI, n3_8, .inl g3_8)), (a3_9, .inl (cyI, n3_9, .inl g3_9)), (a3_12, .inl (cyI, n3_12, .inl g3_12)), (o5, .inr (5, [.ref o7, .ref a5_1, .int v5_2, .int v5_3, .int v5_4, .int v5_5, .int v5_6, .int v5_7, .int v5_8, .int v5_9])), (a5_1, .inl (cyI, 400, .inl g5_1))] := hD
                    refine lv_iinc (v := (l5 + 1)) (lv' := [(5, .int (l5 + 1)), (3, .int 1), (7, .int r_14), (6, .int (g3_5 (Int32.toNatClampNeg (l4 + l5)))), (0, .ref o3), (1, .int l1), (2, .ref o5), (4, .int l4)]) hx hb dX3_join_180 hl (k := 7) rfl rfl (by decide) rfl (fun ls hl => ?_)
                    refine lv_goto (tgt := 50) hx hb dX3_join_183 (by decide) ?_
                    exact (hWW _ _ _ _ _).mpr ((ih (0, 1, l5 + 1, upd g3_5 (Int32.toNatClampNeg (l4 + l5)) r_14) _ hf rfl _ _ _ _ rfl) rfl H locs ls hP hD hS (lv_sub hl [4, 5, 6, 1, 7, 0] rfl))
              · replace hf := x_ip c_30 hf
                refine lv_iload hx hb dX3_join_140 (lv_at hl 7 rfl) ?_
                refine lv_aload_n hx hb dX3_join_142 rfl (lv_at hl 2 rfl) ?_
                refine va_get (D := (dC, dI)) (ci := 3) (v := .int v3_2) (C := RX3) (T := TX3) (N := 17) hx hb hts i_X3_join_X3 hown hK hP 2 rfl rfl 2 (by decide) k_4 (fun _ h9 => h9) rfl dX3_join_143 ?_
                refine lv_icmp_lt (tgt := 151) hx hb dX3_join_146 (by decide) (fun c_36 => ?_) (fun c_36 => ?_)
                · replace hf := x_ip c_36 hf
                  refine lv_iload_n hx hb dX3_join_151 rfl (lv_at hl 5 rfl) ?_
                  refine lv_if_ne (tgt := 162) hx hb dX3_join_152 (by decide) (fun c_37 => ?_) (fun c_37 => ?_)
                  · replace hf := x_in c_37 hf
                    refine lv_iconst (v := 1) hx hb dX3_join_162 (by decide) ?_
                    refine lv_goto (tgt := 167) hx hb dX3_join_163 (by decide) ?_
                    refine lv_istore_n (lv' := [(3, .int 1), (7, .int r_14), (6, .int (g3_5 (Int32.toNatClampNeg (l4 + l5)))), (0, .ref o3), (1, .int l1), (2, .ref o5), (4, .int l4), (5, .int l5)]) hx hb dX3_join_167 rfl hl (by decide) rfl (fun ls hl => ?_)
                    refine lv_aload_n hx hb dX3_join_168 rfl (lv_at hl 3 rfl) ?_
                    refine va_get (D := (dC, dI)) (ci := 3) (v := .ref a3_5) (C := RX3) (T := TX3) (N := 17) hx hb hts i_X3_join_X3 hown hK hP 2 rfl rfl 5 (by decide) k_2 (fun _ h9 => h9) rfl dX3_join_169 ?_
                    refine lv_iload hx hb dX3_join_172 (lv_at hl 6 rfl) ?_
                    refine lv_iload hx hb dX3_join_174 (lv_at hl 7 rfl) ?_
                    refine lv_iadd hx hb dX3_join_176 ?_
                    refine lv_iload hx hb dX3_join_177 (lv_at hl 1 rfl) ?_
                    obtain ⟨g_38, hf⟩ := x_gu hf
                    refine va_iast hx hb hK hP hD hS 3 0 rfl rfl (x_gdin g_38) dX3_join_179 (fun H locs hP hD hS => ?_)
                    have hP : va_P (dC, dI) vwCl [(o7, .inr (7, [.ref a7_0, .ref a7_1, .int v7_2])), (a7_0, .inl (cyI, 200, .inl g7_0)), (o3, .inr (3, [.ref o7, .ref o1, .int v3_2, .int v3_3, .int v3_4, .ref a3_5, .ref a3_6, .ref a3_7, .ref a3_8, .ref a3_9, .ref a3_10, .ref a3_11, .ref a3_12, .int v3_13, .int v3_14, .ref a3_15, .ref a3_16])), (a3_5, .inl (cyI, n3_5, .inl (upd g3_5 (Int32.toNatClampNeg (l4 + l5)) r_14))), (a3_8, .inl (cyI, n3_8, .inl g3_8)), (a3_9, .inl (cyI, n3_9, .inl g3_9)), (a3_12, .inl (cyI, n3_12, .inl g3_12)), (o5, .inr (5, [.ref o7, .ref a5_1, .int v5_2, .int v5_3, .int v5_4, .int v5_5, .int v5_6, .int v5_7, .int v5_8, .int v5_9])), (a5_1, .inl (cyI, 400, .inl g5_1))] H := hP
                    have hD : va_D A [(o7, .inr (7, [.ref a7_0, .ref a7_1, .int v7_2])), (a7_0, .inl (cyI, 200, .inl g7_0)), (o3, .inr (3, [.ref o7, .ref o1, .int v3_2, .int v3_3, .int v3_4, .ref a3_5, .ref a3_6, .ref a3_7, .ref a3_8, .ref a3_9, .ref a3_10, .ref a3_11, .ref a3_12, .int v3_13, .int v3_14, .ref a3_15, .ref a3_16])), (a3_5, .inl (cyI, n3_5, .inl (upd g3_5 (Int32.toNatClampNeg (l4 + l5)) r_14))), (a3_8, .inl (cyI, n3_8, .inl g3_8)), (a3_9, .inl (cyI, n3_9, .inl g3_9)), (a3_12, .inl (cyI, n3_12, .inl g3_12)), (o5, .inr (5, [.ref o7, .ref a5_1, .int v5_2, .int v5_3, .int v5_4, .int v5_5, .int v5_6, .int v5_7, .int v5_8, .int v5_9])), (a5_1, .inl (cyI, 400, .inl g5_1))] := hD
                    refine lv_iinc (v := (l5 + 1)) (lv' := [(5, .int (l5 + 1)), (3, .int 1), (7, .int r_14), (6, .int (g3_5 (Int32.toNatClampNeg (l4 + l5)))), (0, .ref o3), (1, .int l1), (2, .ref o5), (4, .int l4)]) hx hb dX3_join_180 hl (k := 7) rfl rfl (by decide) rfl (fun ls hl => ?_)
                    refine lv_goto (tgt := 50) hx hb dX3_join_183 (by decide) ?_
                    exact (hWW _ _ _ _ _).mpr ((ih (0, 1, l5 + 1, upd g3_5 (Int32.toNatClampNeg (l4 + l5)) r_14) _ hf rfl _ _ _ _ rfl) rfl H locs ls hP hD hS (lv_sub hl [4, 5, 6, 1, 7, 0] rfl))
                  · replace hf := x_ip c_37 hf
                    refine lv_iload hx hb dX3_join_155 (lv_at hl 0 rfl) ?_
                    refine lv_iload hx hb dX3_join_157 (lv_at hl 1 rfl) ?_
                    refine lv_icmp_eq (tgt := 166) hx hb dX3_join_159 (by decide) (fun c_39 => ?_) (fun c_39 => ?_)
                    · replace hf := x_ip c_39 hf
                      refine lv_iconst (v := 0) hx hb dX3_join_166 (by decide) ?_
                      refine lv_istore_n (lv' := [(3, .int 0), (7, .int r_14), (6, .int (g3_5 (Int32.toNatClampNeg (l4 + l5)))), (0, .ref o3), (1, .int l1), (2, .ref o5), (4, .int l4), (5, .int l5)]) hx hb dX3_join_167 rfl hl (by decide) rfl (fun ls hl => ?_)
                      refine lv_aload_n hx hb dX3_join_168 rfl (lv_at hl 3 rfl) ?_
                      refine va_get (D := (dC, dI)) (ci := 3) (v := .ref a3_5) (C := RX3) (T := TX3) (N := 17) hx hb hts i_X3_join_X3 hown hK hP 2 rfl rfl 5 (by decide) k_2 (fun _ h9 => h9) rfl dX3_join_169 ?_
                      refine lv_iload hx hb dX3_join_172 (lv_at hl 6 rfl) ?_
                      refine lv_iload hx hb dX3_join_174 (lv_at hl 7 rfl) ?_
                      refine lv_iadd hx hb dX3_join_176 ?_
                      refine lv_iload hx hb dX3_join_177 (lv_at hl 1 rfl) ?_
                      obtain ⟨g_40, hf⟩ := x_gu hf
                      refine va_iast hx hb hK hP hD hS 3 0 rfl rfl (x_gdin g_40) dX3_join_179 (fun H locs hP hD hS => ?_)
                      have hP : va_P (dC, dI) vwCl [(o7, .inr (7, [.ref a7_0, .ref a7_1, .int v7_2])), (a7_0, .inl (cyI, 200, .inl g7_0)), (o3, .inr (3, [.ref o7, .ref o1, .int v3_2, .int v3_3, .int v3_4, .ref a3_5, .ref a3_6, .ref a3_7, .ref a3_8, .ref a3_9, .ref a3_10, .ref a3_11, .ref a3_12, .int v3_13, .int v3_14, .ref a3_15, .ref a3_16])), (a3_5, .inl (cyI, n3_5, .inl (upd g3_5 (Int32.toNatClampNeg (l4 + l5)) r_14))), (a3_8, .inl (cyI, n3_8, .inl g3_8)), (a3_9, .inl (cyI, n3_9, .inl g3_9)), (a3_12, .inl (cyI, n3_12, .inl g3_12)), (o5, .inr (5, [.ref o7, .ref a5_1, .int v5_2, .int v5_3, .int v5_4, .int v5_5, .int v5_6, .int v5_7, .int v5_8, .int v5_9])), (a5_1, .inl (cyI, 400, .inl g5_1))] H := hP
                      have hD : va_D A [(o7, .inr (7, [.ref a7_0, .ref a7_1, .int v7_2])), (a7_0, .inl (cyI, 200, .inl g7_0)), (o3, .inr (3, [.ref o7, .ref o1, .int v3_2, .int v3_3, .int v3_4, .ref a3_5, .ref a3_6, .ref a3_7, .ref a3_8, .ref a3_9, .ref a3_10, .ref a3_11, .ref a3_12, .int v3_13, .int v3_14, .ref a3_15, .ref a3_16])), (a3_5, .inl (cyI, n3_5, .inl (upd g3_5 (Int32.toNatClampNeg (l4 + l5)) r_14))), (a3_8, .inl (cyI, n3_8, .inl g3_8)), (a3_9, .inl (cyI, n3_9, .inl g3_9)), (a3_12, .inl (cyI, n3_12, .inl g3_12)), (o5, .inr (5, [.ref o7, .ref a5_1, .int v5_2, .int v5_3, .int v5_4, .int v5_5, .int v5_6, .int v5_7, .int v5_8, .int v5_9])), (a5_1, .inl (cyI, 400, .inl g5_1))] := hD
                      refine lv_iinc (v := (l5 + 1)) (lv' := [(5, .int (l5 + 1)), (3, .int 0), (7, .int r_14), (6, .int (g3_5 (Int32.toNatClampNeg (l4 + l5)))), (0, .ref o3), (1, .int l1), (2, .ref o5), (4, .int l4)]) hx hb dX3_join_180 hl (k := 7) rfl rfl (by decide) rfl (fun ls hl => ?_)
                      refine lv_goto (tgt := 50) hx hb dX3_join_183 (by decide) ?_
                      exact (hWW _ _ _ _ _).mpr ((ih (0, 0, l5 + 1, upd g3_5 (Int32.toNatClampNeg (l4 + l5)) r_14) _ hf rfl _ _ _ _ rfl) rfl H locs ls hP hD hS (lv_sub hl [4, 5, 6, 1, 7, 0] rfl))
                    · replace hf := x_in c_39 hf
                      refine lv_iconst (v := 1) hx hb dX3_join_162 (by decide) ?_
                      refine lv_goto (tgt := 167) hx hb dX3_join_163 (by decide) ?_
                      refine lv_istore_n (lv' := [(3, .int 1), (7, .int r_14), (6, .int (g3_5 (Int32.toNatClampNeg (l4 + l5)))), (0, .ref o3), (1, .int l1), (2, .ref o5), (4, .int l4), (5, .int l5)]) hx hb dX3_join_167 rfl hl (by decide) rfl (fun ls hl => ?_)
                      refine lv_aload_n hx hb dX3_join_168 rfl (lv_at hl 3 rfl) ?_
                      refine va_get (D := (dC, dI)) (ci := 3) (v := .ref a3_5) (C := RX3) (T := TX3) (N := 17) hx hb hts i_X3_join_X3 hown hK hP 2 rfl rfl 5 (by decide) k_2 (fun _ h9 => h9) rfl dX3_join_169 ?_
                      refine lv_iload hx hb dX3_join_172 (lv_at hl 6 rfl) ?_
                      refine lv_iload hx hb dX3_join_174 (lv_at hl 7 rfl) ?_
                      refine lv_iadd hx hb dX3_join_176 ?_
                      refine lv_iload hx hb dX3_join_177 (lv_at hl 1 rfl) ?_
                      obtain ⟨g_41, hf⟩ := x_gu hf
                      refine va_iast hx hb hK hP hD hS 3 0 rfl rfl (x_gdin g_41) dX3_join_179 (fun H locs hP hD hS => ?_)
                      have hP : va_P (dC, dI) vwCl [(o7, .inr (7, [.ref a7_0, .ref a7_1, .int v7_2])), (a7_0, .inl (cyI, 200, .inl g7_0)), (o3, .inr (3, [.ref o7, .ref o1, .int v3_2, .int v3_3, .int v3_4, .ref a3_5, .ref a3_6, .ref a3_7, .ref a3_8, .ref a3_9, .ref a3_10, .ref a3_11, .ref a3_12, .int v3_13, .int v3_14, .ref a3_15, .ref a3_16])), (a3_5, .inl (cyI, n3_5, .inl (upd g3_5 (Int32.toNatClampNeg (l4 + l5)) r_14))), (a3_8, .inl (cyI, n3_8, .inl g3_8)), (a3_9, .inl (cyI, n3_9, .inl g3_9)), (a3_12, .inl (cyI, n3_12, .inl g3_12)), (o5, .inr (5, [.ref o7, .ref a5_1, .int v5_2, .int v5_3, .int v5_4, .int v5_5, .int v5_6, .int v5_7, .int v5_8, .int v5_9])), (a5_1, .inl (cyI, 400, .inl g5_1))] H := hP
                      have hD : va_D A [(o7, .inr (7, [.ref a7_0, .ref a7_1, .int v7_2])), (a7_0, .inl (cyI, 200, .inl g7_0)), (o3, .inr (3, [.ref o7, .ref o1, .int v3_2, .int v3_3, .int v3_4, .ref a3_5, .ref a3_6, .ref a3_7, .ref a3_8, .ref a3_9, .ref a3_10, .ref a3_11, .ref a3_12, .int v3_13, .int v3_14, .ref a3_15, .ref a3_16])), (a3_5, .inl (cyI, n3_5, .inl (upd g3_5 (Int32.toNatClampNeg (l4 + l5)) r_14))), (a3_8, .inl (cyI, n3_8, .inl g3_8)), (a3_9, .inl (cyI, n3_9, .inl g3_9)), (a3_12, .inl (cyI, n3_12, .inl g3_12)), (o5, .inr (5, [.ref o7, .ref a5_1, .int v5_2, .int v5_3, .int v5_4, .int v5_5, .int v5_6, .int v5_7, .int v5_8, .int v5_9])), (a5_1, .inl (cyI, 400, .inl g5_1))] := hD
                      refine lv_iinc (v := (l5 + 1)) (lv' := [(5, .int (l5 + 1)), (3, .int 1), (7, .int r_14), (6, .int (g3_5 (Int32.toNatClampNeg (l4 + l5)))), (0, .ref o3), (1, .int l1), (2, .ref o5), (4, .int l4)]) hx hb dX3_join_180 hl (k := 7) rfl rfl (by decide) rfl (fun ls hl => ?_)
                      refine lv_goto (tgt := 50) hx hb dX3_join_183 (by decide) ?_
                      exact (hWW _ _ _ _ _).mpr ((ih (0, 1, l5 + 1, upd g3_5 (Int32.toNatClampNeg (l4 + l5)) r_14) _ hf rfl _ _ _ _ rfl) rfl H locs ls hP hD hS (lv_sub hl [4, 5, 6, 1, 7, 0] rfl))
                · replace hf := x_in c_36 hf
                  refine lv_iconst (v := 0) hx hb dX3_join_149 (by decide) ?_
                  obtain rfl := Option.some.inj hf
                  have hP9 := hP.sub (ws' := [(o7, .inr (7, [.ref a7_0, .ref a7_1, .int v7_2])), (a7_0, .inl (cyI, 200, .inl g7_0)), (o3, .inr (3, [.ref o7, .ref o1, .int v3_2, .int v3_3, .int v3_4, .ref a3_5, .ref a3_6, .ref a3_7, .ref a3_8, .ref a3_9, .ref a3_10, .ref a3_11, .ref a3_12, .int v3_13, .int v3_14, .ref a3_15, .ref a3_16])), (a3_5, .inl (cyI, n3_5, .inl g3_5)), (a3_8, .inl (cyI, n3_8, .inl g3_8)), (a3_9, .inl (cyI, n3_9, .inl g3_9)), (a3_12, .inl (cyI, n3_12, .inl g3_12)), (o5, .inr (5, [.ref o7, .ref a5_1, .int v5_2, .int v5_3, .int v5_4, .int v5_5, .int v5_6, .int v5_7, .int v5_8, .int v5_9])), (a5_1, .inl (cyI, 400, .inl g5_1))]) [0, 1, 2, 3, 4, 5, 6, 7, 8] rfl
                  have hD9 := hD.sub (ws' := [(o7, .inr (7, [.ref a7_0, .ref a7_1, .int v7_2])), (a7_0, .inl (cyI, 200, .inl g7_0)), (o3, .inr (3, [.ref o7, .ref o1, .int v3_2, .int v3_3, .int v3_4, .ref a3_5, .ref a3_6, .ref a3_7, .ref a3_8, .ref a3_9, .ref a3_10, .ref a3_11, .ref a3_12, .int v3_13, .int v3_14, .ref a3_15, .ref a3_16])), (a3_5, .inl (cyI, n3_5, .inl g3_5)), (a3_8, .inl (cyI, n3_8, .inl g3_8)), (a3_9, .inl (cyI, n3_9, .inl g3_9)), (a3_12, .inl (cyI, n3_12, .inl g3_12)), (o5, .inr (5, [.ref o7, .ref a5_1, .int v5_2, .int v5_3, .int v5_4, .int v5_5, .int v5_6, .int v5_7, .int v5_8, .int v5_9])), (a5_1, .inl (cyI, 400, .inl g5_1))]) [0, 1, 2, 3, 4, 5, 6, 7, 8] (by decide) rfl
                  exact W.zret (ty := .boolean) hx hb hr rfl (fun t ht hW => ⟨⟨_, (), rfl, ⟨rfl, rfl⟩, by rw [ht]; exact hP9, va_K.moved hW.alike hK, hD9⟩, hS.F ht⟩) hS.2.2 dX3_join_150
            · replace hf := x_ip c_29 hf
              refine lv_iconst (v := 0) hx hb dX3_join_132 (by decide) ?_
              refine lv_istore (lv' := [(7, .int 0), (6, .int (g3_5 (Int32.toNatClampNeg (l4 + l5)))), (0, .ref o3), (1, .int l1), (2, .ref o5), (3, .int l3), (4, .int l4), (5, .int l5)]) hx hb dX3_join_133 hl (by decide) rfl (fun ls hl => ?_)
              refine lv_iload hx hb dX3_join_135 (lv_at hl 0 rfl) ?_
              refine lv_if_ne (tgt := 151) hx hb dX3_join_137 (by decide) (fun c_42 => absurd (by decide) c_42) (fun _ => ?_)
              refine lv_iload hx hb dX3_join_140 (lv_at hl 7 rfl) ?_
              refine lv_aload_n hx hb dX3_join_142 rfl (lv_at hl 2 rfl) ?_
              refine va_get (D := (dC, dI)) (ci := 3) (v := .int v3_2) (C := RX3) (T := TX3) (N := 17) hx hb hts i_X3_join_X3 hown hK hP 2 rfl rfl 2 (by decide) k_4 (fun _ h9 => h9) rfl dX3_join_143 ?_
              refine lv_icmp_lt (tgt := 151) hx hb dX3_join_146 (by decide) (fun c_43 => ?_) (fun c_43 => ?_)
              · replace hf := x_ip c_43 hf
                refine lv_iload_n hx hb dX3_join_151 rfl (lv_at hl 5 rfl) ?_
                refine lv_if_ne (tgt := 162) hx hb dX3_join_152 (by decide) (fun c_44 => ?_) (fun c_44 => ?_)
                · replace hf := x_in c_44 hf
                  refine lv_iconst (v := 1) hx hb dX3_join_162 (by decide) ?_
                  refine lv_goto (tgt := 167) hx hb dX3_join_163 (by decide) ?_
                  refine lv_istore_n (lv' := [(3, .int 1), (7, .int 0), (6, .int (g3_5 (Int32.toNatClampNeg (l4 + l5)))), (0, .ref o3), (1, .int l1), (2, .ref o5), (4, .int l4), (5, .int l5)]) hx hb dX3_join_167 rfl hl (by decide) rfl (fun ls hl => ?_)
                  refine lv_aload_n hx hb dX3_join_168 rfl (lv_at hl 3 rfl) ?_
                  refine va_get (D := (dC, dI)) (ci := 3) (v := .ref a3_5) (C := RX3) (T := TX3) (N := 17) hx hb hts i_X3_join_X3 hown hK hP 2 rfl rfl 5 (by decide) k_2 (fun _ h9 => h9) rfl dX3_join_169 ?_
                  refine lv_iload hx hb dX3_join_172 (lv_at hl 6 rfl) ?_
                  refine lv_iload hx hb dX3_join_174 (lv_at hl 7 rfl) ?_
                  refine lv_iadd hx hb dX3_join_176 ?_
                  refine lv_iload hx hb dX3_join_177 (lv_at hl 1 rfl) ?_
                  obtain ⟨g_45, hf⟩ := x_gu hf
                  refine va_iast hx hb hK hP hD hS 3 0 rfl rfl (x_gdin g_45) dX3_join_179 (fun H locs hP hD hS => ?_)
                  have hP : va_P (dC, dI) vwCl [(o7, .inr (7, [.ref a7_0, .ref a7_1, .int v7_2])), (a7_0, .inl (cyI, 200, .inl g7_0)), (o3, .inr (3, [.ref o7, .ref o1, .int v3_2, .int v3_3, .int v3_4, .ref a3_5, .ref a3_6, .ref a3_7, .ref a3_8, .ref a3_9, .ref a3_10, .ref a3_11, .ref a3_12, .int v3_13, .int v3_14, .ref a3_15, .ref a3_16])), (a3_5, .inl (cyI, n3_5, .inl (upd g3_5 (Int32.toNatClampNeg (l4 + l5)) 0))), (a3_8, .inl (cyI, n3_8, .inl g3_8)), (a3_9, .inl (cyI, n3_9, .inl g3_9)), (a3_12, .inl (cyI, n3_12, .inl g3_12)), (o5, .inr (5, [.ref o7, .ref a5_1, .int v5_2, .int v5_3, .int v5_4, .int v5_5, .int v5_6, .int v5_7, .int v5_8, .int v5_9])), (a5_1, .inl (cyI, 400, .inl g5_1))] H := hP
                  have hD : va_D A [(o7, .inr (7, [.ref a7_0, .ref a7_1, .int v7_2])), (a7_0, .inl (cyI, 200, .inl g7_0)), (o3, .inr (3, [.ref o7, .ref o1, .int v3_2, .int v3_3, .int v3_4, .ref a3_5, .ref a3_6, .ref a3_7, .ref a3_8, .ref a3_9, .ref a3_10, .ref a3_11, .ref a3_12, .int v3_13, .int v3_14, .ref a3_15, .ref a3_16])), (a3_5, .inl (cyI, n3_5, .inl (upd g3_5 (Int32.toNatClampNeg (l4 + l5)) 0))), (a3_8, .inl (cyI, n3_8, .inl g3_8)), (a3_9, .inl (cyI, n3_9, .inl g3_9)), (a3_12, .inl (cyI, n3_12, .inl g3_12)), (o5, .inr (5, [.ref o7, .ref a5_1, .int v5_2, .int v5_3, .int v5_4, .int v5_5, .int v5_6, .int v5_7, .int v5_8, .int v5_9])), (a5_1, .inl (cyI, 400, .inl g5_1))] := hD
                  refine lv_iinc (v := (l5 + 1)) (lv' := [(5, .int (l5 + 1)), (3, .int 1), (7, .int 0), (6, .int (g3_5 (Int32.toNatClampNeg (l4 + l5)))), (0, .ref o3), (1, .int l1), (2, .ref o5), (4, .int l4)]) hx hb dX3_join_180 hl (k := 7) rfl rfl (by decide) rfl (fun ls hl => ?_)
                  refine lv_goto (tgt := 50) hx hb dX3_join_183 (by decide) ?_
                  exact (hWW _ _ _ _ _).mpr ((ih (0, 1, l5 + 1, upd g3_5 (Int32.toNatClampNeg (l4 + l5)) 0) _ hf rfl _ _ _ _ rfl) rfl H locs ls hP hD hS (lv_sub hl [4, 5, 6, 1, 7, 0] rfl))
                · replace hf := x_ip c_44 hf
                  refine lv_iload hx hb dX3_join_155 (lv_at hl 0 rfl) ?_
                  refine lv_iload hx hb dX3_join_157 (lv_at hl 1 rfl) ?_
                  refine lv_icmp_eq (tgt := 166) hx hb dX3_join_159 (by decide) (fun c_46 => ?_) (fun c_46 => ?_)
                  · replace hf := x_ip c_46 hf
                    refine lv_iconst (v := 0) hx hb dX3_join_166 (by decide) ?_
                    refine lv_istore_n (lv' := [(3, .int 0), (7, .int 0), (6, .int (g3_5 (Int32.toNatClampNeg (l4 + l5)))), (0, .ref o3), (1, .int l1), (2, .ref o5), (4, .int l4), (5, .int l5)]) hx hb dX3_join_167 rfl hl (by decide) rfl (fun ls hl => ?_)
                    refine lv_aload_n hx hb dX3_join_168 rfl (lv_at hl 3 rfl) ?_
                    refine va_get (D := (dC, dI)) (ci := 3) (v := .ref a3_5) (C := RX3) (T := TX3) (N := 17) hx hb hts i_X3_join_X3 hown hK hP 2 rfl rfl 5 (by decide) k_2 (fun _ h9 => h9) rfl dX3_join_169 ?_
                    refine lv_iload hx hb dX3_join_172 (lv_at hl 6 rfl) ?_
                    refine lv_iload hx hb dX3_join_174 (lv_at hl 7 rfl) ?_
                    refine lv_iadd hx hb dX3_join_176 ?_
                    refine lv_iload hx hb dX3_join_177 (lv_at hl 1 rfl) ?_
                    obtain ⟨g_47, hf⟩ := x_gu hf
                    refine va_iast hx hb hK hP hD hS 3 0 rfl rfl (x_gdin g_47) dX3_join_179 (fun H locs hP hD hS => ?_)
                    have hP : va_P (dC, dI) vwCl [(o7, .inr (7, [.ref a7_0, .ref a7_1, .int v7_2])), (a7_0, .inl (cyI, 200, .inl g7_0)), (o3, .inr (3, [.ref o7, .ref o1, .int v3_2, .int v3_3, .int v3_4, .ref a3_5, .ref a3_6, .ref a3_7, .ref a3_8, .ref a3_9, .ref a3_10, .ref a3_11, .ref a3_12, .int v3_13, .int v3_14, .ref a3_15, .ref a3_16])), (a3_5, .inl (cyI, n3_5, .inl (upd g3_5 (Int32.toNatClampNeg (l4 + l5)) 0))), (a3_8, .inl (cyI, n3_8, .inl g3_8)), (a3_9, .inl (cyI, n3_9, .inl g3_9)), (a3_12, .inl (cyI, n3_12, .inl g3_12)), (o5, .inr (5, [.ref o7, .ref a5_1, .int v5_2, .int v5_3, .int v5_4, .int v5_5, .int v5_6, .int v5_7, .int v5_8, .int v5_9])), (a5_1, .inl (cyI, 400, .inl g5_1))] H := hP
                    have hD : va_D A [(o7, .inr (7, [.ref a7_0, .ref a7_1, .int v7_2])), (a7_0, .inl (cyI, 200, .inl g7_0)), (o3, .inr (3, [.ref o7, .ref o1, .int v3_2, .int v3_3, .int v3_4, .ref a3_5, .ref a3_6, .ref a3_7, .ref a3_8, .ref a3_9, .ref a3_10, .ref a3_11, .ref a3_12, .int v3_13, .int v3_14, .ref a3_15, .ref a3_16])), (a3_5, .inl (cyI, n3_5, .inl (upd g3_5 (Int32.toNatClampNeg (l4 + l5)) 0))), (a3_8, .inl (cyI, n3_8, .inl g3_8)), (a3_9, .inl (cyI, n3_9, .inl g3_9)), (a3_12, .inl (cyI, n3_12, .inl g3_12)), (o5, .inr (5, [.ref o7, .ref a5_1, .int v5_2, .int v5_3, .int v5_4, .int v5_5, .int v5_6, .int v5_7, .int v5_8, .int v5_9])), (a5_1, .inl (cyI, 400, .inl g5_1))] := hD
                    refine lv_iinc (v := (l5 + 1)) (lv' := [(5, .int (l5 + 1)), (3, .int 0), (7, .int 0), (6, .int (g3_5 (Int32.toNatClampNeg (l4 + l5)))), (0, .ref o3), (1, .int l1), (2, .ref o5), (4, .int l4)]) hx hb dX3_join_180 hl (k := 7) rfl rfl (by decide) rfl (fun ls hl => ?_)
                    refine lv_goto (tgt := 50) hx hb dX3_join_183 (by decide) ?_
                    exact (hWW _ _ _ _ _).mpr ((ih (0, 0, l5 + 1, upd g3_5 (Int32.toNatClampNeg (l4 + l5)) 0) _ hf rfl _ _ _ _ rfl) rfl H locs ls hP hD hS (lv_sub hl [4, 5, 6, 1, 7, 0] rfl))
                  · replace hf := x_in c_46 hf
                    refine lv_iconst (v := 1) hx hb dX3_join_162 (by decide) ?_
                    refine lv_goto (tgt := 167) hx hb dX3_join_163 (by decide) ?_
                    refine lv_istore_n (lv' := [(3, .int 1), (7, .int 0), (6, .int (g3_5 (Int32.toNatClampNeg (l4 + l5)))), (0, .ref o3), (1, .int l1), (2, .ref o5), (4, .int l4), (5, .int l5)]) hx hb dX3_join_167 rfl hl (by decide) rfl (fun ls hl => ?_)
                    refine lv_aload_n hx hb dX3_join_168 rfl (lv_at hl 3 rfl) ?_
                    refine va_get (D := (dC, dI)) (ci := 3) (v := .ref a3_5) (C := RX3) (T := TX3) (N := 17) hx hb hts i_X3_join_X3 hown hK hP 2 rfl rfl 5 (by decide) k_2 (fun _ h9 => h9) rfl dX3_join_169 ?_
                    refine lv_iload hx hb dX3_join_172 (lv_at hl 6 rfl) ?_
                    refine lv_iload hx hb dX3_join_174 (lv_at hl 7 rfl) ?_
                    refine lv_iadd hx hb dX3_join_176 ?_
                    refine lv_iload hx hb dX3_join_177 (lv_at hl 1 rfl) ?_
                    obtain ⟨g_48, hf⟩ := x_gu hf
                    refine va_iast hx hb hK hP hD hS 3 0 rfl rfl (x_gdin g_48) dX3_join_179 (fun H locs hP hD hS => ?_)
                    have hP : va_P (dC, dI) vwCl [(o7, .inr (7, [.ref a7_0, .ref a7_1, .int v7_2])), (a7_0, .inl (cyI, 200, .inl g7_0)), (o3, .inr (3, [.ref o7, .ref o1, .int v3_2, .int v3_3, .int v3_4, .ref a3_5, .ref a3_6, .ref a3_7, .ref a3_8, .ref a3_9, .ref a3_10, .ref a3_11, .ref a3_12, .int v3_13, .int v3_14, .ref a3_15, .ref a3_16])), (a3_5, .inl (cyI, n3_5, .inl (upd g3_5 (Int32.toNatClampNeg (l4 + l5)) 0))), (a3_8, .inl (cyI, n3_8, .inl g3_8)), (a3_9, .inl (cyI, n3_9, .inl g3_9)), (a3_12, .inl (cyI, n3_12, .inl g3_12)), (o5, .inr (5, [.ref o7, .ref a5_1, .int v5_2, .int v5_3, .int v5_4, .int v5_5, .int v5_6, .int v5_7, .int v5_8, .int v5_9])), (a5_1, .inl (cyI, 400, .inl g5_1))] H := hP
                    have hD : va_D A [(o7, .inr (7, [.ref a7_0, .ref a7_1, .int v7_2])), (a7_0, .inl (cyI, 200, .inl g7_0)), (o3, .inr (3, [.ref o7, .ref o1, .int v3_2, .int v3_3, .int v3_4, .ref a3_5, .ref a3_6, .ref a3_7, .ref a3_8, .ref a3_9, .ref a3_10, .ref a3_11, .ref a3_12, .int v3_13, .int v3_14, .ref a3_15, .ref a3_16])), (a3_5, .inl (cyI, n3_5, .inl (upd g3_5 (Int32.toNatClampNeg (l4 + l5)) 0))), (a3_8, .inl (cyI, n3_8, .inl g3_8)), (a3_9, .inl (cyI, n3_9, .inl g3_9)), (a3_12, .inl (cyI, n3_12, .inl g3_12)), (o5, .inr (5, [.ref o7, .ref a5_1, .int v5_2, .int v5_3, .int v5_4, .int v5_5, .int v5_6, .int v5_7, .int v5_8, .int v5_9])), (a5_1, .inl (cyI, 400, .inl g5_1))] := hD
                    refine lv_iinc (v := (l5 + 1)) (lv' := [(5, .int (l5 + 1)), (3, .int 1), (7, .int 0), (6, .int (g3_5 (Int32.toNatClampNeg (l4 + l5)))), (0, .ref o3), (1, .int l1), (2, .ref o5), (4, .int l4)]) hx hb dX3_join_180 hl (k := 7) rfl rfl (by decide) rfl (fun ls hl => ?_)
                    refine lv_goto (tgt := 50) hx hb dX3_join_183 (by decide) ?_
                    exact (hWW _ _ _ _ _).mpr ((ih (0, 1, l5 + 1, upd g3_5 (Int32.toNatClampNeg (l4 + l5)) 0) _ hf rfl _ _ _ _ rfl) rfl H locs ls hP hD hS (lv_sub hl [4, 5, 6, 1, 7, 0] rfl))
              · replace hf := x_in c_43 hf
                refine lv_iconst (v := 0) hx hb dX3_join_149 (by decide) ?_
                obtain rfl := Option.some.inj hf
                have hP9 := hP.sub (ws' := [(o7, .inr (7, [.ref a7_0, .ref a7_1, .int v7_2])), (a7_0, .inl (cyI, 200, .inl g7_0)), (o3, .inr (3, [.ref o7, .ref o1, .int v3_2, .int v3_3, .int v3_4, .ref a3_5, .ref a3_6, .ref a3_7, .ref a3_8, .ref a3_9, .ref a3_10, .ref a3_11, .ref a3_12, .int v3_13, .int v3_14, .ref a3_15, .ref a3_16])), (a3_5, .inl (cyI, n3_5, .inl g3_5)), (a3_8, .inl (cyI, n3_8, .inl g3_8)), (a3_9, .inl (cyI, n3_9, .inl g3_9)), (a3_12, .inl (cyI, n3_12, .inl g3_12)), (o5, .inr (5, [.ref o7, .ref a5_1, .int v5_2, .int v5_3, .int v5_4, .int v5_5, .int v5_6, .int v5_7, .int v5_8, .int v5_9])), (a5_1, .inl (cyI, 400, .inl g5_1))]) [0, 1, 2, 3, 4, 5, 6, 7, 8] rfl
                have hD9 := hD.sub (ws' := [(o7, .inr (7, [.ref a7_0, .ref a7_1, .int v7_2])), (a7_0, .inl (cyI, 200, .inl g7_0)), (o3, .inr (3, [.ref o7, .ref o1, .int v3_2, .int v3_3, .int v3_4, .ref a3_5, .ref a3_6, .ref a3_7, .ref a3_8, .ref a3_9, .ref a3_10, .ref a3_11, .ref a3_12, .int v3_13, .int v3_14, .ref a3_15, .ref a3_16])), (a3_5, .inl (cyI, n3_5, .inl g3_5)), (a3_8, .inl (cyI, n3_8, .inl g3_8)), (a3_9, .inl (cyI, n3_9, .inl g3_9)), (a3_12, .inl (cyI, n3_12, .inl g3_12)), (o5, .inr (5, [.ref o7, .ref a5_1, .int v5_2, .int v5_3, .int v5_4, .int v5_5, .int v5_6, .int v5_7, .int v5_8, .int v5_9])), (a5_1, .inl (cyI, 400, .inl g5_1))]) [0, 1, 2, 3, 4, 5, 6, 7, 8] (by decide) rfl
                exact W.zret (ty := .boolean) hx hb hr rfl (fun t ht hW => ⟨⟨_, (), rfl, ⟨rfl, rfl⟩, by rw [ht]; exact hP9, va_K.moved hW.alike hK, hD9⟩, hS.F ht⟩) hS.2.2 dX3_join_150
        · replace hf := x_ip c_12 hf
          refine lv_iload hx hb dX3_join_83 (lv_at hl 0 rfl) ?_
          refine lv_bipush (v := 7) hx hb dX3_join_85 (by decide) ?_
          refine lv_icmp_eq (tgt := 93) hx hb dX3_join_87 (by decide) (fun c_49 => ?_) (fun c_49 => ?_)
          · replace hf := x_ip c_49 hf
            refine lv_aload_n hx hb dX3_join_93 rfl (lv_at hl 1 rfl) ?_
            refine va_get (D := (dC, dI)) (ci := 3) (v := .ref o7) (C := RX3) (T := TX3) (N := 17) hx hb hts i_X3_join_X3 hown hK hP 2 rfl rfl 0 (by decide) k_3 (fun _ h9 => h9) rfl dX3_join_94 ?_
            refine lv_iload hx hb dX3_join_97 (lv_at hl 0 rfl) ?_
            refine lv_aload_n hx hb dX3_join_99 rfl (lv_at hl 3 rfl) ?_
            refine va_getN (D := (dC, dI)) (ci := 5) (v := .ref a5_1) (C := RX5) (T := TX5) (N := 10) hx hb hts i_X3_join_X5 hown hK hP 7 rfl rfl 1 (by decide) ((hN.1 ("FlowJudge$Frames", 86, "FlowJudge$Places", "cells", "[I") (List.mem_of_getElem? (i := 33) rfl)).use rfl) (fun _ h9 => h9) rfl dX3_join_100 ?_
            refine lv_iload hx hb dX3_join_103 (lv_at hl 6 rfl) ?_
            obtain ⟨g_50, hf⟩ := x_gu hf
            refine va_iald hx hb hK hP 8 0 rfl rfl (x_gdin g_50) dX3_join_105 ?_
            obtain ⟨r_51, h_51, hf⟩ := x_bi hf
            have hPc := hP.sub (ws' := [(o7, .inr (7, [.ref a7_0, .ref a7_1, .int v7_2])), (a7_0, .inl (cyI, 200, .inl g7_0))]) [0, 1] rfl
            refine va_calli (va_runV (As := [.int (g3_5 (Int32.toNatClampNeg (l4 + l5))), .int (g5_1 (Int32.toNatClampNeg l5))]) (rest := []) ⟨hx, hb, hml, hown, hts⟩ (c_X7_meet l dC dI cyI cyZ cyJ H.size o7 a7_0 a7_1 v7_2 g7_0 (g3_5 (Int32.toNatClampNeg (l4 + l5))) (g5_1 (Int32.toNatClampNeg l5)) r_51 h_51) (cwV 2 hts gX3_join_X7_meet rfl rfl rfl (by decide +kernel) ⟨Nat.le_of_ble_eq_true rfl, Nat.le_of_ble_eq_true rfl⟩) (x_pV hN hK hPc (ci := 7) (q0 := 0) rfl rfl) rfl rfl hl.1 rfl (lv_room (Nat.le_of_ble_eq_true rfl)) dX3_join_106 ⟨Nat.le_of_ble_eq_true rfl, Nat.le_of_ble_eq_true rfl⟩) hS x_nA (x_nf hA hS) (fun q_51 u t H1 locs ht hvm hw hB hz1 hk1 hS => ?_)
            have hP := x_kp hP hk1
            clear ht hvm hB hz1 hk1 t u hPc
            generalize H1 = H at hP hS ⊢
            obtain rfl := hw.symm
            refine lv_istore (lv' := [(7, .int r_51), (6, .int (g3_5 (Int32.toNatClampNeg (l4 + l5)))), (0, .ref o3), (1, .int l1), (2, .ref o5), (3, .int l3), (4, .int l4), (5, .int l5)]) hx hb dX3_join_109 hl (by decide) rfl (fun ls hl => ?_)
            refine lv_iload hx hb dX3_join_111 (lv_at hl 0 rfl) ?_
            refine lv_bipush (v := 7) hx hb dX3_join_113 (by decide) ?_
            refine lv_icmp_ne (tgt := 135) hx hb dX3_join_115 (by decide) (fun c_52 => ?_) (fun c_52 => ?_)
            · replace hf := x_in c_52 hf
              refine lv_iload hx hb dX3_join_135 (lv_at hl 0 rfl) ?_
              refine lv_if_ne (tgt := 151) hx hb dX3_join_137 (by decide) (fun c_53 => ?_) (fun c_53 => ?_)
              · replace hf := x_in c_53 hf
                refine lv_iload_n hx hb dX3_join_151 rfl (lv_at hl 5 rfl) ?_
                refine lv_if_ne (tgt := 162) hx hb dX3_join_152 (by decide) (fun c_54 => ?_) (fun c_54 => ?_)
                · replace hf := x_in c_54 hf
                  refine lv_iconst (v := 1) hx hb dX3_join_162 (by decide) ?_
                  refine lv_goto (tgt := 167) hx hb dX3_join_163 (by decide) ?_
                  refine lv_istore_n (lv' := [(3, .int 1), (7, .int r_51), (6, .int (g3_5 (Int32.toNatClampNeg (l4 + l5)))), (0, .ref o3), (1, .int l1), (2, .ref o5), (4, .int l4), (5, .int l5)]) hx hb dX3_join_167 rfl hl (by decide) rfl (fun ls hl => ?_)
                  refine lv_aload_n hx hb dX3_join_168 rfl (lv_at hl 3 rfl) ?_
                  refine va_get (D := (dC, dI)) (ci := 3) (v := .ref a3_5) (C := RX3) (T := TX3) (N := 17) hx hb hts i_X3_join_X3 hown hK hP 2 rfl rfl 5 (by decide) k_2 (fun _ h9 => h9) rfl dX3_join_169 ?_
                  refine lv_iload hx hb dX3_join_172 (lv_at hl 6 rfl) ?_
                  refine lv_iload hx hb dX3_join_174 (lv_at hl 7 rfl) ?_
                  refine lv_iadd hx hb dX3_join_176 ?_
                  refine lv_iload hx hb dX3_join_177 (lv_at hl 1 rfl) ?_
                  obtain ⟨g_55, hf⟩ := x_gu hf
                  refine va_iast hx hb hK hP hD hS 3 0 rfl rfl (x_gdin g_55) dX3_join_179 (fun H locs hP hD hS => ?_)
                  have hP : va_P (dC, dI) vwCl [(o7, .inr (7, [.ref a7_0, .ref a7_1, .int v7_2])), (a7_0, .inl (cyI, 200, .inl g7_0)), (o3, .inr (3, [.ref o7, .ref o1, .int v3_2, .int v3_3, .int v3_4, .ref a3_5, .ref a3_6, .ref a3_7, .ref a3_8, .ref a3_9, .ref a3_10, .ref a3_11, .ref a3_12, .int v3_13, .int v3_14, .ref a3_15, .ref a3_16])), (a3_5, .inl (cyI, n3_5, .inl (upd g3_5 (Int32.toNatClampNeg (l4 + l5)) r_51))), (a3_8, .inl (cyI, n3_8, .inl g3_8)), (a3_9, .inl (cyI, n3_9, .inl g3_9)), (a3_12, .inl (cyI, n3_12, .inl g3_12)), (o5, .inr (5, [.ref o7, .ref a5_1, .int v5_2, .int v5_3, .int v5_4, .int v5_5, .int v5_6, .int v5_7, .int v5_8, .int v5_9])), (a5_1, .inl (cyI, 400, .inl g5_1))] H := hP
                  have hD : va_D A [(o7, .inr (7, [.ref a7_0, .ref a7_1, .int v7_2])), (a7_0, .inl (cyI, 200, .inl g7_0)), (o3, .inr (3, [.ref o7, .ref o1, .int v3_2, .int v3_3, .int v3_4, .ref a3_5, .ref a3_6, .ref a3_7, .ref a3_8, .ref a3_9, .ref a3_10, .ref a3_11, .ref a3_12, .int v3_13, .int v3_14, .ref a3_15, .ref a3_16])), (a3_5, .inl (cyI, n3_5, .inl (upd g3_5 (Int32.toNatClampNeg (l4 + l5)) r_51))), (a3_8, .inl (cyI, n3_8, .inl g3_8)), (a3_9, .inl (cyI, n3_9, .inl g3_9)), (a3_12, .inl (cyI, n3_12, .inl g3_12)), (o5, .inr (5, [.ref o7, .ref a5_1, .int v5_2, .int v5_3, .int v5_4, .int v5_5, .int v5_6, .int v5_7, .int v5_8, .int v5_9])), (a5_1, .inl (cyI, 400, .inl g5_1))] := hD
                  refine lv_iinc (v := (l5 + 1)) (lv' := [(5, .int (l5 + 1)), (3, .int 1), (7, .int r_51), (6, .int (g3_5 (Int32.toNatClampNeg (l4 + l5)))), (0, .ref o3), (1, .int l1), (2, .ref o5), (4, .int l4)]) hx hb dX3_join_180 hl (k := 7) rfl rfl (by decide) rfl (fun ls hl => ?_)
                  refine lv_goto (tgt := 50) hx hb dX3_join_183 (by decide) ?_
                  exact (hWW _ _ _ _ _).mpr ((ih (0, 1, l5 + 1, upd g3_5 (Int32.toNatClampNeg (l4 + l5)) r_51) _ hf rfl _ _ _ _ rfl) rfl H locs ls hP hD hS (lv_sub hl [4, 5, 6, 1, 7, 0] rfl))
                · replace hf := x_ip c_54 hf
                  refine lv_iload hx hb dX3_join_155 (lv_at hl 0 rfl) ?_
                  refine lv_iload hx hb dX3_join_157 (lv_at hl 1 rfl) ?_
                  refine lv_icmp_eq (tgt := 166) hx hb dX3_join_159 (by decide) (fun c_56 => ?_) (fun c_56 => ?_)
                  · replace hf := x_ip c_56 hf
                    refine lv_iconst (v := 0) hx hb dX3_join_166 (by decide) ?_
                    refine lv_istore_n (lv' := [(3, .int 0), (7, .int r_51), (6, .int (g3_5 (Int32.toNatClampNeg (l4 + l5)))), (0, .ref o3), (1, .int l1), (2, .ref o5), (4, .int l4), (5, .int l5)]) hx hb dX3_join_167 rfl hl (by decide) rfl (fun ls hl => ?_)
                    refine lv_aload_n hx hb dX3_join_168 rfl (lv_at hl 3 rfl) ?_
                    refine va_get (D := (dC, dI)) (ci := 3) (v := .ref a3_5) (C := RX3) (T := TX3) (N := 17) hx hb hts i_X3_join_X3 hown hK hP 2 rfl rfl 5 (by decide) k_2 (fun _ h9 => h9) rfl dX3_join_169 ?_
                    refine lv_iload hx hb dX3_join_172 (lv_at hl 6 rfl) ?_
                    refine lv_iload hx hb dX3_join_174 (lv_at hl 7 rfl) ?_
                    refine lv_iadd hx hb dX3_join_176 ?_
                    refine lv_iload hx hb dX3_join_177 (lv_at hl 1 rfl) ?_
                    obtain ⟨g_57, hf⟩ := x_gu hf
                    refine va_iast hx hb hK hP hD hS 3 0 rfl rfl (x_gdin g_57) dX3_join_179 (fun H locs hP hD hS => ?_)
                    have hP : va_P (dC, dI) vwCl [(o7, .inr (7, [.ref a7_0, .ref a7_1, .int v7_2])), (a7_0, .inl (cyI, 200, .inl g7_0)), (o3, .inr (3, [.ref o7, .ref o1, .int v3_2, .int v3_3, .int v3_4, .ref a3_5, .ref a3_6, .ref a3_7, .ref a3_8, .ref a3_9, .ref a3_10, .ref a3_11, .ref a3_12, .int v3_13, .int v3_14, .ref a3_15, .ref a3_16])), (a3_5, .inl (cyI, n3_5, .inl (upd g3_5 (Int32.toNatClampNeg (l4 + l5)) r_51))), (a3_8, .inl (cyI, n3_8, .inl g3_8)), (a3_9, .inl (cyI, n3_9, .inl g3_9)), (a3_12, .inl (cyI, n3_12, .inl g3_12)), (o5, .inr (5, [.ref o7, .ref a5_1, .int v5_2, .int v5_3, .int v5_4, .int v5_5, .int v5_6, .int v5_7, .int v5_8, .int v5_9])), (a5_1, .inl (cyI, 400, .inl g5_1))] H := hP
                    have hD : va_D A [(o7, .inr (7, [.ref a7_0, .ref a7_1, .int v7_2])), (a7_0, .inl (cyI, 200, .inl g7_0)), (o3, .inr (3, [.ref o7, .ref o1, .int v3_2, .int v3_3, .int v3_4, .ref a3_5, .ref a3_6, .ref a3_7, .ref a3_8, .ref a3_9, .ref a3_10, .ref a3_11, .ref a3_12, .int v3_13, .int v3_14, .ref a3_15, .ref a3_16])), (a3_5, .inl (cyI, n3_5, .inl (upd g3_5 (Int32.toNatClampNeg (l4 + l5)) r_51))), (a3_8, .inl (cyI, n3_8, .inl g3_8)), (a3_9, .inl (cyI, n3_9, .inl g3_9)), (a3_12, .inl (cyI, n3_12, .inl g3_12)), (o5, .inr (5, [.ref o7, .ref a5_1, .int v5_2, .int v5_3, .int v5_4, .int v5_5, .int v5_6, .int v5_7, .int v5_8, .int v5_9])), (a5_1, .inl (cyI, 400, .inl g5_1))] := hD
                    refine lv_iinc (v := (l5 + 1)) (lv' := [(5, .int (l5 + 1)), (3, .int 0), (7, .int r_51), (6, .int (g3_5 (Int32.toNatClampNeg (l4 + l5)))), (0, .ref o3), (1, .int l1), (2, .ref o5), (4, .int l4)]) hx hb dX3_join_180 hl (k := 7) rfl rfl (by decide) rfl (fun ls hl => ?_)
                    refine lv_goto (tgt := 50) hx hb dX3_join_183 (by decide) ?_
                    exact (hWW _ _ _ _ _).mpr ((ih (0, 0, l5 + 1, upd g3_5 (Int32.toNatClampNeg (l4 + l5)) r_51) _ hf rfl _ _ _ _ rfl) rfl H locs ls hP hD hS (lv_sub hl [4, 5, 6, 1, 7, 0] rfl))
                  · replace hf := x_in c_56 hf
                    refine lv_iconst (v := 1) hx hb dX3_join_162 (by decide) ?_
                    refine lv_goto (tgt := 167) hx hb dX3_join_163 (by decide) ?_
                    refine lv_istore_n (lv' := [(3, .int 1), (7, .int r_51), (6, .int (g3_5 (Int32.toNatClampNeg (l4 + l5)))), (0, .ref o3), (1, .int l1), (2, .ref o5), (4, .int l4), (5, .int l5)]) hx hb dX3_join_167 rfl hl (by decide) rfl (fun ls hl => ?_)
                    refine lv_aload_n hx hb dX3_join_168 rfl (lv_at hl 3 rfl) ?_
                    refine va_get (D := (dC, dI)) (ci := 3) (v := .ref a3_5) (C := RX3) (T := TX3) (N := 17) hx hb hts i_X3_join_X3 hown hK hP 2 rfl rfl 5 (by decide) k_2 (fun _ h9 => h9) rfl dX3_join_169 ?_
                    refine lv_iload hx hb dX3_join_172 (lv_at hl 6 rfl) ?_
                    refine lv_iload hx hb dX3_join_174 (lv_at hl 7 rfl) ?_
                    refine lv_iadd hx hb dX3_join_176 ?_
                    refine lv_iload hx hb dX3_join_177 (lv_at hl 1 rfl) ?_
                    obtain ⟨g_58, hf⟩ := x_gu hf
                    refine va_iast hx hb hK hP hD hS 3 0 rfl rfl (x_gdin g_58) dX3_join_179 (fun H locs hP hD hS => ?_)
                    have hP : va_P (dC, dI) vwCl [(o7, .inr (7, [.ref a7_0, .ref a7_1, .int v7_2])), (a7_0, .inl (cyI, 200, .inl g7_0)), (o3, .inr (3, [.ref o7, .ref o1, .int v3_2, .int v3_3, .int v3_4, .ref a3_5, .ref a3_6, .ref a3_7, .ref a3_8, .ref a3_9, .ref a3_10, .ref a3_11, .ref a3_12, .int v3_13, .int v3_14, .ref a3_15, .ref a3_16])), (a3_5, .inl (cyI, n3_5, .inl (upd g3_5 (Int32.toNatClampNeg (l4 + l5)) r_51))), (a3_8, .inl (cyI, n3_8, .inl g3_8)), (a3_9, .inl (cyI, n3_9, .inl g3_9)), (a3_12, .inl (cyI, n3_12, .inl g3_12)), (o5, .inr (5, [.ref o7, .ref a5_1, .int v5_2, .int v5_3, .int v5_4, .int v5_5, .int v5_6, .int v5_7, .int v5_8, .int v5_9])), (a5_1, .inl (cyI, 400, .inl g5_1))] H := hP
                    have hD : va_D A [(o7, .inr (7, [.ref a7_0, .ref a7_1, .int v7_2])), (a7_0, .inl (cyI, 200, .inl g7_0)), (o3, .inr (3, [.ref o7, .ref o1, .int v3_2, .int v3_3, .int v3_4, .ref a3_5, .ref a3_6, .ref a3_7, .ref a3_8, .ref a3_9, .ref a3_10, .ref a3_11, .ref a3_12, .int v3_13, .int v3_14, .ref a3_15, .ref a3_16])), (a3_5, .inl (cyI, n3_5, .inl (upd g3_5 (Int32.toNatClampNeg (l4 + l5)) r_51))), (a3_8, .inl (cyI, n3_8, .inl g3_8)), (a3_9, .inl (cyI, n3_9, .inl g3_9)), (a3_12, .inl (cyI, n3_12, .inl g3_12)), (o5, .inr (5, [.ref o7, .ref a5_1, .int v5_2, .int v5_3, .int v5_4, .int v5_5, .int v5_6, .int v5_7, .int v5_8, .int v5_9])), (a5_1, .inl (cyI, 400, .inl g5_1))] := hD
                    refine lv_iinc (v := (l5 + 1)) (lv' := [(5, .int (l5 + 1)), (3, .int 1), (7, .int r_51), (6, .int (g3_5 (Int32.toNatClampNeg (l4 + l5)))), (0, .ref o3), (1, .int l1), (2, .ref o5), (4, .int l4)]) hx hb dX3_join_180 hl (k := 7) rfl rfl (by decide) rfl (fun ls hl => ?_)
                    refine lv_goto (tgt := 50) hx hb dX3_join_183 (by decide) ?_
                    exact (hWW _ _ _ _ _).mpr ((ih (0, 1, l5 + 1, upd g3_5 (Int32.toNatClampNeg (l4 + l5)) r_51) _ hf rfl _ _ _ _ rfl) rfl H locs ls hP hD hS (lv_sub hl [4, 5, 6, 1, 7, 0] rfl))
              · replace hf := x_ip c_53 hf
                refine lv_iload hx hb dX3_join_140 (lv_at hl 7 rfl) ?_
                refine lv_aload_n hx hb dX3_join_142 rfl (lv_at hl 2 rfl) ?_
                refine va_get (D := (dC, dI)) (ci := 3) (v := .int v3_2) (C := RX3) (T := TX3) (N := 17) hx hb hts i_X3_join_X3 hown hK hP 2 rfl rfl 2 (by decide) k_4 (fun _ h9 => h9) rfl dX3_join_143 ?_
                refine lv_icmp_lt (tgt := 151) hx hb dX3_join_146 (by decide) (fun c_59 => ?_) (fun c_59 => ?_)
                · replace hf := x_ip c_59 hf
                  refine lv_iload_n hx hb dX3_join_151 rfl (lv_at hl 5 rfl) ?_
                  refine lv_if_ne (tgt := 162) hx hb dX3_join_152 (by decide) (fun c_60 => ?_) (fun c_60 => ?_)
                  · replace hf := x_in c_60 hf
                    refine lv_iconst (v := 1) hx hb dX3_join_162 (by decide) ?_
                    refine lv_goto (tgt := 167) hx hb dX3_join_163 (by decide) ?_
                    refine lv_istore_n (lv' := [(3, .int 1), (7, .int r_51), (6, .int (g3_5 (Int32.toNatClampNeg (l4 + l5)))), (0, .ref o3), (1, .int l1), (2, .ref o5), (4, .int l4), (5, .int l5)]) hx hb dX3_join_167 rfl hl (by decide) rfl (fun ls hl => ?_)
                    refine lv_aload_n hx hb dX3_join_168 rfl (lv_at hl 3 rfl) ?_
                    refine va_get (D := (dC, dI)) (ci := 3) (v := .ref a3_5) (C := RX3) (T := TX3) (N := 17) hx hb hts i_X3_join_X3 hown hK hP 2 rfl rfl 5 (by decide) k_2 (fun _ h9 => h9) rfl dX3_join_169 ?_
                    refine lv_iload hx hb dX3_join_172 (lv_at hl 6 rfl) ?_
                    refine lv_iload hx hb dX3_join_174 (lv_at hl 7 rfl) ?_
                    refine lv_iadd hx hb dX3_join_176 ?_
                    refine lv_iload hx hb dX3_join_177 (lv_at hl 1 rfl) ?_
                    obtain ⟨g_61, hf⟩ := x_gu hf
                    refine va_iast hx hb hK hP hD hS 3 0 rfl rfl (x_gdin g_61) dX3_join_179 (fun H locs hP hD hS => ?_)
                    have hP : va_P (dC, dI) vwCl [(o7, .inr (7, [.ref a7_0, .ref a7_1, .int v7_2])), (a7_0, .inl (cyI, 200, .inl g7_0)), (o3, .inr (3, [.ref o7, .ref o1, .int v3_2, .int v3_3, .int v3_4, .ref a3_5, .ref a3_6, .ref a3_7, .ref a3_8, .ref a3_9, .ref a3_10, .ref a3_11, .ref a3_12, .int v3_13, .int v3_14, .ref a3_15, .ref a3_16])), (a3_5, .inl (cyI, n3_5, .inl (upd g3_5 (Int32.toNatClampNeg (l4 + l5)) r_51))), (a3_8, .inl (cyI, n3_8, .inl g3_8)), (a3_9, .inl (cyI, n3_9, .inl g3_9)), (a3_12, .inl (cyI, n3_12, .inl g3_12)), (o5, .inr (5, [.ref o7, .ref a5_1, .int v5_2, .int v5_3, .int v5_4, .int v5_5, .int v5_6, .int v5_7, .int v5_8, .int v5_9])), (a5_1, .inl (cyI, 400, .inl g5_1))] H := hP
                    have hD : va_D A [(o7, .inr (7, [.ref a7_0, .ref a7_1, .int v7_2])), (a7_0, .inl (cyI, 200, .inl g7_0)), (o3, .inr (3, [.ref o7, .ref o1, .int v3_2, .int v3_3, .int v3_4, .ref a3_5, .ref a3_6, .ref a3_7, .ref a3_8, .ref a3_9, .ref a3_10, .ref a3_11, .ref a3_12, .int v3_13, .int v3_14, .ref a3_15, .ref a3_16])), (a3_5, .inl (cyI, n3_5, .inl (upd g3_5 (Int32.toNatClampNeg (l4 + l5)) r_51))), (a3_8, .inl (cyI, n3_8, .inl g3_8)), (a3_9, .inl (cyI, n3_9, .inl g3_9)), (a3_12, .inl (cyI, n3_12, .inl g3_12)), (o5, .inr (5, [.ref o7, .ref a5_1, .int v5_2, .int v5_3, .int v5_4, .int v5_5, .int v5_6, .int v5_7, .int v5_8, .int v5_9])), (a5_1, .inl (cyI, 400, .inl g5_1))] := hD
                    refine lv_iinc (v := (l5 + 1)) (lv' := [(5, .int (l5 + 1)), (3, .int 1), (7, .int r_51), (6, .int (g3_5 (Int32.toNatClampNeg (l4 + l5)))), (0, .ref o3), (1, .int l1), (2, .ref o5), (4, .int l4)]) hx hb dX3_join_180 hl (k := 7) rfl rfl (by decide) rfl (fun ls hl => ?_)
                    refine lv_goto (tgt := 50) hx hb dX3_join_183 (by decide) ?_
                    exact (hWW _ _ _ _ _).mpr ((ih (0, 1, l5 + 1, upd g3_5 (Int32.toNatClampNeg (l4 + l5)) r_51) _ hf rfl _ _ _ _ rfl) rfl H locs ls hP hD hS (lv_sub hl [4, 5, 6, 1, 7, 0] rfl))
                  · replace hf := x_ip c_60 hf
                    refine lv_iload hx hb dX3_join_155 (lv_at hl 0 rfl) ?_
                    refine lv_iload hx hb dX3_join_157 (lv_at hl 1 rfl) ?_
                    refine lv_icmp_eq (tgt := 166) hx hb dX3_join_159 (by decide) (fun c_62 => ?_) (fun c_62 => ?_)
                    · replace hf := x_ip c_62 hf
                      refine lv_iconst (v := 0) hx hb dX3_join_166 (by decide) ?_
                      refine lv_istore_n (lv' := [(3, .int 0), (7, .int r_51), (6, .int (g3_5 (Int32.toNatClampNeg (l4 + l5)))), (0, .ref o3), (1, .int l1), (2, .ref o5), (4, .int l4), (5, .int l5)]) hx hb dX3_join_167 rfl hl (by decide) rfl (fun ls hl => ?_)
                      refine lv_aload_n hx hb dX3_join_168 rfl (lv_at hl 3 rfl) ?_
                      refine va_get (D := (dC, dI)) (ci := 3) (v := .ref a3_5) (C := RX3) (T := TX3) (N := 17) hx hb hts i_X3_join_X3 hown hK hP 2 rfl rfl 5 (by decide) k_2 (fun _ h9 => h9) rfl dX3_join_169 ?_
                      refine lv_iload hx hb dX3_join_172 (lv_at hl 6 rfl) ?_
                      refine lv_iload hx hb dX3_join_174 (lv_at hl 7 rfl) ?_
                      refine lv_iadd hx hb dX3_join_176 ?_
                      refine lv_iload hx hb dX3_join_177 (lv_at hl 1 rfl) ?_
                      obtain ⟨g_63, hf⟩ := x_gu hf
                      refine va_iast hx hb hK hP hD hS 3 0 rfl rfl (x_gdin g_63) dX3_join_179 (fun H locs hP hD hS => ?_)
                      have hP : va_P (dC, dI) vwCl [(o7, .inr (7, [.ref a7_0, .ref a7_1, .int v7_2])), (a7_0, .inl (cyI, 200, .inl g7_0)), (o3, .inr (3, [.ref o7, .ref o1, .int v3_2, .int v3_3, .int v3_4, .ref a3_5, .ref a3_6, .ref a3_7, .ref a3_8, .ref a3_9, .ref a3_10, .ref a3_11, .ref a3_12, .int v3_13, .int v3_14, .ref a3_15, .ref a3_16])), (a3_5, .inl (cyI, n3_5, .inl (upd g3_5 (Int32.toNatClampNeg (l4 + l5)) r_51))), (a3_8, .inl (cyI, n3_8, .inl g3_8)), (a3_9, .inl (cyI, n3_9, .inl g3_9)), (a3_12, .inl (cyI, n3_12, .inl g3_12)), (o5, .inr (5, [.ref o7, .ref a5_1, .int v5_2, .int v5_3, .int v5_4, .int v5_5, .int v5_6, .int v5_7, .int v5_8, .int v5_9])), (a5_1, .inl (cyI, 400, .inl g5_1))] H := hP
                      have hD : va_D A [(o7, .inr (7, [.ref a7_0, .ref a7_1, .int v7_2])), (a7_0, .inl (cyI, 200, .inl g7_0)), (o3, .inr (3, [.ref o7, .ref o1, .int v3_2, .int v3_3, .int v3_4, .ref a3_5, .ref a3_6, .ref a3_7, .ref a3_8, .ref a3_9, .ref a3_10, .ref a3_11, .ref a3_12, .int v3_13, .int v3_14, .ref a3_15, .ref a3_16])), (a3_5, .inl (cyI, n3_5, .inl (upd g3_5 (Int32.toNatClampNeg (l4 + l5)) r_51))), (a3_8, .inl (cyI, n3_8, .inl g3_8)), (a3_9, .inl (cyI, n3_9, .inl g3_9)), (a3_12, .inl (cyI, n3_12, .inl g3_12)), (o5, .inr (5, [.ref o7, .ref a5_1, .int v5_2, .int v5_3, .int v5_4, .int v5_5, .int v5_6, .int v5_7, .int v5_8, .int v5_9])), (a5_1, .inl (cyI, 400, .inl g5_1))] := hD
                      refine lv_iinc (v := (l5 + 1)) (lv' := [(5, .int (l5 + 1)), (3, .int 0), (7, .int r_51), (6, .int (g3_5 (Int32.toNatClampNeg (l4 + l5)))), (0, .ref o3), (1, .int l1), (2, .ref o5), (4, .int l4)]) hx hb dX3_join_180 hl (k := 7) rfl rfl (by decide) rfl (fun ls hl => ?_)
                      refine lv_goto (tgt := 50) hx hb dX3_join_183 (by decide) ?_
                      exact (hWW _ _ _ _ _).mpr ((ih (0, 0, l5 + 1, upd g3_5 (Int32.toNatClampNeg (l4 + l5)) r_51) _ hf rfl _ _ _ _ rfl) rfl H locs ls hP hD hS (lv_sub hl [4, 5, 6, 1, 7, 0] rfl))
                    · replace hf := x_in c_62 hf
                      refine lv_iconst (v := 1) hx hb dX3_join_162 (by decide) ?_
                      refine lv_goto (tgt := 167) hx hb dX3_join_163 (by decide) ?_
                      refine lv_istore_n (lv' := [(3, .int 1), (7, .int r_51), (6, .int (g3_5 (Int32.toNatClampNeg (l4 + l5)))), (0, .ref o3), (1, .int l1), (2, .ref o5), (4, .int l4), (5, .int l5)]) hx hb dX3_join_167 rfl hl (by decide) rfl (fun ls hl => ?_)
                      refine lv_aload_n hx hb dX3_join_168 rfl (lv_at hl 3 rfl) ?_
                      refine va_get (D := (dC, dI)) (ci := 3) (v := .ref a3_5) (C := RX3) (T := TX3) (N := 17) hx hb hts i_X3_join_X3 hown hK hP 2 rfl rfl 5 (by decide) k_2 (fun _ h9 => h9) rfl dX3_join_169 ?_
                      refine lv_iload hx hb dX3_join_172 (lv_at hl 6 rfl) ?_
                      refine lv_iload hx hb dX3_join_174 (lv_at hl 7 rfl) ?_
                      refine lv_iadd hx hb dX3_join_176 ?_
                      refine lv_iload hx hb dX3_join_177 (lv_at hl 1 rfl) ?_
                      obtain ⟨g_64, hf⟩ := x_gu hf
                      refine va_iast hx hb hK hP hD hS 3 0 rfl rfl (x_gdin g_64) dX3_join_179 (fun H locs hP hD hS => ?_)
                      have hP : va_P (dC, dI) vwCl [(o7, .inr (7, [.ref a7_0, .ref a7_1, .int v7_2])), (a7_0, .inl (cyI, 200, .inl g7_0)), (o3, .inr (3, [.ref o7, .ref o1, .int v3_2, .int v3_3, .int v3_4, .ref a3_5, .ref a3_6, .ref a3_7, .ref a3_8, .ref a3_9, .ref a3_10, .ref a3_11, .ref a3_12, .int v3_13, .int v3_14, .ref a3_15, .ref a3_16])), (a3_5, .inl (cyI, n3_5, .inl (upd g3_5 (Int32.toNatClampNeg (l4 + l5)) r_51))), (a3_8, .inl (cyI, n3_8, .inl g3_8)), (a3_9, .inl (cyI, n3_9, .inl g3_9)), (a3_12, .inl (cyI, n3_12, .inl g3_12)), (o5, .inr (5, [.ref o7, .ref a5_1, .int v5_2, .int v5_3, .int v5_4, .int v5_5, .int v5_6, .int v5_7, .int v5_8, .int v5_9])), (a5_1, .inl (cyI, 400, .inl g5_1))] H := hP
                      have hD : va_D A [(o7, .inr (7, [.ref a7_0, .ref a7_1, .int v7_2])), (a7_0, .inl (cyI, 200, .inl g7_0)), (o3, .inr (3, [.ref o7, .ref o1, .int v3_2, .int v3_3, .int v3_4, .ref a3_5, .ref a3_6, .ref a3_7, .ref a3_8, .ref a3_9, .ref a3_10, .ref a3_11, .ref a3_12, .int v3_13, .int v3_14, .ref a3_15, .ref a3_16])), (a3_5, .inl (cyI, n3_5, .inl (upd g3_5 (Int32.toNatClampNeg (l4 + l5)) r_51))), (a3_8, .inl (cyI, n3_8, .inl g3_8)), (a3_9, .inl (cyI, n3_9, .inl g3_9)), (a3_12, .inl (cyI, n3_12, .inl g3_12)), (o5, .inr (5, [.ref o7, .ref a5_1, .int v5_2, .int v5_3, .int v5_4, .int v5_5, .int v5_6, .int v5_7, .int v5_8, .int v5_9])), (a5_1, .inl (cyI, 400, .inl g5_1))] := hD
                      refine lv_iinc (v := (l5 + 1)) (lv' := [(5, .int (l5 + 1)), (3, .int 1), (7, .int r_51), (6, .int (g3_5 (Int32.toNatClampNeg (l4 + l5)))), (0, .ref o3), (1, .int l1), (2, .ref o5), (4, .int l4)]) hx hb dX3_join_180 hl (k := 7) rfl rfl (by decide) rfl (fun ls hl => ?_)
                      refine lv_goto (tgt := 50) hx hb dX3_join_183 (by decide) ?_
                      exact (hWW _ _ _ _ _).mpr ((ih (0, 1, l5 + 1, upd g3_5 (Int32.toNatClampNeg (l4 + l5)) r_51) _ hf rfl _ _ _ _ rfl) rfl H locs ls hP hD hS (lv_sub hl [4, 5, 6, 1, 7, 0] rfl))
                · replace hf := x_in c_59 hf
                  refine lv_iconst (v := 0) hx hb dX3_join_149 (by decide) ?_
                  obtain rfl := Option.some.inj hf
                  have hP9 := hP.sub (ws' := [(o7, .inr (7, [.ref a7_0, .ref a7_1, .int v7_2])), (a7_0, .inl (cyI, 200, .inl g7_0)), (o3, .inr (3, [.ref o7, .ref o1, .int v3_2, .int v3_3, .int v3_4, .ref a3_5, .ref a3_6, .ref a3_7, .ref a3_8, .ref a3_9, .ref a3_10, .ref a3_11, .ref a3_12, .int v3_13, .int v3_14, .ref a3_15, .ref a3_16])), (a3_5, .inl (cyI, n3_5, .inl g3_5)), (a3_8, .inl (cyI, n3_8, .inl g3_8)), (a3_9, .inl (cyI, n3_9, .inl g3_9)), (a3_12, .inl (cyI, n3_12, .inl g3_12)), (o5, .inr (5, [.ref o7, .ref a5_1, .int v5_2, .int v5_3, .int v5_4, .int v5_5, .int v5_6, .int v5_7, .int v5_8, .int v5_9])), (a5_1, .inl (cyI, 400, .inl g5_1))]) [0, 1, 2, 3, 4, 5, 6, 7, 8] rfl
                  have hD9 := hD.sub (ws' := [(o7, .inr (7, [.ref a7_0, .ref a7_1, .int v7_2])), (a7_0, .inl (cyI, 200, .inl g7_0)), (o3, .inr (3, [.ref o7, .ref o1, .int v3_2, .int v3_3, .int v3_4, .ref a3_5, .ref a3_6, .ref a3_7, .ref a3_8, .ref a3_9, .ref a3_10, .ref a3_11, .ref a3_12, .int v3_13, .int v3_14, .ref a3_15, .ref a3_16])), (a3_5, .inl (cyI, n3_5, .inl g3_5)), (a3_8, .inl (cyI, n3_8, .inl g3_8)), (a3_9, .inl (cyI, n3_9, .inl g3_9)), (a3_12, .inl (cyI, n3_12, .inl g3_12)), (o5, .inr (5, [.ref o7, .ref a5_1, .int v5_2, .int v5_3, .int v5_4, .int v5_5, .int v5_6, .int v5_7, .int v5_8, .int v5_9])), (a5_1, .inl (cyI, 400, .inl g5_1))]) [0, 1, 2, 3, 4, 5, 6, 7, 8] (by decide) rfl
                  exact W.zret (ty := .boolean) hx hb hr rfl (fun t ht hW => ⟨⟨_, (), rfl, ⟨rfl, rfl⟩, by rw [ht]; exact hP9, va_K.moved hW.alike hK, hD9⟩, hS.F ht⟩) hS.2.2 dX3_join_150
            · replace hf := x_ip c_52 hf
              refine lv_aload_n hx hb dX3_join_118 rfl (lv_at hl 2 rfl) ?_
              refine lv_iload hx hb dX3_join_119 (lv_at hl 6 rfl) ?_
              refine lv_iload hx hb dX3_join_121 (lv_at hl 7 rfl) ?_
              refine lv_iadd hx hb dX3_join_123 ?_
              refine lv_iconst (v := 1) hx hb dX3_join_124 (by decide) ?_
              refine lv_isub hx hb dX3_join_125 ?_
              obtain ⟨r_65, h_65, hf⟩ := x_bi hf
              have hPc := hP.sub (ws' := [(o3, .inr (3, [.ref o7, .ref o1, .int v3_2, .int v3_3, .int v3_4, .ref a3_5, .ref a3_6, .ref a3_7, .ref a3_8, .ref a3_9, .ref a3_10, .ref a3_11, .ref a3_12, .int v3_13, .int v3_14, .ref a3_15, .ref a3_16])), (a3_5, .inl (cyI, n3_5, .inl g3_5))]) [2, 3] rfl
              refine va_calli (va_runV (As := [.int ((l4 + l5) - (1 : Int32))]) (rest := []) ⟨hx, hb, hml, hown, hts⟩ (c_X3_isWideAt l dC dI cyI cyZ cyJ H.size o3 o7 o1 v3_2 v3_3 v3_4 a3_5 a3_6 a3_7 a3_8 a3_9 a3_10 a3_11 a3_12 v3_13 v3_14 a3_15 a3_16 g3_5 n3_5 ((l4 + l5) - (1 : Int32)) r_65 h_65) (cwV 1 hts gX3_join_X3_isWideAt rfl rfl rfl (by decide +kernel) ⟨Nat.le_of_ble_eq_true rfl, Nat.le_of_ble_eq_true rfl⟩) (x_pV hN hK hPc (ci := 3) (q0 := 0) rfl rfl) rfl rfl hl.1 rfl (lv_room (Nat.le_of_ble_eq_true rfl)) dX3_join_126 ⟨Nat.le_of_ble_eq_true rfl, Nat.le_of_ble_eq_true rfl⟩) hS x_nA (x_nf hA hS) (fun q_65 u t H1 locs ht hvm hw hB hz1 hk1 hS => ?_)
              have hP := x_kp hP hk1
              clear ht hvm hB hz1 hk1 t u hPc
              generalize H1 = H at hP hS ⊢
              obtain ⟨hw, b_65⟩ := hw
              obtain rfl := hw.symm
              refine lv_if_ne (tgt := 135) hx hb dX3_join_129 (by decide) (fun c_66 => ?_) (fun c_66 => ?_)
              · replace hf := x_in c_66 hf
                refine lv_iload hx hb dX3_join_135 (lv_at hl 0 rfl) ?_
                refine lv_if_ne (tgt := 151) hx hb dX3_join_137 (by decide) (fun c_67 => ?_) (fun c_67 => ?_)
                · replace hf := x_in c_67 hf
                  refine lv_iload_n hx hb dX3_join_151 rfl (lv_at hl 5 rfl) ?_
                  refine lv_if_ne (tgt := 162) hx hb dX3_join_152 (by decide) (fun c_68 => ?_) (fun c_68 => ?_)
                  · replace hf := x_in c_68 hf
                    refine lv_iconst (v := 1) hx hb dX3_join_162 (by decide) ?_
                    refine lv_goto (tgt := 167) hx hb dX3_join_163 (by decide) ?_
                    refine lv_istore_n (lv' := [(3, .int 1), (7, .int r_51), (6, .int (g3_5 (Int32.toNatClampNeg (l4 + l5)))), (0, .ref o3), (1, .int l1), (2, .ref o5), (4, .int l4), (5, .int l5)]) hx hb dX3_join_167 rfl hl (by decide) rfl (fun ls hl => ?_)
                    refine lv_aload_n hx hb dX3_join_168 rfl (lv_at hl 3 rfl) ?_
                    refine va_get (D := (dC, dI)) (ci := 3) (v := .ref a3_5) (C := RX3) (T := TX3) (N := 17) hx hb hts i_X3_join_X3 hown hK hP 2 rfl rfl 5 (by decide) k_2 (fun _ h9 => h9) rfl dX3_join_169 ?_
                    refine lv_iload hx hb dX3_join_172 (lv_at hl 6 rfl) ?_
                    refine lv_iload hx hb dX3_join_174 (lv_at hl 7 rfl) ?_
                    refine lv_iadd hx hb dX3_join_176 ?_
                    refine lv_iload hx hb dX3_join_177 (lv_at hl 1 rfl) ?_
                    obtain ⟨g_69, hf⟩ := x_gu hf
                    refine va_iast hx hb hK hP hD hS 3 0 rfl rfl (x_gdin g_69) dX3_join_179 (fun H locs hP hD hS => ?_)
                    have hP : va_P (dC, dI) vwCl [(o7, .inr (7, [.ref a7_0, .ref a7_1, .int v7_2])), (a7_0, .inl (cyI, 200, .inl g7_0)), (o3, .inr (3, [.ref o7, .ref o1, .int v3_2, .int v3_3, .int v3_4, .ref a3_5, .ref a3_6, .ref a3_7, .ref a3_8, .ref a3_9, .ref a3_10, .ref a3_11, .ref a3_12, .int v3_13, .int v3_14, .ref a3_15, .ref a3_16])), (a3_5, .inl (cyI, n3_5, .inl (upd g3_5 (Int32.toNatClampNeg (l4 + l5)) r_51))), (a3_8, .inl (cyI, n3_8, .inl g3_8)), (a3_9, .inl (cyI, n3_9, .inl g3_9)), (a3_12, .inl (cyI, n3_12, .inl g3_12)), (o5, .inr (5, [.ref o7, .ref a5_1, .int v5_2, .int v5_3, .int v5_4, .int v5_5, .int v5_6, .int v5_7, .int v5_8, .int v5_9])), (a5_1, .inl (cyI, 400, .inl g5_1))] H := hP
                    have hD : va_D A [(o7, .inr (7, [.ref a7_0, .ref a7_1, .int v7_2])), (a7_0, .inl (cyI, 200, .inl g7_0)), (o3, .inr (3, [.ref o7, .ref o1, .int v3_2, .int v3_3, .int v3_4, .ref a3_5, .ref a3_6, .ref a3_7, .ref a3_8, .ref a3_9, .ref a3_10, .ref a3_11, .ref a3_12, .int v3_13, .int v3_14, .ref a3_15, .ref a3_16])), (a3_5, .inl (cyI, n3_5, .inl (upd g3_5 (Int32.toNatClampNeg (l4 + l5)) r_51))), (a3_8, .inl (cyI, n3_8, .inl g3_8)), (a3_9, .inl (cyI, n3_9, .inl g3_9)), (a3_12, .inl (cyI, n3_12, .inl g3_12)), (o5, .inr (5, [.ref o7, .ref a5_1, .int v5_2, .int v5_3, .int v5_4, .int v5_5, .int v5_6, .int v5_7, .int v5_8, .int v5_9])), (a5_1, .inl (cyI, 400, .inl g5_1))] := hD
                    refine lv_iinc (v := (l5 + 1)) (lv' := [(5, .int (l5 + 1)), (3, .int 1), (7, .int r_51), (6, .int (g3_5 (Int32.toNatClampNeg (l4 + l5)))), (0, .ref o3), (1, .int l1), (2, .ref o5), (4, .int l4)]) hx hb dX3_join_180 hl (k := 7) rfl rfl (by decide) rfl (fun ls hl => ?_)
                    refine lv_goto (tgt := 50) hx hb dX3_join_183 (by decide) ?_
                    exact (hWW _ _ _ _ _).mpr ((ih (0, 1, l5 + 1, upd g3_5 (Int32.toNatClampNeg (l4 + l5)) r_51) _ hf rfl _ _ _ _ rfl) rfl H locs ls hP hD hS (lv_sub hl [4, 5, 6, 1, 7, 0] rfl))
                  · replace hf := x_ip c_68 hf
                    refine lv_iload hx hb dX3_join_155 (lv_at hl 0 rfl) ?_
                    refine lv_iload hx hb dX3_join_157 (lv_at hl 1 rfl) ?_
                    refine lv_icmp_eq (tgt := 166) hx hb dX3_join_159 (by decide) (fun c_70 => ?_) (fun c_70 => ?_)
                    · replace hf := x_ip c_70 hf
                      refine lv_iconst (v := 0) hx hb dX3_join_166 (by decide) ?_
                      refine lv_istore_n (lv' := [(3, .int 0), (7, .int r_51), (6, .int (g3_5 (Int32.toNatClampNeg (l4 + l5)))), (0, .ref o3), (1, .int l1), (2, .ref o5), (4, .int l4), (5, .int l5)]) hx hb dX3_join_167 rfl hl (by decide) rfl (fun ls hl => ?_)
                      refine lv_aload_n hx hb dX3_join_168 rfl (lv_at hl 3 rfl) ?_
                      refine va_get (D := (dC, dI)) (ci := 3) (v := .ref a3_5) (C := RX3) (T := TX3) (N := 17) hx hb hts i_X3_join_X3 hown hK hP 2 rfl rfl 5 (by decide) k_2 (fun _ h9 => h9) rfl dX3_join_169 ?_
                      refine lv_iload hx hb dX3_join_172 (lv_at hl 6 rfl) ?_
                      refine lv_iload hx hb dX3_join_174 (lv_at hl 7 rfl) ?_
                      refine lv_iadd hx hb dX3_join_176 ?_
                      refine lv_iload hx hb dX3_join_177 (lv_at hl 1 rfl) ?_
                      obtain ⟨g_71, hf⟩ := x_gu hf
                      refine va_iast hx hb hK hP hD hS 3 0 rfl rfl (x_gdin g_71) dX3_join_179 (fun H locs hP hD hS => ?_)
                      have hP : va_P (dC, dI) vwCl [(o7, .inr (7, [.ref a7_0, .ref a7_1, .int v7_2])), (a7_0, .inl (cyI, 200, .inl g7_0)), (o3, .inr (3, [.ref o7, .ref o1, .int v3_2, .int v3_3, .int v3_4, .ref a3_5, .ref a3_6, .ref a3_7, .ref a3_8, .ref a3_9, .ref a3_10, .ref a3_11, .ref a3_12, .int v3_13, .int v3_14, .ref a3_15, .ref a3_16])), (a3_5, .inl (cyI, n3_5, .inl (upd g3_5 (Int32.toNatClampNeg (l4 + l5)) r_51))), (a3_8, .inl (cyI, n3_8, .inl g3_8)), (a3_9, .inl (cyI, n3_9, .inl g3_9)), (a3_12, .inl (cyI, n3_12, .inl g3_12)), (o5, .inr (5, [.ref o7, .ref a5_1, .int v5_2, .int v5_3, .int v5_4, .int v5_5, .int v5_6, .int v5_7, .int v5_8, .int v5_9])), (a5_1, .inl (cyI, 400, .inl g5_1))] H := hP
                      have hD : va_D A [(o7, .inr (7, [.ref a7_0, .ref a7_1, .int v7_2])), (a7_0, .inl (cyI, 200, .inl g7_0)), (o3, .inr (3, [.ref o7, .ref o1, .int v3_2, .int v3_3, .int v3_4, .ref a3_5, .ref a3_6, .ref a3_7, .ref a3_8, .ref a3_9, .ref a3_10, .ref a3_11, .ref a3_12, .int v3_13, .int v3_14, .ref a3_15, .ref a3_16])), (a3_5, .inl (cyI, n3_5, .inl (upd g3_5 (Int32.toNatClampNeg (l4 + l5)) r_51))), (a3_8, .inl (cyI, n3_8, .inl g3_8)), (a3_9, .inl (cyI, n3_9, .inl g3_9)), (a3_12, .inl (cyI, n3_12, .inl g3_12)), (o5, .inr (5, [.ref o7, .ref a5_1, .int v5_2, .int v5_3, .int v5_4, .int v5_5, .int v5_6, .int v5_7, .int v5_8, .int v5_9])), (a5_1, .inl (cyI, 400, .inl g5_1))] := hD
                      refine lv_iinc (v := (l5 + 1)) (lv' := [(5, .int (l5 + 1)), (3, .int 0), (7, .int r_51), (6, .int (g3_5 (Int32.toNatClampNeg (l4 + l5)))), (0, .ref o3), (1, .int l1), (2, .ref o5), (4, .int l4)]) hx hb dX3_join_180 hl (k := 7) rfl rfl (by decide) rfl (fun ls hl => ?_)
                      refine lv_goto (tgt := 50) hx hb dX3_join_183 (by decide) ?_
                      exact (hWW _ _ _ _ _).mpr ((ih (0, 0, l5 + 1, upd g3_5 (Int32.toNatClampNeg (l4 + l5)) r_51) _ hf rfl _ _ _ _ rfl) rfl H locs ls hP hD hS (lv_sub hl [4, 5, 6, 1, 7, 0] rfl))
                    · replace hf := x_in c_70 hf
                      refine lv_iconst (v := 1) hx hb dX3_join_162 (by decide) ?_
                      refine lv_goto (tgt := 167) hx hb dX3_join_163 (by decide) ?_
                      refine lv_istore_n (lv' := [(3, .int 1), (7, .int r_51), (6, .int (g3_5 (Int32.toNatClampNeg (l4 + l5)))), (0, .ref o3), (1, .int l1), (2, .ref o5), (4, .int l4), (5, .int l5)]) hx hb dX3_join_167 rfl hl (by decide) rfl (fun ls hl => ?_)
                      refine lv_aload_n hx hb dX3_join_168 rfl (lv_at hl 3 rfl) ?_
                      refine va_get (D := (dC, dI)) (ci := 3) (v := .ref a3_5) (C := RX3) (T := TX3) (N := 17) hx hb hts i_X3_join_X3 hown hK hP 2 rfl rfl 5 (by decide) k_2 (fun _ h9 => h9) rfl dX3_join_169 ?_
                      refine lv_iload hx hb dX3_join_172 (lv_at hl 6 rfl) ?_
                      refine lv_iload hx hb dX3_join_174 (lv_at hl 7 rfl) ?_
                      refine lv_iadd hx hb dX3_join_176 ?_
                      refine lv_iload hx hb dX3_join_177 (lv_at hl 1 rfl) ?_
                      obtain ⟨g_72, hf⟩ := x_gu hf
                      refine va_iast hx hb hK hP hD hS 3 0 rfl rfl (x_gdin g_72) dX3_join_179 (fun H locs hP hD hS => ?_)
                      have hP : va_P (dC, dI) vwCl [(o7, .inr (7, [.ref a7_0, .ref a7_1, .int v7_2])), (a7_0, .inl (cyI, 200, .inl g7_0)), (o3, .inr (3, [.ref o7, .ref o1, .int v3_2, .int v3_3, .int v3_4, .ref a3_5, .ref a3_6, .ref a3_7, .ref a3_8, .ref a3_9, .ref a3_10, .ref a3_11, .ref a3_12, .int v3_13, .int v3_14, .ref a3_15, .ref a3_16])), (a3_5, .inl (cyI, n3_5, .inl (upd g3_5 (Int32.toNatClampNeg (l4 + l5)) r_51))), (a3_8, .inl (cyI, n3_8, .inl g3_8)), (a3_9, .inl (cyI, n3_9, .inl g3_9)), (a3_12, .inl (cyI, n3_12, .inl g3_12)), (o5, .inr (5, [.ref o7, .ref a5_1, .int v5_2, .int v5_3, .int v5_4, .int v5_5, .int v5_6, .int v5_7, .int v5_8, .int v5_9])), (a5_1, .inl (cyI, 400, .inl g5_1))] H := hP
                      have hD : va_D A [(o7, .inr (7, [.ref a7_0, .ref a7_1, .int v7_2])), (a7_0, .inl (cyI, 200, .inl g7_0)), (o3, .inr (3, [.ref o7, .ref o1, .int v3_2, .int v3_3, .int v3_4, .ref a3_5, .ref a3_6, .ref a3_7, .ref a3_8, .ref a3_9, .ref a3_10, .ref a3_11, .ref a3_12, .int v3_13, .int v3_14, .ref a3_15, .ref a3_16])), (a3_5, .inl (cyI, n3_5, .inl (upd g3_5 (Int32.toNatClampNeg (l4 + l5)) r_51))), (a3_8, .inl (cyI, n3_8, .inl g3_8)), (a3_9, .inl (cyI, n3_9, .inl g3_9)), (a3_12, .inl (cyI, n3_12, .inl g3_12)), (o5, .inr (5, [.ref o7, .ref a5_1, .int v5_2, .int v5_3, .int v5_4, .int v5_5, .int v5_6, .int v5_7, .int v5_8, .int v5_9])), (a5_1, .inl (cyI, 400, .inl g5_1))] := hD
                      refine lv_iinc (v := (l5 + 1)) (lv' := [(5, .int (l5 + 1)), (3, .int 1), (7, .int r_51), (6, .int (g3_5 (Int32.toNatClampNeg (l4 + l5)))), (0, .ref o3), (1, .int l1), (2, .ref o5), (4, .int l4)]) hx hb dX3_join_180 hl (k := 7) rfl rfl (by decide) rfl (fun ls hl => ?_)
                      refine lv_goto (tgt := 50) hx hb dX3_join_183 (by decide) ?_
                      exact (hWW _ _ _ _ _).mpr ((ih (0, 1, l5 + 1, upd g3_5 (Int32.toNatClampNeg (l4 + l5)) r_51) _ hf rfl _ _ _ _ rfl) rfl H locs ls hP hD hS (lv_sub hl [4, 5, 6, 1, 7, 0] rfl))
                · replace hf := x_ip c_67 hf
                  refine lv_iload hx hb dX3_join_140 (lv_at hl 7 rfl) ?_
                  refine lv_aload_n hx hb dX3_join_142 rfl (lv_at hl 2 rfl) ?_
                  refine va_get (D := (dC, dI)) (ci := 3) (v := .int v3_2) (C := RX3) (T := TX3) (N := 17) hx hb hts i_X3_join_X3 hown hK hP 2 rfl rfl 2 (by decide) k_4 (fun _ h9 => h9) rfl dX3_join_143 ?_
                  refine lv_icmp_lt (tgt := 151) hx hb dX3_join_146 (by decide) (fun c_73 => ?_) (fun c_73 => ?_)
                  · replace hf := x_ip c_73 hf
                    refine lv_iload_n hx hb dX3_join_151 rfl (lv_at hl 5 rfl) ?_
                    refine lv_if_ne (tgt := 162) hx hb dX3_join_152 (by decide) (fun c_74 => ?_) (fun c_74 => ?_)
                    · replace hf := x_in c_74 hf
                      refine lv_iconst (v := 1) hx hb dX3_join_162 (by decide) ?_
                      refine lv_goto (tgt := 167) hx hb dX3_join_163 (by decide) ?_
                      refine lv_istore_n (lv' := [(3, .int 1), (7, .int r_51), (6, .int (g3_5 (Int32.toNatClampNeg (l4 + l5)))), (0, .ref o3), (1, .int l1), (2, .ref o5), (4, .int l4), (5, .int l5)]) hx hb dX3_join_167 rfl hl (by decide) rfl (fun ls hl => ?_)
                      refine lv_aload_n hx hb dX3_join_168 rfl (lv_at hl 3 rfl) ?_
                      refine va_get (D := (dC, dI)) (ci := 3) (v := .ref a3_5) (C := RX3) (T := TX3) (N := 17) hx hb hts i_X3_join_X3 hown hK hP 2 rfl rfl 5 (by decide) k_2 (fun _ h9 => h9) rfl dX3_join_169 ?_
                      refine lv_iload hx hb dX3_join_172 (lv_at hl 6 rfl) ?_
                      refine lv_iload hx hb dX3_join_174 (lv_at hl 7 rfl) ?_
                      refine lv_iadd hx hb dX3_join_176 ?_
                      refine lv_iload hx hb dX3_join_177 (lv_at hl 1 rfl) ?_
                      obtain ⟨g_75, hf⟩ := x_gu hf
                      refine va_iast hx hb hK hP hD hS 3 0 rfl rfl (x_gdin g_75) dX3_join_179 (fun H locs hP hD hS => ?_)
                      have hP : va_P (dC, dI) vwCl [(o7, .inr (7, [.ref a7_0, .ref a7_1, .int v7_2])), (a7_0, .inl (cyI, 200, .inl g7_0)), (o3, .inr (3, [.ref o7, .ref o1, .int v3_2, .int v3_3, .int v3_4, .ref a3_5, .ref a3_6, .ref a3_7, .ref a3_8, .ref a3_9, .ref a3_10, .ref a3_11, .ref a3_12, .int v3_13, .int v3_14, .ref a3_15, .ref a3_16])), (a3_5, .inl (cyI, n3_5, .inl (upd g3_5 (Int32.toNatClampNeg (l4 + l5)) r_51))), (a3_8, .inl (cyI, n3_8, .inl g3_8)), (a3_9, .inl (cyI, n3_9, .inl g3_9)), (a3_12, .inl (cyI, n3_12, .inl g3_12)), (o5, .inr (5, [.ref o7, .ref a5_1, .int v5_2, .int v5_3, .int v5_4, .int v5_5, .int v5_6, .int v5_7, .int v5_8, .int v5_9])), (a5_1, .inl (cyI, 400, .inl g5_1))] H := hP
                      have hD : va_D A [(o7, .inr (7, [.ref a7_0, .ref a7_1, .int v7_2])), (a7_0, .inl (cyI, 200, .inl g7_0)), (o3, .inr (3, [.ref o7, .ref o1, .int v3_2, .int v3_3, .int v3_4, .ref a3_5, .ref a3_6, .ref a3_7, .ref a3_8, .ref a3_9, .ref a3_10, .ref a3_11, .ref a3_12, .int v3_13, .int v3_14, .ref a3_15, .ref a3_16])), (a3_5, .inl (cyI, n3_5, .inl (upd g3_5 (Int32.toNatClampNeg (l4 + l5)) r_51))), (a3_8, .inl (cyI, n3_8, .inl g3_8)), (a3_9, .inl (cyI, n3_9, .inl g3_9)), (a3_12, .inl (cyI, n3_12, .inl g3_12)), (o5, .inr (5, [.ref o7, .ref a5_1, .int v5_2, .int v5_3, .int v5_4, .int v5_5, .int v5_6, .int v5_7, .int v5_8, .int v5_9])), (a5_1, .inl (cyI, 400, .inl g5_1))] := hD
                      refine lv_iinc (v := (l5 + 1)) (lv' := [(5, .int (l5 + 1)), (3, .int 1), (7, .int r_51), (6, .int (g3_5 (Int32.toNatClampNeg (l4 + l5)))), (0, .ref o3), (1, .int l1), (2, .ref o5), (4, .int l4)]) hx hb dX3_join_180 hl (k := 7) rfl rfl (by decide) rfl (fun ls hl => ?_)
                      refine lv_goto (tgt := 50) hx hb dX3_join_183 (by decide) ?_
                      exact (hWW _ _ _ _ _).mpr ((ih (0, 1, l5 + 1, upd g3_5 (Int32.toNatClampNeg (l4 + l5)) r_51) _ hf rfl _ _ _ _ rfl) rfl H locs ls hP hD hS (lv_sub hl [4, 5, 6, 1, 7, 0] rfl))
                    · replace hf := x_ip c_74 hf
                      refine lv_iload hx hb dX3_join_155 (lv_at hl 0 rfl) ?_
                      refine lv_iload hx hb dX3_join_157 (lv_at hl 1 rfl) ?_
                      refine lv_icmp_eq (tgt := 166) hx hb dX3_join_159 (by decide) (fun c_76 => ?_) (fun c_76 => ?_)
                      · replace hf := x_ip c_76 hf
                        refine lv_iconst (v := 0) hx hb dX3_join_166 (by decide) ?_
                        refine lv_istore_n (lv' := [(3, .int 0), (7, .int r_51), (6, .int (g3_5 (Int32.toNatClampNeg (l4 + l5)))), (0, .ref o3), (1, .int l1), (2, .ref o5), (4, .int l4), (5, .int l5)]) hx hb dX3_join_167 rfl hl (by decide) rfl (fun ls hl => ?_)
                        refine lv_aload_n hx hb dX3_join_168 rfl (lv_at hl 3 rfl) ?_
                        refine va_get (D := (dC, dI)) (ci := 3) (v := .ref a3_5) (C := RX3) (T := TX3) (N := 17) hx hb hts i_X3_join_X3 hown hK hP 2 rfl rfl 5 (by decide) k_2 (fun _ h9 => h9) rfl dX3_join_169 ?_
                        refine lv_iload hx hb dX3_join_172 (lv_at hl 6 rfl) ?_
                        refine lv_iload hx hb dX3_join_174 (lv_at hl 7 rfl) ?_
                        refine lv_iadd hx hb dX3_join_176 ?_
                        refine lv_iload hx hb dX3_join_177 (lv_at hl 1 rfl) ?_
                        obtain ⟨g_77, hf⟩ := x_gu hf
                        refine va_iast hx hb hK hP hD hS 3 0 rfl rfl (x_gdin g_77) dX3_join_179 (fun H locs hP hD hS => ?_)
                        have hP : va_P (dC, dI) vwCl [(o7, .inr (7, [.ref a7_0, .ref a7_1, .int v7_2])), (a7_0, .inl (cyI, 200, .inl g7_0)), (o3, .inr (3, [.ref o7, .ref o1, .int v3_2, .int v3_3, .int v3_4, .ref a3_5, .ref a3_6, .ref a3_7, .ref a3_8, .ref a3_9, .ref a3_10, .ref a3_11, .ref a3_12, .int v3_13, .int v3_14, .ref a3_15, .ref a3_16])), (a3_5, .inl (cyI, n3_5, .inl (upd g3_5 (Int32.toNatClampNeg (l4 + l5)) r_51))), (a3_8, .inl (cyI, n3_8, .inl g3_8)), (a3_9, .inl (cyI, n3_9, .inl g3_9)), (a3_12, .inl (cyI, n3_12, .inl g3_12)), (o5, .inr (5, [.ref o7, .ref a5_1, .int v5_2, .int v5_3, .int v5_4, .int v5_5, .int v5_6, .int v5_7, .int v5_8, .int v5_9])), (a5_1, .inl (cyI, 400, .inl g5_1))] H := hP
                        have hD : va_D A [(o7, .inr (7, [.ref a7_0, .ref a7_1, .int v7_2])), (a7_0, .inl (cyI, 200, .inl g7_0)), (o3, .inr (3, [.ref o7, .ref o1, .int v3_2, .int v3_3, .int v3_4, .ref a3_5, .ref a3_6, .ref a3_7, .ref a3_8, .ref a3_9, .ref a3_10, .ref a3_11, .ref a3_12, .int v3_13, .int v3_14, .ref a3_15, .ref a3_16])), (a3_5, .inl (cyI, n3_5, .inl (upd g3_5 (Int32.toNatClampNeg (l4 + l5)) r_51))), (a3_8, .inl (cyI, n3_8, .inl g3_8)), (a3_9, .inl (cyI, n3_9, .inl g3_9)), (a3_12, .inl (cyI, n3_12, .inl g3_12)), (o5, .inr (5, [.ref o7, .ref a5_1, .int v5_2, .int v5_3, .int v5_4, .int v5_5, .int v5_6, .int v5_7, .int v5_8, .int v5_9])), (a5_1, .inl (cyI, 400, .inl g5_1))] := hD
                        refine lv_iinc (v := (l5 + 1)) (lv' := [(5, .int (l5 + 1)), (3, .int 0), (7, .int r_51), (6, .int (g3_5 (Int32.toNatClampNeg (l4 + l5)))), (0, .ref o3), (1, .int l1), (2, .ref o5), (4, .int l4)]) hx hb dX3_join_180 hl (k := 7) rfl rfl (by decide) rfl (fun ls hl => ?_)
                        refine lv_goto (tgt := 50) hx hb dX3_join_183 (by decide) ?_
                        exact (hWW _ _ _ _ _).mpr ((ih (0, 0, l5 + 1, upd g3_5 (Int32.toNatClampNeg (l4 + l5)) r_51) _ hf rfl _ _ _ _ rfl) rfl H locs ls hP hD hS (lv_sub hl [4, 5, 6, 1, 7, 0] rfl))
                      · replace hf := x_in c_76 hf
                        refine lv_iconst (v := 1) hx hb dX3_join_162 (by decide) ?_
                        refine lv_goto (tgt := 167) hx hb dX3_join_163 (by decide) ?_
                        refine lv_istore_n (lv' := [(3, .int 1), (7, .int r_51), (6, .int (g3_5 (Int32.toNatClampNeg (l4 + l5)))), (0, .ref o3), (1, .int l1), (2, .ref o5), (4, .int l4), (5, .int l5)]) hx hb dX3_join_167 rfl hl (by decide) rfl (fun ls hl => ?_)
                        refine lv_aload_n hx hb dX3_join_168 rfl (lv_at hl 3 rfl) ?_
                        refine va_get (D := (dC, dI)) (ci := 3) (v := .ref a3_5) (C := RX3) (T := TX3) (N := 17) hx hb hts i_X3_join_X3 hown hK hP 2 rfl rfl 5 (by decide) k_2 (fun _ h9 => h9) rfl dX3_join_169 ?_
                        refine lv_iload hx hb dX3_join_172 (lv_at hl 6 rfl) ?_
                        refine lv_iload hx hb dX3_join_174 (lv_at hl 7 rfl) ?_
                        refine lv_iadd hx hb dX3_join_176 ?_
                        refine lv_iload hx hb dX3_join_177 (lv_at hl 1 rfl) ?_
                        obtain ⟨g_78, hf⟩ := x_gu hf
                        refine va_iast hx hb hK hP hD hS 3 0 rfl rfl (x_gdin g_78) dX3_join_179 (fun H locs hP hD hS => ?_)
                        have hP : va_P (dC, dI) vwCl [(o7, .inr (7, [.ref a7_0, .ref a7_1, .int v7_2])), (a7_0, .inl (cyI, 200, .inl g7_0)), (o3, .inr (3, [.ref o7, .ref o1, .int v3_2, .int v3_3, .int v3_4, .ref a3_5, .ref a3_6, .ref a3_7, .ref a3_8, .ref a3_9, .ref a3_10, .ref a3_11, .ref a3_12, .int v3_13, .int v3_14, .ref a3_15, .ref a3_16])), (a3_5, .inl (cyI, n3_5, .inl (upd g3_5 (Int32.toNatClampNeg (l4 + l5)) r_51))), (a3_8, .inl (cyI, n3_8, .inl g3_8)), (a3_9, .inl (cyI, n3_9, .inl g3_9)), (a3_12, .inl (cyI, n3_12, .inl g3_12)), (o5, .inr (5, [.ref o7, .ref a5_1, .int v5_2, .int v5_3, .int v5_4, .int v5_5, .int v5_6, .int v5_7, .int v5_8, .int v5_9])), (a5_1, .inl (cyI, 400, .inl g5_1))] H := hP
                        have hD : va_D A [(o7, .inr (7, [.ref a7_0, .ref a7_1, .int v7_2])), (a7_0, .inl (cyI, 200, .inl g7_0)), (o3, .inr (3, [.ref o7, .ref o1, .int v3_2, .int v3_3, .int v3_4, .ref a3_5, .ref a3_6, .ref a3_7, .ref a3_8, .ref a3_9, .ref a3_10, .ref a3_11, .ref a3_12, .int v3_13, .int v3_14, .ref a3_15, .ref a3_16])), (a3_5, .inl (cyI, n3_5, .inl (upd g3_5 (Int32.toNatClampNeg (l4 + l5)) r_51))), (a3_8, .inl (cyI, n3_8, .inl g3_8)), (a3_9, .inl (cyI, n3_9, .inl g3_9)), (a3_12, .inl (cyI, n3_12, .inl g3_12)), (o5, .inr (5, [.ref o7, .ref a5_1, .int v5_2, .int v5_3, .int v5_4, .int v5_5, .int v5_6, .int v5_7, .int v5_8, .int v5_9])), (a5_1, .inl (cyI, 400, .inl g5_1))] := hD
                        refine lv_iinc (v := (l5 + 1)) (lv' := [(5, .int (l5 + 1)), (3, .int 1), (7, .int r_51), (6, .int (g3_5 (Int32.toNatClampNeg (l4 + l5)))), (0, .ref o3), (1, .int l1), (2, .ref o5), (4, .int l4)]) hx hb dX3_join_180 hl (k := 7) rfl rfl (by decide) rfl (fun ls hl => ?_)
                        refine lv_goto (tgt := 50) hx hb dX3_join_183 (by decide) ?_
                        exact (hWW _ _ _ _ _).mpr ((ih (0, 1, l5 + 1, upd g3_5 (Int32.toNatClampNeg (l4 + l5)) r_51) _ hf rfl _ _ _ _ rfl) rfl H locs ls hP hD hS (lv_sub hl [4, 5, 6, 1, 7, 0] rfl))
                  · replace hf := x_in c_73 hf
                    refine lv_iconst (v := 0) hx hb dX3_join_149 (by decide) ?_
                    obtain rfl := Option.some.inj hf
                    have hP9 := hP.sub (ws' := [(o7, .inr (7, [.ref a7_0, .ref a7_1, .int v7_2])), (a7_0, .inl (cyI, 200, .inl g7_0)), (o3, .inr (3, [.ref o7, .ref o1, .int v3_2, .int v3_3, .int v3_4, .ref a3_5, .ref a3_6, .ref a3_7, .ref a3_8, .ref a3_9, .ref a3_10, .ref a3_11, .ref a3_12, .int v3_13, .int v3_14, .ref a3_15, .ref a3_16])), (a3_5, .inl (cyI, n3_5, .inl g3_5)), (a3_8, .inl (cyI, n3_8, .inl g3_8)), (a3_9, .inl (cyI, n3_9, .inl g3_9)), (a3_12, .inl (cyI, n3_12, .inl g3_12)), (o5, .inr (5, [.ref o7, .ref a5_1, .int v5_2, .int v5_3, .int v5_4, .int v5_5, .int v5_6, .int v5_7, .int v5_8, .int v5_9])), (a5_1, .inl (cyI, 400, .inl g5_1))]) [0, 1, 2, 3, 4, 5, 6, 7, 8] rfl
                    have hD9 := hD.sub (ws' := [(o7, .inr (7, [.ref a7_0, .ref a7_1, .int v7_2])), (a7_0, .inl (cyI, 200, .inl g7_0)), (o3, .inr (3, [.ref o7, .ref o1, .int v3_2, .int v3_3, .int v3_4, .ref a3_5, .ref a3_6, .ref a3_7, .ref a3_8, .ref a3_9, .ref a3_10, .ref a3_11, .ref a3_12, .int v3_13, .int v3_14, .ref a3_15, .ref a3_16])), (a3_5, .inl (cyI, n3_5, .inl g3_5)), (a3_8, .inl (cyI, n3_8, .inl g3_8)), (a3_9, .inl (cyI, n3_9, .inl g3_9)), (a3_12, .inl (cyI, n3_12, .inl g3_12)), (o5, .inr (5, [.ref o7, .ref a5_1, .int v5_2, .int v5_3, .int v5_4, .int v5_5, .int v5_6, .int v5_7, .int v5_8, .int v5_9])), (a5_1, .inl (cyI, 400, .inl g5_1))]) [0, 1, 2, 3, 4, 5, 6, 7, 8] (by decide) rfl
                    exact W.zret (ty := .boolean) hx hb hr rfl (fun t ht hW => ⟨⟨_, (), rfl, ⟨rfl, rfl⟩, by rw [ht]; exact hP9, va_K.moved hW.alike hK, hD9⟩, hS.F ht⟩) hS.2.2 dX3_join_150
              · replace hf := x_ip c_66 hf
                refine lv_iconst (v := 0) hx hb dX3_join_132 (by decide) ?_
                refine lv_istore (lv' := [(7, .int 0), (6, .int (g3_5 (Int32.toNatClampNeg (l4 + l5)))), (0, .ref o3), (1, .int l1), (2, .ref o5), (3, .int l3), (4, .int l4), (5, .int l5)]) hx hb dX3_join_133 hl (by decide) rfl (fun ls hl => ?_)
                refine lv_iload hx hb dX3_join_135 (lv_at hl 0 rfl) ?_
                refine lv_if_ne (tgt := 151) hx hb dX3_join_137 (by decide) (fun c_79 => absurd (by decide) c_79) (fun _ => ?_)
                refine lv_iload hx hb dX3_join_140 (lv_at hl 7 rfl) ?_
                refine lv_aload_n hx hb dX3_join_142 rfl (lv_at hl 2 rfl) ?_
                refine va_get (D := (dC, dI)) (ci := 3) (v := .int v3_2) (C := RX3) (T := TX3) (N := 17) hx hb hts i_X3_join_X3 hown hK hP 2 rfl rfl 2 (by decide) k_4 (fun _ h9 => h9) rfl dX3_join_143 ?_
                refine lv_icmp_lt (tgt := 151) hx hb dX3_join_146 (by decide) (fun c_80 => ?_) (fun c_80 => ?_)
                · replace hf := x_ip c_80 hf
                  refine lv_iload_n hx hb dX3_join_151 rfl (lv_at hl 5 rfl) ?_
                  refine lv_if_ne (tgt := 162) hx hb dX3_join_152 (by decide) (fun c_81 => ?_) (fun c_81 => ?_)
                  · replace hf := x_in c_81 hf
                    refine lv_iconst (v := 1) hx hb dX3_join_162 (by decide) ?_
                    refine lv_goto (tgt := 167) hx hb dX3_join_163 (by decide) ?_
                    refine lv_istore_n (lv' := [(3, .int 1), (7, .int 0), (6, .int (g3_5 (Int32.toNatClampNeg (l4 + l5)))), (0, .ref o3), (1, .int l1), (2, .ref o5), (4, .int l4), (5, .int l5)]) hx hb dX3_join_167 rfl hl (by decide) rfl (fun ls hl => ?_)
                    refine lv_aload_n hx hb dX3_join_168 rfl (lv_at hl 3 rfl) ?_
                    refine va_get (D := (dC, dI)) (ci := 3) (v := .ref a3_5) (C := RX3) (T := TX3) (N := 17) hx hb hts i_X3_join_X3 hown hK hP 2 rfl rfl 5 (by decide) k_2 (fun _ h9 => h9) rfl dX3_join_169 ?_
                    refine lv_iload hx hb dX3_join_172 (lv_at hl 6 rfl) ?_
                    refine lv_iload hx hb dX3_join_174 (lv_at hl 7 rfl) ?_
                    refine lv_iadd hx hb dX3_join_176 ?_
                    refine lv_iload hx hb dX3_join_177 (lv_at hl 1 rfl) ?_
                    obtain ⟨g_82, hf⟩ := x_gu hf
                    refine va_iast hx hb hK hP hD hS 3 0 rfl rfl (x_gdin g_82) dX3_join_179 (fun H locs hP hD hS => ?_)
                    have hP : va_P (dC, dI) vwCl [(o7, .inr (7, [.ref a7_0, .ref a7_1, .int v7_2])), (a7_0, .inl (cyI, 200, .inl g7_0)), (o3, .inr (3, [.ref o7, .ref o1, .int v3_2, .int v3_3, .int v3_4, .ref a3_5, .ref a3_6, .ref a3_7, .ref a3_8, .ref a3_9, .ref a3_10, .ref a3_11, .ref a3_12, .int v3_13, .int v3_14, .ref a3_15, .ref a3_16])), (a3_5, .inl (cyI, n3_5, .inl (upd g3_5 (Int32.toNatClampNeg (l4 + l5)) 0))), (a3_8, .inl (cyI, n3_8, .inl g3_8)), (a3_9, .inl (cyI, n3_9, .inl g3_9)), (a3_12, .inl (cyI, n3_12, .inl g3_12)), (o5, .inr (5, [.ref o7, .ref a5_1, .int v5_2, .int v5_3, .int v5_4, .int v5_5, .int v5_6, .int v5_7, .int v5_8, .int v5_9])), (a5_1, .inl (cyI, 400, .inl g5_1))] H := hP
                    have hD : va_D A [(o7, .inr (7, [.ref a7_0, .ref a7_1, .int v7_2])), (a7_0, .inl (cyI, 200, .inl g7_0)), (o3, .inr (3, [.ref o7, .ref o1, .int v3_2, .int v3_3, .int v3_4, .ref a3_5, .ref a3_6, .ref a3_7, .ref a3_8, .ref a3_9, .ref a3_10, .ref a3_11, .ref a3_12, .int v3_13, .int v3_14, .ref a3_15, .ref a3_16])), (a3_5, .inl (cyI, n3_5, .inl (upd g3_5 (Int32.toNatClampNeg (l4 + l5)) 0))), (a3_8, .inl (cyI, n3_8, .inl g3_8)), (a3_9, .inl (cyI, n3_9, .inl g3_9)), (a3_12, .inl (cyI, n3_12, .inl g3_12)), (o5, .inr (5, [.ref o7, .ref a5_1, .int v5_2, .int v5_3, .int v5_4, .int v5_5, .int v5_6, .int v5_7, .int v5_8, .int v5_9])), (a5_1, .inl (cyI, 400, .inl g5_1))] := hD
                    refine lv_iinc (v := (l5 + 1)) (lv' := [(5, .int (l5 + 1)), (3, .int 1), (7, .int 0), (6, .int (g3_5 (Int32.toNatClampNeg (l4 + l5)))), (0, .ref o3), (1, .int l1), (2, .ref o5), (4, .int l4)]) hx hb dX3_join_180 hl (k := 7) rfl rfl (by decide) rfl (fun ls hl => ?_)
                    refine lv_goto (tgt := 50) hx hb dX3_join_183 (by decide) ?_
                    exact (hWW _ _ _ _ _).mpr ((ih (0, 1, l5 + 1, upd g3_5 (Int32.toNatClampNeg (l4 + l5)) 0) _ hf rfl _ _ _ _ rfl) rfl H locs ls hP hD hS (lv_sub hl [4, 5, 6, 1, 7, 0] rfl))
                  · replace hf := x_ip c_81 hf
                    refine lv_iload hx hb dX3_join_155 (lv_at hl 0 rfl) ?_
                    refine lv_iload hx hb dX3_join_157 (lv_at hl 1 rfl) ?_
                    refine lv_icmp_eq (tgt := 166) hx hb dX3_join_159 (by decide) (fun c_83 => ?_) (fun c_83 => ?_)
                    · replace hf := x_ip c_83 hf
                      refine lv_iconst (v := 0) hx hb dX3_join_166 (by decide) ?_
                      refine lv_istore_n (lv' := [(3, .int 0), (7, .int 0), (6, .int (g3_5 (Int32.toNatClampNeg (l4 + l5)))), (0, .ref o3), (1, .int l1), (2, .ref o5), (4, .int l4), (5, .int l5)]) hx hb dX3_join_167 rfl hl (by decide) rfl (fun ls hl => ?_)
                      refine lv_aload_n hx hb dX3_join_168 rfl (lv_at hl 3 rfl) ?_
                      refine va_get (D := (dC, dI)) (ci := 3) (v := .ref a3_5) (C := RX3) (T := TX3) (N := 17) hx hb hts i_X3_join_X3 hown hK hP 2 rfl rfl 5 (by decide) k_2 (fun _ h9 => h9) rfl dX3_join_169 ?_
                      refine lv_iload hx hb dX3_join_172 (lv_at hl 6 rfl) ?_
                      refine lv_iload hx hb dX3_join_174 (lv_at hl 7 rfl) ?_
                      refine lv_iadd hx hb dX3_join_176 ?_
                      refine lv_iload hx hb dX3_join_177 (lv_at hl 1 rfl) ?_
                      obtain ⟨g_84, hf⟩ := x_gu hf
                      refine va_iast hx hb hK hP hD hS 3 0 rfl rfl (x_gdin g_84) dX3_join_179 (fun H locs hP hD hS => ?_)
                      have hP : va_P (dC, dI) vwCl [(o7, .inr (7, [.ref a7_0, .ref a7_1, .int v7_2])), (a7_0, .inl (cyI, 200, .inl g7_0)), (o3, .inr (3, [.ref o7, .ref o1, .int v3_2, .int v3_3, .int v3_4, .ref a3_5, .ref a3_6, .ref a3_7, .ref a3_8, .ref a3_9, .ref a3_10, .ref a3_11, .ref a3_12, .int v3_13, .int v3_14, .ref a3_15, .ref a3_16])), (a3_5, .inl (cyI, n3_5, .inl (upd g3_5 (Int32.toNatClampNeg (l4 + l5)) 0))), (a3_8, .inl (cyI, n3_8, .inl g3_8)), (a3_9, .inl (cyI, n3_9, .inl g3_9)), (a3_12, .inl (cyI, n3_12, .inl g3_12)), (o5, .inr (5, [.ref o7, .ref a5_1, .int v5_2, .int v5_3, .int v5_4, .int v5_5, .int v5_6, .int v5_7, .int v5_8, .int v5_9])), (a5_1, .inl (cyI, 400, .inl g5_1))] H := hP
                      have hD : va_D A [(o7, .inr (7, [.ref a7_0, .ref a7_1, .int v7_2])), (a7_0, .inl (cyI, 200, .inl g7_0)), (o3, .inr (3, [.ref o7, .ref o1, .int v3_2, .int v3_3, .int v3_4, .ref a3_5, .ref a3_6, .ref a3_7, .ref a3_8, .ref a3_9, .ref a3_10, .ref a3_11, .ref a3_12, .int v3_13, .int v3_14, .ref a3_15, .ref a3_16])), (a3_5, .inl (cyI, n3_5, .inl (upd g3_5 (Int32.toNatClampNeg (l4 + l5)) 0))), (a3_8, .inl (cyI, n3_8, .inl g3_8)), (a3_9, .inl (cyI, n3_9, .inl g3_9)), (a3_12, .inl (cyI, n3_12, .inl g3_12)), (o5, .inr (5, [.ref o7, .ref a5_1, .int v5_2, .int v5_3, .int v5_4, .int v5_5, .int v5_6, .int v5_7, .int v5_8, .int v5_9])), (a5_1, .inl (cyI, 400, .inl g5_1))] := hD
                      refine lv_iinc (v := (l5 + 1)) (lv' := [(5, .int (l5 + 1)), (3, .int 0), (7, .int 0), (6, .int (g3_5 (Int32.toNatClampNeg (l4 + l5)))), (0, .ref o3), (1, .int l1), (2, .ref o5), (4, .int l4)]) hx hb dX3_join_180 hl (k := 7) rfl rfl (by decide) rfl (fun ls hl => ?_)
                      refine lv_goto (tgt := 50) hx hb dX3_join_183 (by decide) ?_
                      exact (hWW _ _ _ _ _).mpr ((ih (0, 0, l5 + 1, upd g3_5 (Int32.toNatClampNeg (l4 + l5)) 0) _ hf rfl _ _ _ _ rfl) rfl H locs ls hP hD hS (lv_sub hl [4, 5, 6, 1, 7, 0] rfl))
                    · replace hf := x_in c_83 hf
                      refine lv_iconst (v := 1) hx hb dX3_join_162 (by decide) ?_
                      refine lv_goto (tgt := 167) hx hb dX3_join_163 (by decide) ?_
                      refine lv_istore_n (lv' := [(3, .int 1), (7, .int 0), (6, .int (g3_5 (Int32.toNatClampNeg (l4 + l5)))), (0, .ref o3), (1, .int l1), (2, .ref o5), (4, .int l4), (5, .int l5)]) hx hb dX3_join_167 rfl hl (by decide) rfl (fun ls hl => ?_)
                      refine lv_aload_n hx hb dX3_join_168 rfl (lv_at hl 3 rfl) ?_
                      refine va_get (D := (dC, dI)) (ci := 3) (v := .ref a3_5) (C := RX3) (T := TX3) (N := 17) hx hb hts i_X3_join_X3 hown hK hP 2 rfl rfl 5 (by decide) k_2 (fun _ h9 => h9) rfl dX3_join_169 ?_
                      refine lv_iload hx hb dX3_join_172 (lv_at hl 6 rfl) ?_
                      refine lv_iload hx hb dX3_join_174 (lv_at hl 7 rfl) ?_
                      refine lv_iadd hx hb dX3_join_176 ?_
                      refine lv_iload hx hb dX3_join_177 (lv_at hl 1 rfl) ?_
                      obtain ⟨g_85, hf⟩ := x_gu hf
                      refine va_iast hx hb hK hP hD hS 3 0 rfl rfl (x_gdin g_85) dX3_join_179 (fun H locs hP hD hS => ?_)
                      have hP : va_P (dC, dI) vwCl [(o7, .inr (7, [.ref a7_0, .ref a7_1, .int v7_2])), (a7_0, .inl (cyI, 200, .inl g7_0)), (o3, .inr (3, [.ref o7, .ref o1, .int v3_2, .int v3_3, .int v3_4, .ref a3_5, .ref a3_6, .ref a3_7, .ref a3_8, .ref a3_9, .ref a3_10, .ref a3_11, .ref a3_12, .int v3_13, .int v3_14, .ref a3_15, .ref a3_16])), (a3_5, .inl (cyI, n3_5, .inl (upd g3_5 (Int32.toNatClampNeg (l4 + l5)) 0))), (a3_8, .inl (cyI, n3_8, .inl g3_8)), (a3_9, .inl (cyI, n3_9, .inl g3_9)), (a3_12, .inl (cyI, n3_12, .inl g3_12)), (o5, .inr (5, [.ref o7, .ref a5_1, .int v5_2, .int v5_3, .int v5_4, .int v5_5, .int v5_6, .int v5_7, .int v5_8, .int v5_9])), (a5_1, .inl (cyI, 400, .inl g5_1))] H := hP
                      have hD : va_D A [(o7, .inr (7, [.ref a7_0, .ref a7_1, .int v7_2])), (a7_0, .inl (cyI, 200, .inl g7_0)), (o3, .inr (3, [.ref o7, .ref o1, .int v3_2, .int v3_3, .int v3_4, .ref a3_5, .ref a3_6, .ref a3_7, .ref a3_8, .ref a3_9, .ref a3_10, .ref a3_11, .ref a3_12, .int v3_13, .int v3_14, .ref a3_15, .ref a3_16])), (a3_5, .inl (cyI, n3_5, .inl (upd g3_5 (Int32.toNatClampNeg (l4 + l5)) 0))), (a3_8, .inl (cyI, n3_8, .inl g3_8)), (a3_9, .inl (cyI, n3_9, .inl g3_9)), (a3_12, .inl (cyI, n3_12, .inl g3_12)), (o5, .inr (5, [.ref o7, .ref a5_1, .int v5_2, .int v5_3, .int v5_4, .int v5_5, .int v5_6, .int v5_7, .int v5_8, .int v5_9])), (a5_1, .inl (cyI, 400, .inl g5_1))] := hD
                      refine lv_iinc (v := (l5 + 1)) (lv' := [(5, .int (l5 + 1)), (3, .int 1), (7, .int 0), (6, .int (g3_5 (Int32.toNatClampNeg (l4 + l5)))), (0, .ref o3), (1, .int l1), (2, .ref o5), (4, .int l4)]) hx hb dX3_join_180 hl (k := 7) rfl rfl (by decide) rfl (fun ls hl => ?_)
                      refine lv_goto (tgt := 50) hx hb dX3_join_183 (by decide) ?_
                      exact (hWW _ _ _ _ _).mpr ((ih (0, 1, l5 + 1, upd g3_5 (Int32.toNatClampNeg (l4 + l5)) 0) _ hf rfl _ _ _ _ rfl) rfl H locs ls hP hD hS (lv_sub hl [4, 5, 6, 1, 7, 0] rfl))
                · replace hf := x_in c_80 hf
                  refine lv_iconst (v := 0) hx hb dX3_join_149 (by decide) ?_
                  obtain rfl := Option.some.inj hf
                  have hP9 := hP.sub (ws' := [(o7, .inr (7, [.ref a7_0, .ref a7_1, .int v7_2])), (a7_0, .inl (cyI, 200, .inl g7_0)), (o3, .inr (3, [.ref o7, .ref o1, .int v3_2, .int v3_3, .int v3_4, .ref a3_5, .ref a3_6, .ref a3_7, .ref a3_8, .ref a3_9, .ref a3_10, .ref a3_11, .ref a3_12, .int v3_13, .int v3_14, .ref a3_15, .ref a3_16])), (a3_5, .inl (cyI, n3_5, .inl g3_5)), (a3_8, .inl (cyI, n3_8, .inl g3_8)), (a3_9, .inl (cyI, n3_9, .inl g3_9)), (a3_12, .inl (cyI, n3_12, .inl g3_12)), (o5, .inr (5, [.ref o7, .ref a5_1, .int v5_2, .int v5_3, .int v5_4, .int v5_5, .int v5_6, .int v5_7, .int v5_8, .int v5_9])), (a5_1, .inl (cyI, 400, .inl g5_1))]) [0, 1, 2, 3, 4, 5, 6, 7, 8] rfl
                  have hD9 := hD.sub (ws' := [(o7, .inr (7, [.ref a7_0, .ref a7_1, .int v7_2])), (a7_0, .inl (cyI, 200, .inl g7_0)), (o3, .inr (3, [.ref o7, .ref o1, .int v3_2, .int v3_3, .int v3_4, .ref a3_5, .ref a3_6, .ref a3_7, .ref a3_8, .ref a3_9, .ref a3_10, .ref a3_11, .ref a3_12, .int v3_13, .int v3_14, .ref a3_15, .ref a3_16])), (a3_5, .inl (cyI, n3_5, .inl g3_5)), (a3_8, .inl (cyI, n3_8, .inl g3_8)), (a3_9, .inl (cyI, n3_9, .inl g3_9)), (a3_12, .inl (cyI, n3_12, .inl g3_12)), (o5, .inr (5, [.ref o7, .ref a5_1, .int v5_2, .int v5_3, .int v5_4, .int v5_5, .int v5_6, .int v5_7, .int v5_8, .int v5_9])), (a5_1, .inl (cyI, 400, .inl g5_1))]) [0, 1, 2, 3, 4, 5, 6, 7, 8] (by decide) rfl
                  exact W.zret (ty := .boolean) hx hb hr rfl (fun t ht hW => ⟨⟨_, (), rfl, ⟨rfl, rfl⟩, by rw [ht]; exact hP9, va_K.moved hW.alike hK, hD9⟩, hS.F ht⟩) hS.2.2 dX3_join_150
          · replace hf := x_in c_49 hf
            refine lv_goto (tgt := 180) hx hb dX3_join_90 (by decide) ?_
            refine lv_iinc (v := (l5 + 1)) (lv' := [(5, .int (l5 + 1)), (6, .int (g3_5 (Int32.toNatClampNeg (l4 + l5)))), (0, .ref o3), (1, .int l1), (2, .ref o5), (3, .int l3), (4, .int l4)]) hx hb dX3_join_180 hl (k := 6) rfl rfl (by decide) rfl (fun ls hl => ?_)
            refine lv_goto (tgt := 50) hx hb dX3_join_183 (by decide) ?_
            exact (hWW _ _ _ _ _).mpr ((ih (0, l3, l5 + 1, g3_5) _ hf rfl _ _ _ _ rfl) rfl H locs ls hP hD hS (lv_sub hl [2, 3, 4, 5, 6, 0] rfl)))
  refine lv_aload_n hx hb dX3_join_0 rfl (lv_at hl 2 rfl) ?_
  refine va_getN (D := (dC, dI)) (ci := 5) (v := .int v5_3) (C := RX5) (T := TX5) (N := 10) hx hb hts i_X3_join_X5 hown hK hP 7 rfl rfl 3 (by decide) ((hN.1 ("FlowJudge$Frames", 79, "FlowJudge$Places", "top", "I") (List.mem_of_getElem? (i := 31) rfl)).use rfl) (fun _ h9 => h9) rfl dX3_join_1 ?_
  refine lv_aload_n hx hb dX3_join_4 rfl (lv_at hl 0 rfl) ?_
  refine va_get (D := (dC, dI)) (ci := 3) (v := .int v3_2) (C := RX3) (T := TX3) (N := 17) hx hb hts i_X3_join_X3 hown hK hP 2 rfl rfl 2 (by decide) k_4 (fun _ h9 => h9) rfl dX3_join_5 ?_
  refine lv_isub hx hb dX3_join_8 ?_
  refine lv_aload_n hx hb dX3_join_9 rfl (lv_at hl 0 rfl) ?_
  refine va_get (D := (dC, dI)) (ci := 3) (v := .ref a3_8) (C := RX3) (T := TX3) (N := 17) hx hb hts i_X3_join_X3 hown hK hP 2 rfl rfl 8 (by decide) k_5 (fun _ h9 => h9) rfl dX3_join_10 ?_
  refine lv_iload_n hx hb dX3_join_13 rfl (lv_at hl 1 rfl) ?_
  obtain ⟨g_86, hf⟩ := x_gu hf
  refine va_iald hx hb hK hP 4 0 rfl rfl (x_gdin g_86) dX3_join_14 ?_
  refine lv_icmp_eq (tgt := 20) hx hb dX3_join_15 (by decide) (fun c_87 => ?_) (fun c_87 => ?_)
  · replace hf := x_ip c_87 hf
    refine lv_aload_n hx hb dX3_join_20 rfl (lv_at hl 2 rfl) ?_
    refine va_getN (D := (dC, dI)) (ci := 5) (v := .int v5_5) (C := RX5) (T := TX5) (N := 10) hx hb hts i_X3_join_X5 hown hK hP 7 rfl rfl 5 (by decide) ((hN.1 ("FlowJudge$Frames", 84, "FlowJudge$Places", "made", "I") (List.mem_of_getElem? (i := 32) rfl)).use rfl) (fun _ h9 => h9) rfl dX3_join_21 ?_
    refine lv_aload_n hx hb dX3_join_24 rfl (lv_at hl 0 rfl) ?_
    refine va_get (D := (dC, dI)) (ci := 3) (v := .ref a3_9) (C := RX3) (T := TX3) (N := 17) hx hb hts i_X3_join_X3 hown hK hP 2 rfl rfl 9 (by decide) k_1 (fun _ h9 => h9) rfl dX3_join_25 ?_
    refine lv_iload_n hx hb dX3_join_28 rfl (lv_at hl 1 rfl) ?_
    obtain ⟨g_88, hf⟩ := x_gu hf
    refine va_iald hx hb hK hP 5 0 rfl rfl (x_gdin g_88) dX3_join_29 ?_
    refine lv_icmp_ge (tgt := 37) hx hb dX3_join_30 (by decide) (fun c_89 => ?_) (fun c_89 => ?_)
    · replace hf := x_ip c_89 hf
      refine lv_iconst (v := 0) hx hb dX3_join_37 (by decide) ?_
      refine lv_istore_n (lv' := [(3, .int 0), (0, .ref o3), (1, .int p1), (2, .ref o5)]) hx hb dX3_join_38 rfl hl (by decide) rfl (fun ls hl => ?_)
      refine lv_iload_n hx hb dX3_join_39 rfl (lv_at hl 2 rfl) ?_
      refine lv_aload_n hx hb dX3_join_40 rfl (lv_at hl 1 rfl) ?_
      refine va_get (D := (dC, dI)) (ci := 3) (v := .int v3_3) (C := RX3) (T := TX3) (N := 17) hx hb hts i_X3_join_X3 hown hK hP 2 rfl rfl 3 (by decide) k_6 (fun _ h9 => h9) rfl dX3_join_41 ?_
      refine lv_imul hx hb dX3_join_44 ?_
      refine lv_istore (lv' := [(4, .int (p1 * v3_3)), (3, .int 0), (0, .ref o3), (1, .int p1), (2, .ref o5)]) hx hb dX3_join_45 hl (by decide) rfl (fun ls hl => ?_)
      refine lv_iconst (v := 0) hx hb dX3_join_47 (by decide) ?_
      refine lv_istore (lv' := [(5, .int 0), (4, .int (p1 * v3_3)), (3, .int 0), (0, .ref o3), (1, .int p1), (2, .ref o5)]) hx hb dX3_join_48 hl (by decide) rfl (fun ls hl => ?_)
      exact (hWW _ _ _ _ _).mpr ((J p1 (p1 * v3_3) v3_13 v3_14 g3_9 g3_12 (0, 0, 0, g3_5) _ hf rfl _ _ _ _ rfl) rfl H locs ls hP hD hS (lv_sub hl [3, 4, 5, 2, 1, 0] rfl))
    · replace hf := x_in c_89 hf
      refine lv_iconst (v := 1) hx hb dX3_join_33 (by decide) ?_
      refine lv_goto (tgt := 38) hx hb dX3_join_34 (by decide) ?_
      refine lv_istore_n (lv' := [(3, .int 1), (0, .ref o3), (1, .int p1), (2, .ref o5)]) hx hb dX3_join_38 rfl hl (by decide) rfl (fun ls hl => ?_)
      refine lv_iload_n hx hb dX3_join_39 rfl (lv_at hl 2 rfl) ?_
      refine lv_aload_n hx hb dX3_join_40 rfl (lv_at hl 1 rfl) ?_
      refine va_get (D := (dC, dI)) (ci := 3) (v := .int v3_3) (C := RX3) (T := TX3) (N := 17) hx hb hts i_X3_join_X3 hown hK hP 2 rfl rfl 3 (by decide) k_6 (fun _ h9 => h9) rfl dX3_join_41 ?_
      refine lv_imul hx hb dX3_join_44 ?_
      refine lv_istore (lv' := [(4, .int (p1 * v3_3)), (3, .int 1), (0, .ref o3), (1, .int p1), (2, .ref o5)]) hx hb dX3_join_45 hl (by decide) rfl (fun ls hl => ?_)
      refine lv_iconst (v := 0) hx hb dX3_join_47 (by decide) ?_
      refine lv_istore (lv' := [(5, .int 0), (4, .int (p1 * v3_3)), (3, .int 1), (0, .ref o3), (1, .int p1), (2, .ref o5)]) hx hb dX3_join_48 hl (by decide) rfl (fun ls hl => ?_)
      exact (hWW _ _ _ _ _).mpr ((J p1 (p1 * v3_3) v3_13 v3_14 g3_9 g3_12 (0, 1, 0, g3_5) _ hf rfl _ _ _ _ rfl) rfl H locs ls hP hD hS (lv_sub hl [3, 4, 5, 2, 1, 0] rfl))
  · replace hf := x_in c_87 hf
    refine lv_iconst (v := 0) hx hb dX3_join_18 (by decide) ?_
    obtain rfl := Option.some.inj hf
    have hP9 := hP.sub (ws' := [(o7, .inr (7, [.ref a7_0, .ref a7_1, .int v7_2])), (a7_0, .inl (cyI, 200, .inl g7_0)), (o3, .inr (3, [.ref o7, .ref o1, .int v3_2, .int v3_3, .int v3_4, .ref a3_5, .ref a3_6, .ref a3_7, .ref a3_8, .ref a3_9, .ref a3_10, .ref a3_11, .ref a3_12, .int v3_13, .int v3_14, .ref a3_15, .ref a3_16])), (a3_5, .inl (cyI, n3_5, .inl g3_5)), (a3_8, .inl (cyI, n3_8, .inl g3_8)), (a3_9, .inl (cyI, n3_9, .inl g3_9)), (a3_12, .inl (cyI, n3_12, .inl g3_12)), (o5, .inr (5, [.ref o7, .ref a5_1, .int v5_2, .int v5_3, .int v5_4, .int v5_5, .int v5_6, .int v5_7, .int v5_8, .int v5_9])), (a5_1, .inl (cyI, 400, .inl g5_1))]) [0, 1, 2, 3, 4, 5, 6, 7, 8] rfl
    have hD9 := hD.sub (ws' := [(o7, .inr (7, [.ref a7_0, .ref a7_1, .int v7_2])), (a7_0, .inl (cyI, 200, .inl g7_0)), (o3, .inr (3, [.ref o7, .ref o1, .int v3_2, .int v3_3, .int v3_4, .ref a3_5, .ref a3_6, .ref a3_7, .ref a3_8, .ref a3_9, .ref a3_10, .ref a3_11, .ref a3_12, .int v3_13, .int v3_14, .ref a3_15, .ref a3_16])), (a3_5, .inl (cyI, n3_5, .inl g3_5)), (a3_8, .inl (cyI, n3_8, .inl g3_8)), (a3_9, .inl (cyI, n3_9, .inl g3_9)), (a3_12, .inl (cyI, n3_12, .inl g3_12)), (o5, .inr (5, [.ref o7, .ref a5_1, .int v5_2, .int v5_3, .int v5_4, .int v5_5, .int v5_6, .int v5_7, .int v5_8, .int v5_9])), (a5_1, .inl (cyI, 400, .inl g5_1))]) [0, 1, 2, 3, 4, 5, 6, 7, 8] (by decide) rfl
    exact W.zret (ty := .boolean) hx hb hr rfl (fun t ht hW => ⟨⟨_, (), rfl, ⟨rfl, rfl⟩, by rw [ht]; exact hP9, va_K.moved hW.alike hK, hD9⟩, hS.F ht⟩) hS.2.2 dX3_join_19

def f_X3_isAnyAwaited (v3_13 : Int32) : Option (Int32) := if v3_13 = (-1 : Int32) then some 0 else some 1
theorem i_X3_isAnyAwaited_X3 : ∀ w ∈ wsX30, w ∈ wsX3_isAnyAwaited := fun _ h => List.mem_cons_of_mem _ (List.mem_append_right _ h)
set_option maxHeartbeats 4000000 in
set_option maxRecDepth 100000 in
theorem c_X3_isAnyAwaited (l : Launch) (dC : Nat → ClassId) (dI : Nat → Nat → Nat) (cyI cyZ cyJ : ClassId) (sz : Nat) (o3 : Nat) (o7 : Nat) (o1 : Nat) (v3_2 : Int32) (v3_3 : Int32) (v3_4 : Int32) (a3_5 : Nat) (a3_6 : Nat) (a3_7 : Nat) (a3_8 : Nat) (a3_9 : Nat) (a3_10 : Nat) (a3_11 : Nat) (a3_12 : Nat) (v3_13 : Int32) (v3_14 : Int32) (a3_15 : Nat) (a3_16 : Nat) (R : Int32) (hf : f_X3_isAnyAwaited v3_13 = some R) : Met l yX3_isAnyAwaited wsX3_isAnyAwaited ({ frames := 0, cells := 0, slots := 0, locals := 0 }) (va_Pc [.ref o3] (x_Pre (dC, dI) (x_T cyI cyZ cyJ) [(o3, .inr (3, [.ref o7, .ref o1, .int v3_2, .int v3_3, .int v3_4, .ref a3_5, .ref a3_6, .ref a3_7, .ref a3_8, .ref a3_9, .ref a3_10, .ref a3_11, .ref a3_12, .int v3_13, .int v3_14, .ref a3_15, .ref a3_16]))] sz)) (va_Qi (fun (r : Int32) (_ : Unit) => r = R ∧ x_nb r) (fun _ _ => True) (x_new sz)) 0 0 (x_new sz) := by
  refine Met.ofW (cc := cX3_isAnyAwaited) (maxL := 1) (ret := (some .boolean)) (by decide) rfl ?_
  intro p e s m args below meth c s₁ B hml hv
  obtain ⟨rfl, hsz, hP, hK, hN⟩ := hv
  have hx := B.exec
  have hb := B.bytes
  have hr := B.returns
  have hts := atoms_spec (ws := wsX3_isAnyAwaited) B.pre
  have hown : s.vm.findClass RX3 = some m.cls := findClass_of_methodNamed B.named
  have k_1 := hts (.fieldLink RX3 36 "FlowJudge$Frames" "firstAwaited" "I") (by decide +kernel)
  subst hsz
  have hA : ∀ q : Nat, s.heap.size ≤ q → x_new s.heap.size q := fun _ h => h
  have hS : va_S (x_new s.heap.size) s.heap s.heap [] := va_S.rf
  have hP : va_P (dC, dI) vwCl [(o3, .inr (3, [.ref o7, .ref o1, .int v3_2, .int v3_3, .int v3_4, .ref a3_5, .ref a3_6, .ref a3_7, .ref a3_8, .ref a3_9, .ref a3_10, .ref a3_11, .ref a3_12, .int v3_13, .int v3_14, .ref a3_15, .ref a3_16]))] s.heap := hP
  have hl := lv_entry ([.ref o3]) (n := 1) (Nat.le_of_ble_eq_true rfl)
  rw [lg_entry_eq]
  generalize (lg_sl ([.ref o3]) ++ List.replicate (1 - (lg_sl ([.ref o3])).length) Slot.unset).toArray = ls at hl ⊢
  have hl : lv_has ls 1 [(0, .ref o3)] := hl
  obtain ⟨H, hH⟩ : ∃ z, z = s.heap := ⟨_, rfl⟩
  refine x_here hH ?_
  have hP : va_P (dC, dI) vwCl [(o3, .inr (3, [.ref o7, .ref o1, .int v3_2, .int v3_3, .int v3_4, .ref a3_5, .ref a3_6, .ref a3_7, .ref a3_8, .ref a3_9, .ref a3_10, .ref a3_11, .ref a3_12, .int v3_13, .int v3_14, .ref a3_15, .ref a3_16]))] H := by rw [hH]; exact hP
  have hS : va_S (x_new s.heap.size) s.heap H [] := by rw [hH]; exact va_S.rf
  clear hH
  obtain ⟨locs, hlo⟩ : ∃ z : List Loc, z = [] := ⟨_, rfl⟩
  refine x_herl hlo ?_
  have hS : va_S (x_new s.heap.size) s.heap H locs := by rw [hlo]; exact hS
  clear hlo
  unfold f_X3_isAnyAwaited at hf
  refine lv_aload_n hx hb dX3_isAnyAwaited_0 rfl (lv_at hl 0 rfl) ?_
  refine va_get (D := (dC, dI)) (ci := 3) (v := .int v3_13) (C := RX3) (T := TX3) (N := 17) hx hb hts i_X3_isAnyAwaited_X3 hown hK hP 0 rfl rfl 13 (by decide) k_1 (fun _ h9 => h9) rfl dX3_isAnyAwaited_1 ?_
  refine lv_iconst (v := (-1)) hx hb dX3_isAnyAwaited_4 (by decide) ?_
  refine lv_icmp_eq (tgt := 12) hx hb dX3_isAnyAwaited_5 (by decide) (fun c_1 => ?_) (fun c_1 => ?_)
  · replace hf := x_ip c_1 hf
    refine lv_iconst (v := 0) hx hb dX3_isAnyAwaited_12 (by decide) ?_
    obtain rfl := Option.some.inj hf
    exact W.zret (ty := .boolean) hx hb hr rfl (fun t ht hW => ⟨⟨_, (), rfl, ⟨rfl, rfl⟩, trivial⟩, hS.F ht⟩) hS.2.2 dX3_isAnyAwaited_13
  · replace hf := x_in c_1 hf
    refine lv_iconst (v := 1) hx hb dX3_isAnyAwaited_8 (by decide) ?_
    refine lv_goto (tgt := 13) hx hb dX3_isAnyAwaited_9 (by decide) ?_
    obtain rfl := Option.some.inj hf
    exact W.zret (ty := .boolean) hx hb hr rfl (fun t ht hW => ⟨⟨_, (), rfl, ⟨rfl, rfl⟩, trivial⟩, hS.F ht⟩) hS.2.2 dX3_isAnyAwaited_13

def f_X3_takeAwaited (v3_13 : Int32) (v3_14 : Int32) (g3_12 : Nat → Int32) (n3_12 : Nat) : Option (Int32 × Int32 × Int32 × (Nat → Int32)) := if x_gd v3_13 n3_12 = true then if (g3_12 (Int32.toNatClampNeg v3_13)) = (-1 : Int32) then if x_gd v3_13 n3_12 = true then some (v3_13, g3_12 (Int32.toNatClampNeg v3_13), -1, upd g3_12 (Int32.toNatClampNeg v3_13) (-2)) else none else if x_gd v3_13 n3_12 = true then some (v3_13, g3_12 (Int32.toNatClampNeg v3_13), v3_14, upd g3_12 (Int32.toNatClampNeg v3_13) (-2)) else none else none
theorem i_X3_takeAwaited_X3 : ∀ w ∈ wsX30, w ∈ wsX3_takeAwaited := fun _ h => List.mem_cons_of_mem _ (List.mem_append_right _ h)
set_option maxHeartbeats 4000000 in
set_option maxRecDepth 100000 in
theorem c_X3_takeAwaited (l : Launch) (dC : Nat → ClassId) (dI : Nat → Nat → Nat) (cyI cyZ cyJ : ClassId) (sz : Nat) (o3 : Nat) (o7 : Nat) (o1 : Nat) (v3_2 : Int32) (v3_3 : Int32) (v3_4 : Int32) (a3_5 : Nat) (a3_6 : Nat) (a3_7 : Nat) (a3_8 : Nat) (a3_9 : Nat) (a3_10 : Nat) (a3_11 : Nat) (a3_12 : Nat) (v3_13 : Int32) (v3_14 : Int32) (a3_15 : Nat) (a3_16 : Nat) (g3_12 : Nat → Int32) (n3_12 : Nat) (R : Int32 × Int32 × Int32 × (Nat → Int32)) (hf : f_X3_takeAwaited v3_13 v3_14 g3_12 n3_12 = some R) : Met l yX3_takeAwaited wsX3_takeAwaited ({ frames := 0, cells := 0, slots := 0, locals := 0 }) (va_Pc [.ref o3] (x_PreD (dC, dI) (x_T cyI cyZ cyJ) [(o3, .inr (3, [.ref o7, .ref o1, .int v3_2, .int v3_3, .int v3_4, .ref a3_5, .ref a3_6, .ref a3_7, .ref a3_8, .ref a3_9, .ref a3_10, .ref a3_11, .ref a3_12, .int v3_13, .int v3_14, .ref a3_15, .ref a3_16])), (a3_12, .inl (cyI, n3_12, .inl g3_12))] sz)) (va_Qi (fun (r : Int32) (_ : Unit) => r = R.1) (fun (_ : Unit) (t : State) => va_P (dC, dI) vwCl [(o3, .inr (3, [.ref o7, .ref o1, .int v3_2, .int v3_3, .int v3_4, .ref a3_5, .ref a3_6, .ref a3_7, .ref a3_8, .ref a3_9, .ref a3_10, .ref a3_11, .ref a3_12, .int (R.2.1), .int (R.2.2.1), .ref a3_15, .ref a3_16])), (a3_12, .inl (cyI, n3_12, .inl R.2.2.2))] t.heap ∧ va_K (dC, dI) vwCl (x_T cyI cyZ cyJ) t ∧ va_D (va_A [(o3, .inr (3, [.ref o7, .ref o1, .int v3_2, .int v3_3, .int v3_4, .ref a3_5, .ref a3_6, .ref a3_7, .ref a3_8, .ref a3_9, .ref a3_10, .ref a3_11, .ref a3_12, .int v3_13, .int v3_14, .ref a3_15, .ref a3_16])), (a3_12, .inl (cyI, n3_12, .inl g3_12))] sz) [(o3, .inr (3, [.ref o7, .ref o1, .int v3_2, .int v3_3, .int v3_4, .ref a3_5, .ref a3_6, .ref a3_7, .ref a3_8, .ref a3_9, .ref a3_10, .ref a3_11, .ref a3_12, .int (R.2.1), .int (R.2.2.1), .ref a3_15, .ref a3_16])), (a3_12, .inl (cyI, n3_12, .inl R.2.2.2))]) (va_A [(o3, .inr (3, [.ref o7, .ref o1, .int v3_2, .int v3_3, .int v3_4, .ref a3_5, .ref a3_6, .ref a3_7, .ref a3_8, .ref a3_9, .ref a3_10, .ref a3_11, .ref a3_12, .int v3_13, .int v3_14, .ref a3_15, .ref a3_16])), (a3_12, .inl (cyI, n3_12, .inl g3_12))] sz)) 0 0 (va_A [(o3, .inr (3, [.ref o7, .ref o1, .int v3_2, .int v3_3, .int v3_4, .ref a3_5, .ref a3_6, .ref a3_7, .ref a3_8, .ref a3_9, .ref a3_10, .ref a3_11, .ref a3_12, .int v3_13, .int v3_14, .ref a3_15, .ref a3_16])), (a3_12, .inl (cyI, n3_12, .inl g3_12))] sz) := by
  refine Met.ofW (cc := cX3_takeAwaited) (maxL := 2) (ret := (some .int)) (by decide) rfl ?_
  intro p e s m args below meth c s₁ B hml hv
  obtain ⟨rfl, ⟨hsz, hP, hK, hN⟩, hD0⟩ := hv
  have hx := B.exec
  have hb := B.bytes
  have hr := B.returns
  have hts := atoms_spec (ws := wsX3_takeAwaited) B.pre
  have hown : s.vm.findClass RX3 = some m.cls := findClass_of_methodNamed B.named
  have k_1 := hts (.fieldLink RX3 36 "FlowJudge$Frames" "firstAwaited" "I") (by decide +kernel)
  have k_2 := hts (.fieldLink RX3 33 "FlowJudge$Frames" "nextAwaited" "[I") (by decide +kernel)
  have k_3 := hts (.fieldLink RX3 40 "FlowJudge$Frames" "lastAwaited" "I") (by decide +kernel)
  subst hsz
  have hD := hD0.self (sz := s.heap.size)
  generalize hAe : va_A [(o3, .inr (3, [.ref o7, .ref o1, .int v3_2, .int v3_3, .int v3_4, .ref a3_5, .ref a3_6, .ref a3_7, .ref a3_8, .ref a3_9, .ref a3_10, .ref a3_11, .ref a3_12, .int v3_13, .int v3_14, .ref a3_15, .ref a3_16])), (a3_12, .inl (cyI, n3_12, .inl g3_12))] s.heap.size = A at hD ⊢
  have hA : ∀ q : Nat, s.heap.size ≤ q → A q := fun q h => by rw [← hAe]; exact Or.inr h
  have hP : va_P (dC, dI) vwCl [(o3, .inr (3, [.ref o7, .ref o1, .int v3_2, .int v3_3, .int v3_4, .ref a3_5, .ref a3_6, .ref a3_7, .ref a3_8, .ref a3_9, .ref a3_10, .ref a3_11, .ref a3_12, .int v3_13, .int v3_14, .ref a3_15, .ref a3_16])), (a3_12, .inl (cyI, n3_12, .inl g3_12))] s.heap := hP
  have hl := lv_entry ([.ref o3]) (n := 2) (Nat.le_of_ble_eq_true rfl)
  rw [lg_entry_eq]
  generalize (lg_sl ([.ref o3]) ++ List.replicate (2 - (lg_sl ([.ref o3])).length) Slot.unset).toArray = ls at hl ⊢
  have hl : lv_has ls 2 [(0, .ref o3)] := hl
  obtain ⟨H, hH⟩ : ∃ z, z = s.heap := ⟨_, rfl⟩
  refine x_here hH ?_
  have hP : va_P (dC, dI) vwCl [(o3, .inr (3, [.ref o7, .ref o1, .int v3_2, .int v3_3, .int v3_4, .ref a3_5, .ref a3_6, .ref a3_7, .ref a3_8, .ref a3_9, .ref a3_10, .ref a3_11, .ref a3_12, .int v3_13, .int v3_14, .ref a3_15, .ref a3_16])), (a3_12, .inl (cyI, n3_12, .inl g3_12))] H := by rw [hH]; exact hP
  have hS : va_S A s.heap H [] := by rw [hH]; exact va_S.rf
  clear hH
  obtain ⟨locs, hlo⟩ : ∃ z : List Loc, z = [] := ⟨_, rfl⟩
  refine x_herl hlo ?_
  have hS : va_S A s.heap H locs := by rw [hlo]; exact hS
  clear hlo
  unfold f_X3_takeAwaited at hf
  refine lv_aload_n hx hb dX3_takeAwaited_0 rfl (lv_at hl 0 rfl) ?_
  refine va_get (D := (dC, dI)) (ci := 3) (v := .int v3_13) (C := RX3) (T := TX3) (N := 17) hx hb hts i_X3_takeAwaited_X3 hown hK hP 0 rfl rfl 13 (by decide) k_1 (fun _ h9 => h9) rfl dX3_takeAwaited_1 ?_
  refine lv_istore_n (lv' := [(1, .int v3_13), (0, .ref o3)]) hx hb dX3_takeAwaited_4 rfl hl (by decide) rfl (fun ls hl => ?_)
  refine lv_aload_n hx hb dX3_takeAwaited_5 rfl (lv_at hl 1 rfl) ?_
  refine lv_aload_n hx hb dX3_takeAwaited_6 rfl (lv_at hl 1 rfl) ?_
  refine va_get (D := (dC, dI)) (ci := 3) (v := .ref a3_12) (C := RX3) (T := TX3) (N := 17) hx hb hts i_X3_takeAwaited_X3 hown hK hP 0 rfl rfl 12 (by decide) k_2 (fun _ h9 => h9) rfl dX3_takeAwaited_7 ?_
  refine lv_iload_n hx hb dX3_takeAwaited_10 rfl (lv_at hl 0 rfl) ?_
  obtain ⟨g_1, hf⟩ := x_gu hf
  refine va_iald hx hb hK hP 1 0 rfl rfl (x_gdin g_1) dX3_takeAwaited_11 ?_
  refine va_put (D := (dC, dI)) (ci := 3) (v := .int (g3_12 (Int32.toNatClampNeg v3_13))) (ty := .int) (C := RX3) (T := TX3) (N := 17) hx hb hts i_X3_takeAwaited_X3 tyX3 tyX3_ok nmX3 hown hK hP hD hS 0 rfl rfl 13 (by decide) k_1 (fun _ h9 => h9) rfl (by decide +kernel) rfl rfl (Nat.le_of_ble_eq_true rfl) dX3_takeAwaited_12 (fun H locs hP hD hS => ?_)
  have hP : va_P (dC, dI) vwCl [(o3, .inr (3, [.ref o7, .ref o1, .int v3_2, .int v3_3, .int v3_4, .ref a3_5, .ref a3_6, .ref a3_7, .ref a3_8, .ref a3_9, .ref a3_10, .ref a3_11, .ref a3_12, .int (g3_12 (Int32.toNatClampNeg v3_13)), .int v3_14, .ref a3_15, .ref a3_16])), (a3_12, .inl (cyI, n3_12, .inl g3_12))] H := hP
  have hD : va_D A [(o3, .inr (3, [.ref o7, .ref o1, .int v3_2, .int v3_3, .int v3_4, .ref a3_5, .ref a3_6, .ref a3_7, .ref a3_8, .ref a3_9, .ref a3_10, .ref a3_11, .ref a3_12, .int (g3_12 (Int32.toNatClampNeg v3_13)), .int v3_14, .ref a3_15, .ref a3_16])), (a3_12, .inl (cyI, n3_12, .inl g3_12))] := hD
  refine lv_aload_n hx hb dX3_takeAwaited_15 rfl (lv_at hl 1 rfl) ?_
  refine va_get (D := (dC, dI)) (ci := 3) (v := .int (g3_12 (Int32.toNatClampNeg v3_13))) (C := RX3) (T := TX3) (N := 17) hx hb hts i_X3_takeAwaited_X3 hown hK hP 0 rfl rfl 13 (by decide) k_1 (fun _ h9 => h9) rfl dX3_takeAwaited_16 ?_
  refine lv_iconst (v := (-1)) hx hb dX3_takeAwaited_19 (by decide) ?_
  refine lv_icmp_ne (tgt := 28) hx hb dX3_takeAwaited_20 (by decide) (fun c_2 => ?_) (fun c_2 => ?_)
  · replace hf := x_in c_2 hf
    refine lv_aload_n hx hb dX3_takeAwaited_28 rfl (lv_at hl 1 rfl) ?_
    refine va_get (D := (dC, dI)) (ci := 3) (v := .ref a3_12) (C := RX3) (T := TX3) (N := 17) hx hb hts i_X3_takeAwaited_X3 hown hK hP 0 rfl rfl 12 (by decide) k_2 (fun _ h9 => h9) rfl dX3_takeAwaited_29 ?_
    refine lv_iload_n hx hb dX3_takeAwaited_32 rfl (lv_at hl 0 rfl) ?_
    refine lv_bipush (v := (-2)) hx hb dX3_takeAwaited_33 (by decide) ?_
    obtain ⟨g_3, hf⟩ := x_gu hf
    refine va_iast hx hb hK hP hD hS 1 0 rfl rfl (x_gdin g_3) dX3_takeAwaited_35 (fun H locs hP hD hS => ?_)
    have hP : va_P (dC, dI) vwCl [(o3, .inr (3, [.ref o7, .ref o1, .int v3_2, .int v3_3, .int v3_4, .ref a3_5, .ref a3_6, .ref a3_7, .ref a3_8, .ref a3_9, .ref a3_10, .ref a3_11, .ref a3_12, .int (g3_12 (Int32.toNatClampNeg v3_13)), .int v3_14, .ref a3_15, .ref a3_16])), (a3_12, .inl (cyI, n3_12, .inl (upd g3_12 (Int32.toNatClampNeg v3_13) (-2))))] H := hP
    have hD : va_D A [(o3, .inr (3, [.ref o7, .ref o1, .int v3_2, .int v3_3, .int v3_4, .ref a3_5, .ref a3_6, .ref a3_7, .ref a3_8, .ref a3_9, .ref a3_10, .ref a3_11, .ref a3_12, .int (g3_12 (Int32.toNatClampNeg v3_13)), .int v3_14, .ref a3_15, .ref a3_16])), (a3_12, .inl (cyI, n3_12, .inl (upd g3_12 (Int32.toNatClampNeg v3_13) (-2))))] := hD
    refine lv_iload_n hx hb dX3_takeAwaited_36 rfl (lv_at hl 0 rfl) ?_
    obtain rfl := Option.some.inj hf
    have hP9 := hP.sub (ws' := [(o3, .inr (3, [.ref o7, .ref o1, .int v3_2, .int v3_3, .int v3_4, .ref a3_5, .ref a3_6, .ref a3_7, .ref a3_8, .ref a3_9, .ref a3_10, .ref a3_11, .ref a3_12, .int (g3_12 (Int32.toNatClampNeg v3_13)), .int v3_14, .ref a3_15, .ref a3_16])), (a3_12, .inl (cyI, n3_12, .inl (upd g3_12 (Int32.toNatClampNeg v3_13) (-2))))]) [0, 1] rfl
    have hD9 := hD.sub (ws' := [(o3, .inr (3, [.ref o7, .ref o1, .int v3_2, .int v3_3, .int v3_4, .ref a3_5, .ref a3_6, .ref a3_7, .ref a3_8, .ref a3_9, .ref a3_10, .ref a3_11, .ref a3_12, .int (g3_12 (Int32.toNatClampNeg v3_13)), .int v3_14, .ref a3_15, .ref a3_16])), (a3_12, .inl (cyI, n3_12, .inl (upd g3_12 (Int32.toNatClampNeg v3_13) (-2))))]) [0, 1] (by decide) rfl
    exact W.iret hx hb hr (fun t ht hW => ⟨⟨_, (), rfl, rfl, by rw [ht]; exact hP9, va_K.moved hW.alike hK, hD9⟩, hS.F ht⟩) hS.2.2 dX3_takeAwaited_37
  · replace hf := x_ip c_2 hf
    refine lv_aload_n hx hb dX3_takeAwaited_23 rfl (lv_at hl 1 rfl) ?_
    refine lv_iconst (v := (-1)) hx hb dX3_takeAwaited_24 (by decide) ?_
    refine va_put (D := (dC, dI)) (ci := 3) (v := .int (-1)) (ty := .int) (C := RX3) (T := TX3) (N := 17) hx hb hts i_X3_takeAwaited_X3 tyX3 tyX3_ok nmX3 hown hK hP hD hS 0 rfl rfl 14 (by decide) k_3 (fun _ h9 => h9) rfl (by decide +kernel) rfl rfl (Nat.le_of_ble_eq_true rfl) dX3_takeAwaited_25 (fun H locs hP hD hS => ?_)
    have hP : va_P (dC, dI) vwCl [(o3, .inr (3, [.ref o7, .ref o1, .int v3_2, .int v3_3, .int v3_4, .ref a3_5, .ref a3_6, .ref a3_7, .ref a3_8, .ref a3_9, .ref a3_10, .ref a3_11, .ref a3_12, .int (g3_12 (Int32.toNatClampNeg v3_13)), .int (-1), .ref a3_15, .ref a3_16])), (a3_12, .inl (cyI, n3_12, .inl g3_12))] H := hP
    have hD : va_D A [(o3, .inr (3, [.ref o7, .ref o1, .int v3_2, .int v3_3, .int v3_4, .ref a3_5, .ref a3_6, .ref a3_7, .ref a3_8, .ref a3_9, .ref a3_10, .ref a3_11, .ref a3_12, .int (g3_12 (Int32.toNatClampNeg v3_13)), .int (-1), .ref a3_15, .ref a3_16])), (a3_12, .inl (cyI, n3_12, .inl g3_12))] := hD
    refine lv_aload_n hx hb dX3_takeAwaited_28 rfl (lv_at hl 1 rfl) ?_
    refine va_get (D := (dC, dI)) (ci := 3) (v := .ref a3_12) (C := RX3) (T := TX3) (N := 17) hx hb hts i_X3_takeAwaited_X3 hown hK hP 0 rfl rfl 12 (by decide) k_2 (fun _ h9 => h9) rfl dX3_takeAwaited_29 ?_
    refine lv_iload_n hx hb dX3_takeAwaited_32 rfl (lv_at hl 0 rfl) ?_
    refine lv_bipush (v := (-2)) hx hb dX3_takeAwaited_33 (by decide) ?_
    obtain ⟨g_4, hf⟩ := x_gu hf
    refine va_iast hx hb hK hP hD hS 1 0 rfl rfl (x_gdin g_4) dX3_takeAwaited_35 (fun H locs hP hD hS => ?_)
    have hP : va_P (dC, dI) vwCl [(o3, .inr (3, [.ref o7, .ref o1, .int v3_2, .int v3_3, .int v3_4, .ref a3_5, .ref a3_6, .ref a3_7, .ref a3_8, .ref a3_9, .ref a3_10, .ref a3_11, .ref a3_12, .int (g3_12 (Int32.toNatClampNeg v3_13)), .int (-1), .ref a3_15, .ref a3_16])), (a3_12, .inl (cyI, n3_12, .inl (upd g3_12 (Int32.toNatClampNeg v3_13) (-2))))] H := hP
    have hD : va_D A [(o3, .inr (3, [.ref o7, .ref o1, .int v3_2, .int v3_3, .int v3_4, .ref a3_5, .ref a3_6, .ref a3_7, .ref a3_8, .ref a3_9, .ref a3_10, .ref a3_11, .ref a3_12, .int (g3_12 (Int32.toNatClampNeg v3_13)), .int (-1), .ref a3_15, .ref a3_16])), (a3_12, .inl (cyI, n3_12, .inl (upd g3_12 (Int32.toNatClampNeg v3_13) (-2))))] := hD
    refine lv_iload_n hx hb dX3_takeAwaited_36 rfl (lv_at hl 0 rfl) ?_
    obtain rfl := Option.some.inj hf
    have hP9 := hP.sub (ws' := [(o3, .inr (3, [.ref o7, .ref o1, .int v3_2, .int v3_3, .int v3_4, .ref a3_5, .ref a3_6, .ref a3_7, .ref a3_8, .ref a3_9, .ref a3_10, .ref a3_11, .ref a3_12, .int (g3_12 (Int32.toNatClampNeg v3_13)), .int (-1), .ref a3_15, .ref a3_16])), (a3_12, .inl (cyI, n3_12, .inl (upd g3_12 (Int32.toNatClampNeg v3_13) (-2))))]) [0, 1] rfl
    have hD9 := hD.sub (ws' := [(o3, .inr (3, [.ref o7, .ref o1, .int v3_2, .int v3_3, .int v3_4, .ref a3_5, .ref a3_6, .ref a3_7, .ref a3_8, .ref a3_9, .ref a3_10, .ref a3_11, .ref a3_12, .int (g3_12 (Int32.toNatClampNeg v3_13)), .int (-1), .ref a3_15, .ref a3_16])), (a3_12, .inl (cyI, n3_12, .inl (upd g3_12 (Int32.toNatClampNeg v3_13) (-2))))]) [0, 1] (by decide) rfl
    exact W.iret hx hb hr (fun t ht hW => ⟨⟨_, (), rfl, rfl, by rw [ht]; exact hP9, va_K.moved hW.alike hK, hD9⟩, hS.F ht⟩) hS.2.2 dX3_takeAwaited_37

def f_X3_isBefore (g1_0 : Nat → Int32) (n1_0 : Nat) (g1_1 : Nat → Int32) (n1_1 : Nat) (g1_2 : Nat → Int32) (n1_2 : Nat) (g3_6 : Nat → Int32) (n3_6 : Nat) (g3_7 : Nat → Int32) (n3_7 : Nat) (p1 : Int32) (p2 : Int32) : Option (Int32) := if x_gd p1 n3_6 = true then if x_gd p2 n3_6 = true then if (g3_6 (Int32.toNatClampNeg p1)) = (g3_6 (Int32.toNatClampNeg p2)) then if x_gd p1 n3_7 = true then if x_gd p2 n3_7 = true then (f_X1_isBefore g1_0 n1_0 g1_1 n1_1 g1_2 n1_2 (g3_7 (Int32.toNatClampNeg p1)) (g3_7 (Int32.toNatClampNeg p2))) >>= (fun r_6 => some r_6) else none else none else if x_gd p1 n3_6 = true then if x_gd p2 n3_6 = true then if (g3_6 (Int32.toNatClampNeg p2)) ≤ (g3_6 (Int32.toNatClampNeg p1)) then some 0 else some 1 else none else none else none else none
theorem i_X3_isBefore_X3 : ∀ w ∈ wsX30, w ∈ wsX3_isBefore := fun _ h => List.mem_cons_of_mem _ (List.mem_append_left _ (List.mem_append_right _ h))
set_option maxHeartbeats 4000000 in
set_option maxRecDepth 100000 in
theorem c_X3_isBefore (l : Launch) (dC : Nat → ClassId) (dI : Nat → Nat → Nat) (cyI cyZ cyJ : ClassId) (sz : Nat) (o1 : Nat) (a1_0 : Nat) (a1_1 : Nat) (a1_2 : Nat) (a1_3 : Nat) (a1_4 : Nat) (v1_5 : Int32) (g1_0 : Nat → Int32) (n1_0 : Nat) (g1_1 : Nat → Int32) (n1_1 : Nat) (g1_2 : Nat → Int32) (n1_2 : Nat) (o3 : Nat) (o7 : Nat) (v3_2 : Int32) (v3_3 : Int32) (v3_4 : Int32) (a3_5 : Nat) (a3_6 : Nat) (a3_7 : Nat) (a3_8 : Nat) (a3_9 : Nat) (a3_10 : Nat) (a3_11 : Nat) (a3_12 : Nat) (v3_13 : Int32) (v3_14 : Int32) (a3_15 : Nat) (a3_16 : Nat) (g3_6 : Nat → Int32) (n3_6 : Nat) (g3_7 : Nat → Int32) (n3_7 : Nat) (p1 : Int32) (p2 : Int32) (R : Int32) (hf : f_X3_isBefore g1_0 n1_0 g1_1 n1_1 g1_2 n1_2 g3_6 n3_6 g3_7 n3_7 p1 p2 = some R) : Met l yX3_isBefore wsX3_isBefore ({ frames := 1, cells := 0, slots := 0, locals := 25 }) (va_Pc [.ref o3, .int p1, .int p2] (x_Pre (dC, dI) (x_T cyI cyZ cyJ) [(o1, .inr (1, [.ref a1_0, .ref a1_1, .ref a1_2, .ref a1_3, .ref a1_4, .int v1_5])), (a1_0, .inl (cyI, n1_0, .inl g1_0)), (a1_1, .inl (cyI, n1_1, .inl g1_1)), (a1_2, .inl (cyI, n1_2, .inl g1_2)), (o3, .inr (3, [.ref o7, .ref o1, .int v3_2, .int v3_3, .int v3_4, .ref a3_5, .ref a3_6, .ref a3_7, .ref a3_8, .ref a3_9, .ref a3_10, .ref a3_11, .ref a3_12, .int v3_13, .int v3_14, .ref a3_15, .ref a3_16])), (a3_6, .inl (cyI, n3_6, .inl g3_6)), (a3_7, .inl (cyI, n3_7, .inl g3_7))] sz)) (va_Qi (fun (r : Int32) (_ : Unit) => r = R ∧ x_nb r) (fun _ _ => True) (x_new sz)) 0 0 (x_new sz) := by
  refine Met.ofW (cc := cX3_isBefore) (maxL := 3) (ret := (some .boolean)) (by decide) rfl ?_
  intro p e s m args below meth c s₁ B hml hv
  obtain ⟨rfl, hsz, hP, hK, hN⟩ := hv
  have hx := B.exec
  have hb := B.bytes
  have hr := B.returns
  have hts := atoms_spec (ws := wsX3_isBefore) B.pre
  have hown : s.vm.findClass RX3 = some m.cls := findClass_of_methodNamed B.named
  have k_1 := hts (.fieldLink RX3 15 "FlowJudge$Frames" "targets" "[I") (by decide +kernel)
  have k_2 := hts (.fieldLink RX3 53 "FlowJudge$Frames" "contexts" "LFlowJudge$Contexts;") (by decide +kernel)
  have k_3 := hts (.fieldLink RX3 18 "FlowJudge$Frames" "ways" "[I") (by decide +kernel)
  subst hsz
  have hA : ∀ q : Nat, s.heap.size ≤ q → x_new s.heap.size q := fun _ h => h
  have hS : va_S (x_new s.heap.size) s.heap s.heap [] := va_S.rf
  have hP : va_P (dC, dI) vwCl [(o1, .inr (1, [.ref a1_0, .ref a1_1, .ref a1_2, .ref a1_3, .ref a1_4, .int v1_5])), (a1_0, .inl (cyI, n1_0, .inl g1_0)), (a1_1, .inl (cyI, n1_1, .inl g1_1)), (a1_2, .inl (cyI, n1_2, .inl g1_2)), (o3, .inr (3, [.ref o7, .ref o1, .int v3_2, .int v3_3, .int v3_4, .ref a3_5, .ref a3_6, .ref a3_7, .ref a3_8, .ref a3_9, .ref a3_10, .ref a3_11, .ref a3_12, .int v3_13, .int v3_14, .ref a3_15, .ref a3_16])), (a3_6, .inl (cyI, n3_6, .inl g3_6)), (a3_7, .inl (cyI, n3_7, .inl g3_7))] s.heap := hP
  have hl := lv_entry ([.ref o3, .int p1, .int p2]) (n := 3) (Nat.le_of_ble_eq_true rfl)
  rw [lg_entry_eq]
  generalize (lg_sl ([.ref o3, .int p1, .int p2]) ++ List.replicate (3 - (lg_sl ([.ref o3, .int p1, .int p2])).length) Slot.unset).toArray = ls at hl ⊢
  have hl : lv_has ls 3 [(0, .ref o3), (1, .int p1), (2, .int p2)] := hl
  obtain ⟨H, hH⟩ : ∃ z, z = s.heap := ⟨_, rfl⟩
  refine x_here hH ?_
  have hP : va_P (dC, dI) vwCl [(o1, .inr (1, [.ref a1_0, .ref a1_1, .ref a1_2, .ref a1_3, .ref a1_4, .int v1_5])), (a1_0, .inl (cyI, n1_0, .inl g1_0)), (a1_1, .inl (cyI, n1_1, .inl g1_1)), (a1_2, .inl (cyI, n1_2, .inl g1_2)), (o3, .inr (3, [.ref o7, .ref o1, .int v3_2, .int v3_3, .int v3_4, .ref a3_5, .ref a3_6, .ref a3_7, .ref a3_8, .ref a3_9, .ref a3_10, .ref a3_11, .ref a3_12, .int v3_13, .int v3_14, .ref a3_15, .ref a3_16])), (a3_6, .inl (cyI, n3_6, .inl g3_6)), (a3_7, .inl (cyI, n3_7, .inl g3_7))] H := by rw [hH]; exact hP
  have hS : va_S (x_new s.heap.size) s.heap H [] := by rw [hH]; exact va_S.rf
  clear hH
  obtain ⟨locs, hlo⟩ : ∃ z : List Loc, z = [] := ⟨_, rfl⟩
  refine x_herl hlo ?_
  have hS : va_S (x_new s.heap.size) s.heap H locs := by rw [hlo]; exact hS
  clear hlo
  unfold f_X3_isBefore at hf
  refine lv_aload_n hx hb dX3_isBefore_0 rfl (lv_at hl 0 rfl) ?_
  refine va_get (D := (dC, dI)) (ci := 3) (v := .ref a3_6) (C := RX3) (T := TX3) (N := 17) hx hb hts i_X3_isBefore_X3 hown hK hP 4 rfl rfl 6 (by decide) k_1 (fun _ h9 => h9) rfl dX3_isBefore_1 ?_
  refine lv_iload_n hx hb dX3_isBefore_4 rfl (lv_at hl 1 rfl) ?_
  obtain ⟨g_1, hf⟩ := x_gu hf
  refine va_iald hx hb hK hP 5 0 rfl rfl (x_gdin g_1) dX3_isBefore_5 ?_
  refine lv_aload_n hx hb dX3_isBefore_6 rfl (lv_at hl 0 rfl) ?_
  refine va_get (D := (dC, dI)) (ci := 3) (v := .ref a3_6) (C := RX3) (T := TX3) (N := 17) hx hb hts i_X3_isBefore_X3 hown hK hP 4 rfl rfl 6 (by decide) k_1 (fun _ h9 => h9) rfl dX3_isBefore_7 ?_
  refine lv_iload_n hx hb dX3_isBefore_10 rfl (lv_at hl 2 rfl) ?_
  obtain ⟨g_2, hf⟩ := x_gu hf
  refine va_iald hx hb hK hP 5 0 rfl rfl (x_gdin g_2) dX3_isBefore_11 ?_
  refine lv_icmp_eq (tgt := 36) hx hb dX3_isBefore_12 (by decide) (fun c_3 => ?_) (fun c_3 => ?_)
  · replace hf := x_ip c_3 hf
    refine lv_aload_n hx hb dX3_isBefore_36 rfl (lv_at hl 0 rfl) ?_
    refine va_get (D := (dC, dI)) (ci := 3) (v := .ref o1) (C := RX3) (T := TX3) (N := 17) hx hb hts i_X3_isBefore_X3 hown hK hP 4 rfl rfl 1 (by decide) k_2 (fun _ h9 => h9) rfl dX3_isBefore_37 ?_
    refine lv_aload_n hx hb dX3_isBefore_40 rfl (lv_at hl 0 rfl) ?_
    refine va_get (D := (dC, dI)) (ci := 3) (v := .ref a3_7) (C := RX3) (T := TX3) (N := 17) hx hb hts i_X3_isBefore_X3 hown hK hP 4 rfl rfl 7 (by decide) k_3 (fun _ h9 => h9) rfl dX3_isBefore_41 ?_
    refine lv_iload_n hx hb dX3_isBefore_44 rfl (lv_at hl 1 rfl) ?_
    obtain ⟨g_4, hf⟩ := x_gu hf
    refine va_iald hx hb hK hP 6 0 rfl rfl (x_gdin g_4) dX3_isBefore_45 ?_
    refine lv_aload_n hx hb dX3_isBefore_46 rfl (lv_at hl 0 rfl) ?_
    refine va_get (D := (dC, dI)) (ci := 3) (v := .ref a3_7) (C := RX3) (T := TX3) (N := 17) hx hb hts i_X3_isBefore_X3 hown hK hP 4 rfl rfl 7 (by decide) k_3 (fun _ h9 => h9) rfl dX3_isBefore_47 ?_
    refine lv_iload_n hx hb dX3_isBefore_50 rfl (lv_at hl 2 rfl) ?_
    obtain ⟨g_5, hf⟩ := x_gu hf
    refine va_iald hx hb hK hP 6 0 rfl rfl (x_gdin g_5) dX3_isBefore_51 ?_
    obtain ⟨r_6, h_6, hf⟩ := x_bi hf
    have hPc := hP.sub (ws' := [(o1, .inr (1, [.ref a1_0, .ref a1_1, .ref a1_2, .ref a1_3, .ref a1_4, .int v1_5])), (a1_0, .inl (cyI, n1_0, .inl g1_0)), (a1_1, .inl (cyI, n1_1, .inl g1_1)), (a1_2, .inl (cyI, n1_2, .inl g1_2))]) [0, 1, 2, 3] rfl
    refine va_calli (va_runV (As := [.int (g3_7 (Int32.toNatClampNeg p1)), .int (g3_7 (Int32.toNatClampNeg p2))]) (rest := []) ⟨hx, hb, hml, hown, hts⟩ (c_X1_isBefore l dC dI cyI cyZ cyJ H.size o1 a1_0 a1_1 a1_2 a1_3 a1_4 v1_5 g1_0 n1_0 g1_1 n1_1 g1_2 n1_2 (g3_7 (Int32.toNatClampNeg p1)) (g3_7 (Int32.toNatClampNeg p2)) r_6 h_6) (cwV 2 hts gX3_isBefore_X1_isBefore rfl rfl rfl (by decide +kernel) ⟨Nat.le_of_ble_eq_true rfl, Nat.le_of_ble_eq_true rfl⟩) (x_pV hN hK hPc (ci := 1) (q0 := 0) rfl rfl) rfl rfl hl.1 rfl (lv_room (Nat.le_of_ble_eq_true rfl)) dX3_isBefore_52 ⟨Nat.le_of_ble_eq_true rfl, Nat.le_of_ble_eq_true rfl⟩) hS x_nA (x_nf hA hS) (fun q_6 u t H1 locs ht hvm hw hB hz1 hk1 hS => ?_)
    have hP := x_kp hP hk1
    clear ht hvm hB hz1 hk1 t u hPc
    generalize H1 = H at hP hS ⊢
    obtain ⟨hw, b_6⟩ := hw
    obtain rfl := hw.symm
    obtain rfl := Option.some.inj hf
    exact W.zret (ty := .boolean) hx hb hr b_6 (fun t ht hW => ⟨⟨_, (), rfl, ⟨rfl, b_6⟩, trivial⟩, hS.F ht⟩) hS.2.2 dX3_isBefore_55
  · replace hf := x_in c_3 hf
    refine lv_aload_n hx hb dX3_isBefore_15 rfl (lv_at hl 0 rfl) ?_
    refine va_get (D := (dC, dI)) (ci := 3) (v := .ref a3_6) (C := RX3) (T := TX3) (N := 17) hx hb hts i_X3_isBefore_X3 hown hK hP 4 rfl rfl 6 (by decide) k_1 (fun _ h9 => h9) rfl dX3_isBefore_16 ?_
    refine lv_iload_n hx hb dX3_isBefore_19 rfl (lv_at hl 1 rfl) ?_
    obtain ⟨g_7, hf⟩ := x_gu hf
    refine va_iald hx hb hK hP 5 0 rfl rfl (x_gdin g_7) dX3_isBefore_20 ?_
    refine lv_aload_n hx hb dX3_isBefore_21 rfl (lv_at hl 0 rfl) ?_
    refine va_get (D := (dC, dI)) (ci := 3) (v := .ref a3_6) (C := RX3) (T := TX3) (N := 17) hx hb hts i_X3_isBefore_X3 hown hK hP 4 rfl rfl 6 (by decide) k_1 (fun _ h9 => h9) rfl dX3_isBefore_22 ?_
    refine lv_iload_n hx hb dX3_isBefore_25 rfl (lv_at hl 2 rfl) ?_
    obtain ⟨g_8, hf⟩ := x_gu hf
    refine va_iald hx hb hK hP 5 0 rfl rfl (x_gdin g_8) dX3_isBefore_26 ?_
    refine lv_icmp_ge (tgt := 34) hx hb dX3_isBefore_27 (by decide) (fun c_9 => ?_) (fun c_9 => ?_)
    · replace hf := x_ip c_9 hf
      refine lv_iconst (v := 0) hx hb dX3_isBefore_34 (by decide) ?_
      obtain rfl := Option.some.inj hf
      exact W.zret (ty := .boolean) hx hb hr rfl (fun t ht hW => ⟨⟨_, (), rfl, ⟨rfl, rfl⟩, trivial⟩, hS.F ht⟩) hS.2.2 dX3_isBefore_35
    · replace hf := x_in c_9 hf
      refine lv_iconst (v := 1) hx hb dX3_isBefore_30 (by decide) ?_
      refine lv_goto (tgt := 35) hx hb dX3_isBefore_31 (by decide) ?_
      obtain rfl := Option.some.inj hf
      exact W.zret (ty := .boolean) hx hb hr rfl (fun t ht hW => ⟨⟨_, (), rfl, ⟨rfl, rfl⟩, trivial⟩, hS.F ht⟩) hS.2.2 dX3_isBefore_35

def f_X3_mergeRuns_L (g1_0 : Nat → Int32) (n1_0 : Nat) (g1_1 : Nat → Int32) (n1_1 : Nat) (g1_2 : Nat → Int32) (n1_2 : Nat) (v3_4 : Int32) (g3_6 : Nat → Int32) (n3_6 : Nat) (g3_7 : Nat → Int32) (n3_7 : Nat) (g3_15 : Nat → Int32) (n3_15 : Nat) (n3_16 : Nat) (l3 : Int32) (l4 : Int32) (z : Nat × Int32 × Int32 × Int32 × (Nat → Int32)) : Option ((Nat → Int32)) := match z with
  | (q, l5, l6, l7, g3_16) => if q = 0 then if l4 ≤ l7 then some g3_16 else if l4 ≤ l6 then if x_gd l5 n3_15 = true then if x_gd l7 n3_16 = true then (f_X3_mergeRuns_L g1_0 n1_0 g1_1 n1_1 g1_2 n1_2 v3_4 g3_6 n3_6 g3_7 n3_7 g3_15 n3_15 n3_16 l3 l4 (0, l5 + 1, l6, l7 + 1, upd g3_16 (Int32.toNatClampNeg l7) (g3_15 (Int32.toNatClampNeg l5)))) else none else none else if l3 ≤ l5 then if x_gd l6 n3_15 = true then if x_gd l7 n3_16 = true then (f_X3_mergeRuns_L g1_0 n1_0 g1_1 n1_1 g1_2 n1_2 v3_4 g3_6 n3_6 g3_7 n3_7 g3_15 n3_15 n3_16 l3 l4 (0, l5, l6 + 1, l7 + 1, upd g3_16 (Int32.toNatClampNeg l7) (g3_15 (Int32.toNatClampNeg l6)))) else none else none else if x_gd l6 n3_15 = true then if x_gd l5 n3_15 = true then (f_X3_isBefore g1_0 n1_0 g1_1 n1_1 g1_2 n1_2 g3_6 n3_6 g3_7 n3_7 (g3_15 (Int32.toNatClampNeg l6)) (g3_15 (Int32.toNatClampNeg l5))) >>= (fun r_14 => if r_14 = (0 : Int32) then if x_gd l5 n3_15 = true then if x_gd l7 n3_16 = true then (f_X3_mergeRuns_L g1_0 n1_0 g1_1 n1_1 g1_2 n1_2 v3_4 g3_6 n3_6 g3_7 n3_7 g3_15 n3_15 n3_16 l3 l4 (0, l5 + 1, l6, l7 + 1, upd g3_16 (Int32.toNatClampNeg l7) (g3_15 (Int32.toNatClampNeg l5)))) else none else none else if x_gd l6 n3_15 = true then if x_gd l7 n3_16 = true then (f_X3_mergeRuns_L g1_0 n1_0 g1_1 n1_1 g1_2 n1_2 v3_4 g3_6 n3_6 g3_7 n3_7 g3_15 n3_15 n3_16 l3 l4 (0, l5, l6 + 1, l7 + 1, upd g3_16 (Int32.toNatClampNeg l7) (g3_15 (Int32.toNatClampNeg l6)))) else none else none) else none else none else none
partial_fixpoint
def f_X3_mergeRuns (g1_0 : Nat → Int32) (n1_0 : Nat) (g1_1 : Nat → Int32) (n1_1 : Nat) (g1_2 : Nat → Int32) (n1_2 : Nat) (v3_4 : Int32) (g3_6 : Nat → Int32) (n3_6 : Nat) (g3_7 : Nat → Int32) (n3_7 : Nat) (g3_15 : Nat → Int32) (n3_15 : Nat) (g3_16 : Nat → Int32) (n3_16 : Nat) (p1 : Int32) (p2 : Int32) : Option ((Nat → Int32)) := if v3_4 ≤ (p1 + p2) then if v3_4 ≤ (v3_4 + p2) then (f_X3_mergeRuns_L g1_0 n1_0 g1_1 n1_1 g1_2 n1_2 v3_4 g3_6 n3_6 g3_7 n3_7 g3_15 n3_15 n3_16 v3_4 v3_4 (0, p1, v3_4, p1, g3_16)) else (f_X3_mergeRuns_L g1_0 n1_0 g1_1 n1_1 g1_2 n1_2 v3_4 g3_6 n3_6 g3_7 n3_7 g3_15 n3_15 n3_16 v3_4 (v3_4 + p2) (0, p1, v3_4, p1, g3_16)) else if v3_4 ≤ ((p1 + p2) + p2) then (f_X3_mergeRuns_L g1_0 n1_0 g1_1 n1_1 g1_2 n1_2 v3_4 g3_6 n3_6 g3_7 n3_7 g3_15 n3_15 n3_16 (p1 + p2) v3_4 (0, p1, p1 + p2, p1, g3_16)) else (f_X3_mergeRuns_L g1_0 n1_0 g1_1 n1_1 g1_2 n1_2 v3_4 g3_6 n3_6 g3_7 n3_7 g3_15 n3_15 n3_16 (p1 + p2) ((p1 + p2) + p2) (0, p1, p1 + p2, p1, g3_16))
theorem i_X3_mergeRuns_X3 : ∀ w ∈ wsX30, w ∈ wsX3_mergeRuns := fun _ h => List.mem_cons_of_mem _ (List.mem_append_left _ (List.mem_append_right _ h))
set_option maxHeartbeats 4000000 in
set_option maxRecDepth 100000 in
theorem c_X3_mergeRuns (l : Launch) (dC : Nat → ClassId) (dI : Nat → Nat → Nat) (cyI cyZ cyJ : ClassId) (sz : Nat) (o1 : Nat) (a1_0 : Nat) (a1_1 : Nat) (a1_2 : Nat) (a1_3 : Nat) (a1_4 : Nat) (v1_5 : Int32) (g1_0 : Nat → Int32) (n1_0 : Nat) (g1_1 : Nat → Int32) (n1_1 : Nat) (g1_2 : Nat → Int32) (n1_2 : Nat) (o3 : Nat) (o7 : Nat) (v3_2 : Int32) (v3_3 : Int32) (v3_4 : Int32) (a3_5 : Nat) (a3_6 : Nat) (a3_7 : Nat) (a3_8 : Nat) (a3_9 : Nat) (a3_10 : Nat) (a3_11 : Nat) (a3_12 : Nat) (v3_13 : Int32) (v3_14 : Int32) (a3_15 : Nat) (a3_16 : Nat) (g3_6 : Nat → Int32) (n3_6 : Nat) (g3_7 : Nat → Int32) (n3_7 : Nat) (g3_15 : Nat → Int32) (n3_15 : Nat) (g3_16 : Nat → Int32) (n3_16 : Nat) (p1 : Int32) (p2 : Int32) (R : (Nat → Int32)) (hf : f_X3_mergeRuns g1_0 n1_0 g1_1 n1_1 g1_2 n1_2 v3_4 g3_6 n3_6 g3_7 n3_7 g3_15 n3_15 g3_16 n3_16 p1 p2 = some R) : Met l yX3_mergeRuns wsX3_mergeRuns ({ frames := 2, cells := 0, slots := 0, locals := 47 }) (va_Pc [.ref o3, .int p1, .int p2] (x_PreD (dC, dI) (x_T cyI cyZ cyJ) [(o1, .inr (1, [.ref a1_0, .ref a1_1, .ref a1_2, .ref a1_3, .ref a1_4, .int v1_5])), (a1_0, .inl (cyI, n1_0, .inl g1_0)), (a1_1, .inl (cyI, n1_1, .inl g1_1)), (a1_2, .inl (cyI, n1_2, .inl g1_2)), (o3, .inr (3, [.ref o7, .ref o1, .int v3_2, .int v3_3, .int v3_4, .ref a3_5, .ref a3_6, .ref a3_7, .ref a3_8, .ref a3_9, .ref a3_10, .ref a3_11, .ref a3_12, .int v3_13, .int v3_14, .ref a3_15, .ref a3_16])), (a3_6, .inl (cyI, n3_6, .inl g3_6)), (a3_7, .inl (cyI, n3_7, .inl g3_7)), (a3_15, .inl (cyI, n3_15, .inl g3_15)), (a3_16, .inl (cyI, n3_16, .inl g3_16))] sz)) (va_Qv (fun _ : Unit => True) (fun (_ : Unit) (t : State) => va_P (dC, dI) vwCl [(o1, .inr (1, [.ref a1_0, .ref a1_1, .ref a1_2, .ref a1_3, .ref a1_4, .int v1_5])), (a1_0, .inl (cyI, n1_0, .inl g1_0)), (a1_1, .inl (cyI, n1_1, .inl g1_1)), (a1_2, .inl (cyI, n1_2, .inl g1_2)), (o3, .inr (3, [.ref o7, .ref o1, .int v3_2, .int v3_3, .int v3_4, .ref a3_5, .ref a3_6, .ref a3_7, .ref a3_8, .ref a3_9, .ref a3_10, .ref a3_11, .ref a3_12, .int v3_13, .int v3_14, .ref a3_15, .ref a3_16])), (a3_6, .inl (cyI, n3_6, .inl g3_6)), (a3_7, .inl (cyI, n3_7, .inl g3_7)), (a3_15, .inl (cyI, n3_15, .inl g3_15)), (a3_16, .inl (cyI, n3_16, .inl R))] t.heap ∧ va_K (dC, dI) vwCl (x_T cyI cyZ cyJ) t ∧ va_D (va_A [(o1, .inr (1, [.ref a1_0, .ref a1_1, .ref a1_2, .ref a1_3, .ref a1_4, .int v1_5])), (a1_0, .inl (cyI, n1_0, .inl g1_0)), (a1_1, .inl (cyI, n1_1, .inl g1_1)), (a1_2, .inl (cyI, n1_2, .inl g1_2)), (o3, .inr (3, [.ref o7, .ref o1, .int v3_2, .int v3_3, .int v3_4, .ref a3_5, .ref a3_6, .ref a3_7, .ref a3_8, .ref a3_9, .ref a3_10, .ref a3_11, .ref a3_12, .int v3_13, .int v3_14, .ref a3_15, .ref a3_16])), (a3_6, .inl (cyI, n3_6, .inl g3_6)), (a3_7, .inl (cyI, n3_7, .inl g3_7)), (a3_15, .inl (cyI, n3_15, .inl g3_15)), (a3_16, .inl (cyI, n3_16, .inl g3_16))] sz) [(o1, .inr (1, [.ref a1_0, .ref a1_1, .ref a1_2, .ref a1_3, .ref a1_4, .int v1_5])), (a1_0, .inl (cyI, n1_0, .inl g1_0)), (a1_1, .inl (cyI, n1_1, .inl g1_1)), (a1_2, .inl (cyI, n1_2, .inl g1_2)), (o3, .inr (3, [.ref o7, .ref o1, .int v3_2, .int v3_3, .int v3_4, .ref a3_5, .ref a3_6, .ref a3_7, .ref a3_8, .ref a3_9, .ref a3_10, .ref a3_11, .ref a3_12, .int v3_13, .int v3_14, .ref a3_15, .ref a3_16])), (a3_6, .inl (cyI, n3_6, .inl g3_6)), (a3_7, .inl (cyI, n3_7, .inl g3_7)), (a3_15, .inl (cyI, n3_15, .inl g3_15)), (a3_16, .inl (cyI, n3_16, .inl R))]) (va_A [(o1, .inr (1, [.ref a1_0, .ref a1_1, .ref a1_2, .ref a1_3, .ref a1_4, .int v1_5])), (a1_0, .inl (cyI, n1_0, .inl g1_0)), (a1_1, .inl (cyI, n1_1, .inl g1_1)), (a1_2, .inl (cyI, n1_2, .inl g1_2)), (o3, .inr (3, [.ref o7, .ref o1, .int v3_2, .int v3_3, .int v3_4, .ref a3_5, .ref a3_6, .ref a3_7, .ref a3_8, .ref a3_9, .ref a3_10, .ref a3_11, .ref a3_12, .int v3_13, .int v3_14, .ref a3_15, .ref a3_16])), (a3_6, .inl (cyI, n3_6, .inl g3_6)), (a3_7, .inl (cyI, n3_7, .inl g3_7)), (a3_15, .inl (cyI, n3_15, .inl g3_15)), (a3_16, .inl (cyI, n3_16, .inl g3_16))] sz)) 0 0 (va_A [(o1, .inr (1, [.ref a1_0, .ref a1_1, .ref a1_2, .ref a1_3, .ref a1_4, .int v1_5])), (a1_0, .inl (cyI, n1_0, .inl g1_0)), (a1_1, .inl (cyI, n1_1, .inl g1_1)), (a1_2, .inl (cyI, n1_2, .inl g1_2)), (o3, .inr (3, [.ref o7, .ref o1, .int v3_2, .int v3_3, .int v3_4, .ref a3_5, .ref a3_6, .ref a3_7, .ref a3_8, .ref a3_9, .ref a3_10, .ref a3_11, .ref a3_12, .int v3_13, .int v3_14, .ref a3_15, .ref a3_16])), (a3_6, .inl (cyI, n3_6, .inl g3_6)), (a3_7, .inl (cyI, n3_7, .inl g3_7)), (a3_15, .inl (cyI, n3_15, .inl g3_15)), (a3_16, .inl (cyI, n3_16, .inl g3_16))] sz) := by
  refine Met.ofW (cc := cX3_mergeRuns) (maxL := 9) (ret := none) (by decide) rfl ?_
  intro p e s m args below meth c s₁ B hml hv
  obtain ⟨rfl, ⟨hsz, hP, hK, hN⟩, hD0⟩ := hv
  have hx := B.exec
  have hb := B.bytes
  have hr := B.returns
  have hts := atoms_spec (ws := wsX3_mergeRuns) B.pre
  have hown : s.vm.findClass RX3 = some m.cls := findClass_of_methodNamed B.named
  have k_1 := hts (.fieldLink RX3 46 "FlowJudge$Frames" "otherOrder" "[I") (by decide +kernel)
  have k_2 := hts (.fieldLink RX3 43 "FlowJudge$Frames" "order" "[I") (by decide +kernel)
  have k_3 := hts (.fieldLink RX3 69 "FlowJudge$Frames" "count" "I") (by decide +kernel)
  subst hsz
  have hD := hD0.self (sz := s.heap.size)
  generalize hAe : va_A [(o1, .inr (1, [.ref a1_0, .ref a1_1, .ref a1_2, .ref a1_3, .ref a1_4, .int v1_5])), (a1_0, .inl (cyI, n1_0, .inl g1_0)), (a1_1, .inl (cyI, n1_1, .inl g1_1)), (a1_2, .inl (cyI, n1_2, .inl g1_2)), (o3, .inr (3, [.ref o7, .ref o1, .int v3_2, .int v3_3, .int v3_4, .ref a3_5, .ref a3_6, .ref a3_7, .ref a3_8, .ref a3_9, .ref a3_10, .ref a3_11, .ref a3_12, .int v3_13, .int v3_14, .ref a3_15, .ref a3_16])), (a3_6, .inl (cyI, n3_6, .inl g3_6)), (a3_7, .inl (cyI, n3_7, .inl g3_7)), (a3_15, .inl (cyI, n3_15, .inl g3_15)), (a3_16, .inl (cyI, n3_16, .inl g3_16))] s.heap.size = A at hD ⊢
  have hA : ∀ q : Nat, s.heap.size ≤ q → A q := fun q h => by rw [← hAe]; exact Or.inr h
  have hP : va_P (dC, dI) vwCl [(o1, .inr (1, [.ref a1_0, .ref a1_1, .ref a1_2, .ref a1_3, .ref a1_4, .int v1_5])), (a1_0, .inl (cyI, n1_0, .inl g1_0)), (a1_1, .inl (cyI, n1_1, .inl g1_1)), (a1_2, .inl (cyI, n1_2, .inl g1_2)), (o3, .inr (3, [.ref o7, .ref o1, .int v3_2, .int v3_3, .int v3_4, .ref a3_5, .ref a3_6, .ref a3_7, .ref a3_8, .ref a3_9, .ref a3_10, .ref a3_11, .ref a3_12, .int v3_13, .int v3_14, .ref a3_15, .ref a3_16])), (a3_6, .inl (cyI, n3_6, .inl g3_6)), (a3_7, .inl (cyI, n3_7, .inl g3_7)), (a3_15, .inl (cyI, n3_15, .inl g3_15)), (a3_16, .inl (cyI, n3_16, .inl g3_16))] s.heap := hP
  have hl := lv_entry ([.ref o3, .int p1, .int p2]) (n := 9) (Nat.le_of_ble_eq_true rfl)
  rw [lg_entry_eq]
  generalize (lg_sl ([.ref o3, .int p1, .int p2]) ++ List.replicate (9 - (lg_sl ([.ref o3, .int p1, .int p2])).length) Slot.unset).toArray = ls at hl ⊢
  have hl : lv_has ls 9 [(0, .ref o3), (1, .int p1), (2, .int p2)] := hl
  obtain ⟨H, hH⟩ : ∃ z, z = s.heap := ⟨_, rfl⟩
  refine x_here hH ?_
  have hP : va_P (dC, dI) vwCl [(o1, .inr (1, [.ref a1_0, .ref a1_1, .ref a1_2, .ref a1_3, .ref a1_4, .int v1_5])), (a1_0, .inl (cyI, n1_0, .inl g1_0)), (a1_1, .inl (cyI, n1_1, .inl g1_1)), (a1_2, .inl (cyI, n1_2, .inl g1_2)), (o3, .inr (3, [.ref o7, .ref o1, .int v3_2, .int v3_3, .int v3_4, .ref a3_5, .ref a3_6, .ref a3_7, .ref a3_8, .ref a3_9, .ref a3_10, .ref a3_11, .ref a3_12, .int v3_13, .int v3_14, .ref a3_15, .ref a3_16])), (a3_6, .inl (cyI, n3_6, .inl g3_6)), (a3_7, .inl (cyI, n3_7, .inl g3_7)), (a3_15, .inl (cyI, n3_15, .inl g3_15)), (a3_16, .inl (cyI, n3_16, .inl g3_16))] H := by rw [hH]; exact hP
  have hS : va_S A s.heap H [] := by rw [hH]; exact va_S.rf
  clear hH
  obtain ⟨locs, hlo⟩ : ∃ z : List Loc, z = [] := ⟨_, rfl⟩
  refine x_herl hlo ?_
  have hS : va_S A s.heap H locs := by rw [hlo]; exact hS
  clear hlo
  unfold f_X3_mergeRuns at hf
  refine x_wn (fun WW hWW => ?_)
  have J := fun (l3 : Int32) (l4 : Int32) => f_X3_mergeRuns_L.partial_correctness g1_0 n1_0 g1_1 n1_1 g1_2 n1_2 v3_4 g3_6 n3_6 g3_7 n3_7 g3_15 n3_15 n3_16 l3 l4 (fun (z : Nat × Int32 × Int32 × Int32 × (Nat → Int32)) (r : (Nat → Int32)) => r = R → ∀ (q : Nat) (l5 : Int32) (l6 : Int32) (l7 : Int32) (g3_16 : Nat → Int32), z = (q, l5, l6, l7, g3_16) → ((q = 0 → ∀ (H : Heap) (locs : List Loc) (ls : Array Slot), va_P (dC, dI) vwCl [(o1, .inr (1, [.ref a1_0, .ref a1_1, .ref a1_2, .ref a1_3, .ref a1_4, .int v1_5])), (a1_0, .inl (cyI, n1_0, .inl g1_0)), (a1_1, .inl (cyI, n1_1, .inl g1_1)), (a1_2, .inl (cyI, n1_2, .inl g1_2)), (o3, .inr (3, [.ref o7, .ref o1, .int v3_2, .int v3_3, .int v3_4, .ref a3_5, .ref a3_6, .ref a3_7, .ref a3_8, .ref a3_9, .ref a3_10, .ref a3_11, .ref a3_12, .int v3_13, .int v3_14, .ref a3_15, .ref a3_16])), (a3_6, .inl (cyI, n3_6, .inl g3_6)), (a3_7, .inl (cyI, n3_7, .inl g3_7)), (a3_15, .inl (cyI, n3_15, .inl g3_15)), (a3_16, .inl (cyI, n3_16, .inl g3_16))] H → va_D A [(o1, .inr (1, [.ref a1_0, .ref a1_1, .ref a1_2, .ref a1_3, .ref a1_4, .int v1_5])), (a1_0, .inl (cyI, n1_0, .inl g1_0)), (a1_1, .inl (cyI, n1_1, .inl g1_1)), (a1_2, .inl (cyI, n1_2, .inl g1_2)), (o3, .inr (3, [.ref o7, .ref o1, .int v3_2, .int v3_3, .int v3_4, .ref a3_5, .ref a3_6, .ref a3_7, .ref a3_8, .ref a3_9, .ref a3_10, .ref a3_11, .ref a3_12, .int v3_13, .int v3_14, .ref a3_15, .ref a3_16])), (a3_6, .inl (cyI, n3_6, .inl g3_6)), (a3_7, .inl (cyI, n3_7, .inl g3_7)), (a3_15, .inl (cyI, n3_15, .inl g3_15)), (a3_16, .inl (cyI, n3_16, .inl g3_16))] → va_S A s.heap H locs → lv_has ls 9 [(0, .ref o3), (3, .int l3), (4, .int l4), (5, .int l5), (6, .int l6), (7, .int l7)] → WW H locs 0 0 (F0 m 52 ls [])))) (by
    intro F ih z r hf hr q l5 l6 l7 g3_16 hz
    subst hz
    obtain rfl := hr
    · intro hq H locs ls hP hD hS hl
      subst hq
      refine (hWW _ _ _ _ _).mp ?_
      replace hf := x_ip rfl hf
      refine lv_iload hx hb dX3_mergeRuns_52 (lv_at hl 5 rfl) ?_
      refine lv_iload hx hb dX3_mergeRuns_54 (lv_at hl 2 rfl) ?_
      refine lv_icmp_ge (tgt := 149) hx hb dX3_mergeRuns_56 (by decide) (fun c_1 => ?_) (fun c_1 => ?_)
      · replace hf := x_ip c_1 hf
        obtain rfl := Option.some.inj hf
        have hP9 := hP.sub (ws' := [(o1, .inr (1, [.ref a1_0, .ref a1_1, .ref a1_2, .ref a1_3, .ref a1_4, .int v1_5])), (a1_0, .inl (cyI, n1_0, .inl g1_0)), (a1_1, .inl (cyI, n1_1, .inl g1_1)), (a1_2, .inl (cyI, n1_2, .inl g1_2)), (o3, .inr (3, [.ref o7, .ref o1, .int v3_2, .int v3_3, .int v3_4, .ref a3_5, .ref a3_6, .ref a3_7, .ref a3_8, .ref a3_9, .ref a3_10, .ref a3_11, .ref a3_12, .int v3_13, .int v3_14, .ref a3_15, .ref a3_16])), (a3_6, .inl (cyI, n3_6, .inl g3_6)), (a3_7, .inl (cyI, n3_7, .inl g3_7)), (a3_15, .inl (cyI, n3_15, .inl g3_15)), (a3_16, .inl (cyI, n3_16, .inl g3_16))]) [0, 1, 2, 3, 4, 5, 6, 7, 8] rfl
        have hD9 := hD.sub (ws' := [(o1, .inr (1, [.ref a1_0, .ref a1_1, .ref a1_2, .ref a1_3, .ref a1_4, .int v1_5])), (a1_0, .inl (cyI, n1_0, .inl g1_0)), (a1_1, .inl (cyI, n1_1, .inl g1_1)), (a1_2, .inl (cyI, n1_2, .inl g1_2)), (o3, .inr (3, [.ref o7, .ref o1, .int v3_2, .int v3_3, .int v3_4, .ref a3_5, .ref a3_6, .ref a3_7, .ref a3_8, .ref a3_9, .ref a3_10, .ref a3_11, .ref a3_12, .int v3_13, .int v3_14, .ref a3_15, .ref a3_16])), (a3_6, .inl (cyI, n3_6, .inl g3_6)), (a3_7, .inl (cyI, n3_7, .inl g3_7)), (a3_15, .inl (cyI, n3_15, .inl g3_15)), (a3_16, .inl (cyI, n3_16, .inl g3_16))]) [0, 1, 2, 3, 4, 5, 6, 7, 8] (by decide) rfl
        exact W.vret hx hb hr (fun t ht hW => ⟨⟨(), rfl, trivial, by rw [ht]; exact hP9, va_K.moved hW.alike hK, hD9⟩, hS.F ht⟩) hS.2.2 dX3_mergeRuns_149
      · replace hf := x_in c_1 hf
        refine lv_iload hx hb dX3_mergeRuns_59 (lv_at hl 4 rfl) ?_
        refine lv_iload hx hb dX3_mergeRuns_61 (lv_at hl 2 rfl) ?_
        refine lv_icmp_ge (tgt := 93) hx hb dX3_mergeRuns_63 (by decide) (fun c_2 => ?_) (fun c_2 => ?_)
        · replace hf := x_ip c_2 hf
          refine lv_iconst (v := 1) hx hb dX3_mergeRuns_93 (by decide) ?_
          refine lv_goto (tgt := 98) hx hb dX3_mergeRuns_94 (by decide) ?_
          refine lv_istore (lv' := [(8, .int 1), (0, .ref o3), (3, .int l3), (4, .int l4), (5, .int l5), (6, .int l6), (7, .int l7)]) hx hb dX3_mergeRuns_98 hl (by decide) rfl (fun ls hl => ?_)
          refine lv_aload_n hx hb dX3_mergeRuns_100 rfl (lv_at hl 1 rfl) ?_
          refine va_get (D := (dC, dI)) (ci := 3) (v := .ref a3_16) (C := RX3) (T := TX3) (N := 17) hx hb hts i_X3_mergeRuns_X3 hown hK hP 4 rfl rfl 16 (by decide) k_1 (fun _ h9 => h9) rfl dX3_mergeRuns_101 ?_
          refine lv_iload hx hb dX3_mergeRuns_104 (lv_at hl 6 rfl) ?_
          refine lv_iload hx hb dX3_mergeRuns_106 (lv_at hl 0 rfl) ?_
          refine lv_if_eq (tgt := 121) hx hb dX3_mergeRuns_108 (by decide) (fun c_3 => absurd c_3 (by decide)) (fun _ => ?_)
          refine lv_aload_n hx hb dX3_mergeRuns_111 rfl (lv_at hl 1 rfl) ?_
          refine va_get (D := (dC, dI)) (ci := 3) (v := .ref a3_15) (C := RX3) (T := TX3) (N := 17) hx hb hts i_X3_mergeRuns_X3 hown hK hP 4 rfl rfl 15 (by decide) k_2 (fun _ h9 => h9) rfl dX3_mergeRuns_112 ?_
          refine lv_iload hx hb dX3_mergeRuns_115 (lv_at hl 4 rfl) ?_
          obtain ⟨g_4, hf⟩ := x_gu hf
          refine va_iald hx hb hK hP 7 0 rfl rfl (x_gdin g_4) dX3_mergeRuns_117 ?_
          refine lv_goto (tgt := 128) hx hb dX3_mergeRuns_118 (by decide) ?_
          obtain ⟨g_5, hf⟩ := x_gu hf
          refine va_iast hx hb hK hP hD hS 8 0 rfl rfl (x_gdin g_5) dX3_mergeRuns_128 (fun H locs hP hD hS => ?_)
          have hP : va_P (dC, dI) vwCl [(o1, .inr (1, [.ref a1_0, .ref a1_1, .ref a1_2, .ref a1_3, .ref a1_4, .int v1_5])), (a1_0, .inl (cyI, n1_0, .inl g1_0)), (a1_1, .inl (cyI, n1_1, .inl g1_1)), (a1_2, .inl (cyI, n1_2, .inl g1_2)), (o3, .inr (3, [.ref o7, .ref o1, .int v3_2, .int v3_3, .int v3_4, .ref a3_5, .ref a3_6, .ref a3_7, .ref a3_8, .ref a3_9, .ref a3_10, .ref a3_11, .ref a3_12, .int v3_13, .int v3_14, .ref a3_15, .ref a3_16])), (a3_6, .inl (cyI, n3_6, .inl g3_6)), (a3_7, .inl (cyI, n3_7, .inl g3_7)), (a3_15, .inl (cyI, n3_15, .inl g3_15)), (a3_16, .inl (cyI, n3_16, .inl (upd g3_16 (Int32.toNatClampNeg l7) (g3_15 (Int32.toNatClampNeg l5)))))] H := hP
          have hD : va_D A [(o1, .inr (1, [.ref a1_0, .ref a1_1, .ref a1_2, .ref a1_3, .ref a1_4, .int v1_5])), (a1_0, .inl (cyI, n1_0, .inl g1_0)), (a1_1, .inl (cyI, n1_1, .inl g1_1)), (a1_2, .inl (cyI, n1_2, .inl g1_2)), (o3, .inr (3, [.ref o7, .ref o1, .int v3_2, .int v3_3, .int v3_4, .ref a3_5, .ref a3_6, .ref a3_7, .ref a3_8, .ref a3_9, .ref a3_10, .ref a3_11, .ref a3_12, .int v3_13, .int v3_14, .ref a3_15, .ref a3_16])), (a3_6, .inl (cyI, n3_6, .inl g3_6)), (a3_7, .inl (cyI, n3_7, .inl g3_7)), (a3_15, .inl (cyI, n3_15, .inl g3_15)), (a3_16, .inl (cyI, n3_16, .inl (upd g3_16 (Int32.toNatClampNeg l7) (g3_15 (Int32.toNatClampNeg l5)))))] := hD
          refine lv_iload hx hb dX3_mergeRuns_129 (lv_at hl 0 rfl) ?_
          refine lv_if_eq (tgt := 140) hx hb dX3_mergeRuns_131 (by decide) (fun c_6 => absurd c_6 (by decide)) (fun _ => ?_)
          refine lv_iinc (v := (l5 + 1)) (lv' := [(5, .int (l5 + 1)), (8, .int 1), (0, .ref o3), (3, .int l3), (4, .int l4), (6, .int l6), (7, .int l7)]) hx hb dX3_mergeRuns_134 hl (k := 4) rfl rfl (by decide) rfl (fun ls hl => ?_)
          refine lv_goto (tgt := 143) hx hb dX3_mergeRuns_137 (by decide) ?_
          refine lv_iinc (v := (l7 + 1)) (lv' := [(7, .int (l7 + 1)), (5, .int (l5 + 1)), (8, .int 1), (0, .ref o3), (3, .int l3), (4, .int l4), (6, .int l6)]) hx hb dX3_mergeRuns_143 hl (k := 6) rfl rfl (by decide) rfl (fun ls hl => ?_)
          refine lv_goto (tgt := 52) hx hb dX3_mergeRuns_146 (by decide) ?_
          exact (hWW _ _ _ _ _).mpr ((ih (0, l5 + 1, l6, l7 + 1, upd g3_16 (Int32.toNatClampNeg l7) (g3_15 (Int32.toNatClampNeg l5))) _ hf rfl _ _ _ _ _ rfl) rfl H locs ls hP hD hS (lv_sub hl [3, 4, 5, 1, 6, 0] rfl))
        · replace hf := x_in c_2 hf
          refine lv_iload hx hb dX3_mergeRuns_66 (lv_at hl 3 rfl) ?_
          refine lv_iload_n hx hb dX3_mergeRuns_68 rfl (lv_at hl 1 rfl) ?_
          refine lv_icmp_ge (tgt := 97) hx hb dX3_mergeRuns_69 (by decide) (fun c_7 => ?_) (fun c_7 => ?_)
          · replace hf := x_ip c_7 hf
            refine lv_iconst (v := 0) hx hb dX3_mergeRuns_97 (by decide) ?_
            refine lv_istore (lv' := [(8, .int 0), (0, .ref o3), (3, .int l3), (4, .int l4), (5, .int l5), (6, .int l6), (7, .int l7)]) hx hb dX3_mergeRuns_98 hl (by decide) rfl (fun ls hl => ?_)
            refine lv_aload_n hx hb dX3_mergeRuns_100 rfl (lv_at hl 1 rfl) ?_
            refine va_get (D := (dC, dI)) (ci := 3) (v := .ref a3_16) (C := RX3) (T := TX3) (N := 17) hx hb hts i_X3_mergeRuns_X3 hown hK hP 4 rfl rfl 16 (by decide) k_1 (fun _ h9 => h9) rfl dX3_mergeRuns_101 ?_
            refine lv_iload hx hb dX3_mergeRuns_104 (lv_at hl 6 rfl) ?_
            refine lv_iload hx hb dX3_mergeRuns_106 (lv_at hl 0 rfl) ?_
            refine lv_if_eq (tgt := 121) hx hb dX3_mergeRuns_108 (by decide) (fun _ => ?_) (fun c_8 => absurd (by decide) c_8)
            refine lv_aload_n hx hb dX3_mergeRuns_121 rfl (lv_at hl 1 rfl) ?_
            refine va_get (D := (dC, dI)) (ci := 3) (v := .ref a3_15) (C := RX3) (T := TX3) (N := 17) hx hb hts i_X3_mergeRuns_X3 hown hK hP 4 rfl rfl 15 (by decide) k_2 (fun _ h9 => h9) rfl dX3_mergeRuns_122 ?_
            refine lv_iload hx hb dX3_mergeRuns_125 (lv_at hl 5 rfl) ?_
            obtain ⟨g_9, hf⟩ := x_gu hf
            refine va_iald hx hb hK hP 7 0 rfl rfl (x_gdin g_9) dX3_mergeRuns_127 ?_
            obtain ⟨g_10, hf⟩ := x_gu hf
            refine va_iast hx hb hK hP hD hS 8 0 rfl rfl (x_gdin g_10) dX3_mergeRuns_128 (fun H locs hP hD hS => ?_)
            have hP : va_P (dC, dI) vwCl [(o1, .inr (1, [.ref a1_0, .ref a1_1, .ref a1_2, .ref a1_3, .ref a1_4, .int v1_5])), (a1_0, .inl (cyI, n1_0, .inl g1_0)), (a1_1, .inl (cyI, n1_1, .inl g1_1)), (a1_2, .inl (cyI, n1_2, .inl g1_2)), (o3, .inr (3, [.ref o7, .ref o1, .int v3_2, .int v3_3, .int v3_4, .ref a3_5, .ref a3_6, .ref a3_7, .ref a3_8, .ref a3_9, .ref a3_10, .ref a3_11, .ref a3_12, .int v3_13, .int v3_14, .ref a3_15, .ref a3_16])), (a3_6, .inl (cyI, n3_6, .inl g3_6)), (a3_7, .inl (cyI, n3_7, .inl g3_7)), (a3_15, .inl (cyI, n3_15, .inl g3_15)), (a3_16, .inl (cyI, n3_16, .inl (upd g3_16 (Int32.toNatClampNeg l7) (g3_15 (Int32.toNatClampNeg l6)))))] H := hP
            have hD : va_D A [(o1, .inr (1, [.ref a1_0, .ref a1_1, .ref a1_2, .ref a1_3, .ref a1_4, .int v1_5])), (a1_0, .inl (cyI, n1_0, .inl g1_0)), (a1_1, .inl (cyI, n1_1, .inl g1_1)), (a1_2, .inl (cyI, n1_2, .inl g1_2)), (o3, .inr (3, [.ref o7, .ref o1, .int v3_2, .int v3_3, .int v3_4, .ref a3_5, .ref a3_6, .ref a3_7, .ref a3_8, .ref a3_9, .ref a3_10, .ref a3_11, .ref a3_12, .int v3_13, .int v3_14, .ref a3_15, .ref a3_16])), (a3_6, .inl (cyI, n3_6, .inl g3_6)), (a3_7, .inl (cyI, n3_7, .inl g3_7)), (a3_15, .inl (cyI, n3_15, .inl g3_15)), (a3_16, .inl (cyI, n3_16, .inl (upd g3_16 (Int32.toNatClampNeg l7) (g3_15 (Int32.toNatClampNeg l6)))))] := hD
            refine lv_iload hx hb dX3_mergeRuns_129 (lv_at hl 0 rfl) ?_
            refine lv_if_eq (tgt := 140) hx hb dX3_mergeRuns_131 (by decide) (fun _ => ?_) (fun c_11 => absurd (by decide) c_11)
            refine lv_iinc (v := (l6 + 1)) (lv' := [(6, .int (l6 + 1)), (8, .int 0), (0, .ref o3), (3, .int l3), (4, .int l4), (5, .int l5), (7, .int l7)]) hx hb dX3_mergeRuns_140 hl (k := 5) rfl rfl (by decide) rfl (fun ls hl => ?_)
            refine lv_iinc (v := (l7 + 1)) (lv' := [(7, .int (l7 + 1)), (6, .int (l6 + 1)), (8, .int 0), (0, .ref o3), (3, .int l3), (4, .int l4), (5, .int l5)]) hx hb dX3_mergeRuns_143 hl (k := 6) rfl rfl (by decide) rfl (fun ls hl => ?_)
            refine lv_goto (tgt := 52) hx hb dX3_mergeRuns_146 (by decide) ?_
            exact (hWW _ _ _ _ _).mpr ((ih (0, l5, l6 + 1, l7 + 1, upd g3_16 (Int32.toNatClampNeg l7) (g3_15 (Int32.toNatClampNeg l6))) _ hf rfl _ _ _ _ _ rfl) rfl H locs ls hP hD hS (lv_sub hl [3, 4, 5, 6, 1, 0] rfl))
          · replace hf := x_in c_7 hf
            refine lv_aload_n hx hb dX3_mergeRuns_72 rfl (lv_at hl 0 rfl) ?_
            refine lv_aload_n hx hb dX3_mergeRuns_73 rfl (lv_at hl 0 rfl) ?_
            refine va_get (D := (dC, dI)) (ci := 3) (v := .ref a3_15) (C := RX3) (T := TX3) (N := 17) hx hb hts i_X3_mergeRuns_X3 hown hK hP 4 rfl rfl 15 (by decide) k_2 (fun _ h9 => h9) rfl dX3_mergeRuns_74 ?_
            refine lv_iload hx hb dX3_mergeRuns_77 (lv_at hl 4 rfl) ?_
            obtain ⟨g_12, hf⟩ := x_gu hf
            refine va_iald hx hb hK hP 7 0 rfl rfl (x_gdin g_12) dX3_mergeRuns_79 ?_
            refine lv_aload_n hx hb dX3_mergeRuns_80 rfl (lv_at hl 0 rfl) ?_
            refine va_get (D := (dC, dI)) (ci := 3) (v := .ref a3_15) (C := RX3) (T := TX3) (N := 17) hx hb hts i_X3_mergeRuns_X3 hown hK hP 4 rfl rfl 15 (by decide) k_2 (fun _ h9 => h9) rfl dX3_mergeRuns_81 ?_
            refine lv_iload hx hb dX3_mergeRuns_84 (lv_at hl 3 rfl) ?_
            obtain ⟨g_13, hf⟩ := x_gu hf
            refine va_iald hx hb hK hP 7 0 rfl rfl (x_gdin g_13) dX3_mergeRuns_86 ?_
            obtain ⟨r_14, h_14, hf⟩ := x_bi hf
            have hPc := hP.sub (ws' := [(o1, .inr (1, [.ref a1_0, .ref a1_1, .ref a1_2, .ref a1_3, .ref a1_4, .int v1_5])), (a1_0, .inl (cyI, n1_0, .inl g1_0)), (a1_1, .inl (cyI, n1_1, .inl g1_1)), (a1_2, .inl (cyI, n1_2, .inl g1_2)), (o3, .inr (3, [.ref o7, .ref o1, .int v3_2, .int v3_3, .int v3_4, .ref a3_5, .ref a3_6, .ref a3_7, .ref a3_8, .ref a3_9, .ref a3_10, .ref a3_11, .ref a3_12, .int v3_13, .int v3_14, .ref a3_15, .ref a3_16])), (a3_6, .inl (cyI, n3_6, .inl g3_6)), (a3_7, .inl (cyI, n3_7, .inl g3_7))]) [0, 1, 2, 3, 4, 5, 6] rfl
            refine va_calli (va_runV (As := [.int (g3_15 (Int32.toNatClampNeg l6)), .int (g3_15 (Int32.toNatClampNeg l5))]) (rest := []) ⟨hx, hb, hml, hown, hts⟩ (c_X3_isBefore l dC dI cyI cyZ cyJ H.size o1 a1_0 a1_1 a1_2 a1_3 a1_4 v1_5 g1_0 n1_0 g1_1 n1_1 g1_2 n1_2 o3 o7 v3_2 v3_3 v3_4 a3_5 a3_6 a3_7 a3_8 a3_9 a3_10 a3_11 a3_12 v3_13 v3_14 a3_15 a3_16 g3_6 n3_6 g3_7 n3_7 (g3_15 (Int32.toNatClampNeg l6)) (g3_15 (Int32.toNatClampNeg l5)) r_14 h_14) (cwV 2 hts gX3_mergeRuns_X3_isBefore rfl rfl rfl (by decide +kernel) ⟨Nat.le_of_ble_eq_true rfl, Nat.le_of_ble_eq_true rfl⟩) (x_pV hN hK hPc (ci := 3) (q0 := 4) rfl rfl) rfl rfl hl.1 rfl (lv_room (Nat.le_of_ble_eq_true rfl)) dX3_mergeRuns_87 ⟨Nat.le_of_ble_eq_true rfl, Nat.le_of_ble_eq_true rfl⟩) hS x_nA (x_nf hA hS) (fun q_14 u t H1 locs ht hvm hw hB hz1 hk1 hS => ?_)
            have hP := x_kp hP hk1
            clear ht hvm hB hz1 hk1 t u hPc
            generalize H1 = H at hP hS ⊢
            obtain ⟨hw, b_14⟩ := hw
            obtain rfl := hw.symm
            refine lv_if_ne (tgt := 97) hx hb dX3_mergeRuns_90 (by decide) (fun c_15 => ?_) (fun c_15 => ?_)
            · replace hf := x_in c_15 hf
              refine lv_iconst (v := 0) hx hb dX3_mergeRuns_97 (by decide) ?_
              refine lv_istore (lv' := [(8, .int 0), (0, .ref o3), (3, .int l3), (4, .int l4), (5, .int l5), (6, .int l6), (7, .int l7)]) hx hb dX3_mergeRuns_98 hl (by decide) rfl (fun ls hl => ?_)
              refine lv_aload_n hx hb dX3_mergeRuns_100 rfl (lv_at hl 1 rfl) ?_
              refine va_get (D := (dC, dI)) (ci := 3) (v := .ref a3_16) (C := RX3) (T := TX3) (N := 17) hx hb hts i_X3_mergeRuns_X3 hown hK hP 4 rfl rfl 16 (by decide) k_1 (fun _ h9 => h9) rfl dX3_mergeRuns_101 ?_
              refine lv_iload hx hb dX3_mergeRuns_104 (lv_at hl 6 rfl) ?_
              refine lv_iload hx hb dX3_mergeRuns_106 (lv_at hl 0 rfl) ?_
              refine lv_if_eq (tgt := 121) hx hb dX3_mergeRuns_108 (by decide) (fun _ => ?_) (fun c_16 => absurd (by decide) c_16)
              refine lv_aload_n hx hb dX3_mergeRuns_121 rfl (lv_at hl 1 rfl) ?_
              refine va_get (D := (dC, dI)) (ci := 3) (v := .ref a3_15) (C := RX3) (T := TX3) (N := 17) hx hb hts i_X3_mergeRuns_X3 hown hK hP 4 rfl rfl 15 (by decide) k_2 (fun _ h9 => h9) rfl dX3_mergeRuns_122 ?_
              refine lv_iload hx hb dX3_mergeRuns_125 (lv_at hl 5 rfl) ?_
              obtain ⟨g_17, hf⟩ := x_gu hf
              refine va_iald hx hb hK hP 7 0 rfl rfl (x_gdin g_17) dX3_mergeRuns_127 ?_
              obtain ⟨g_18, hf⟩ := x_gu hf
              refine va_iast hx hb hK hP hD hS 8 0 rfl rfl (x_gdin g_18) dX3_mergeRuns_128 (fun H locs hP hD hS => ?_)
              have hP : va_P (dC, dI) vwCl [(o1, .inr (1, [.ref a1_0, .ref a1_1, .ref a1_2, .ref a1_3, .ref a1_4, .int v1_5])), (a1_0, .inl (cyI, n1_0, .inl g1_0)), (a1_1, .inl (cyI, n1_1, .inl g1_1)), (a1_2, .inl (cyI, n1_2, .inl g1_2)), (o3, .inr (3, [.ref o7, .ref o1, .int v3_2, .int v3_3, .int v3_4, .ref a3_5, .ref a3_6, .ref a3_7, .ref a3_8, .ref a3_9, .ref a3_10, .ref a3_11, .ref a3_12, .int v3_13, .int v3_14, .ref a3_15, .ref a3_16])), (a3_6, .inl (cyI, n3_6, .inl g3_6)), (a3_7, .inl (cyI, n3_7, .inl g3_7)), (a3_15, .inl (cyI, n3_15, .inl g3_15)), (a3_16, .inl (cyI, n3_16, .inl (upd g3_16 (Int32.toNatClampNeg l7) (g3_15 (Int32.toNatClampNeg l6)))))] H := hP
              have hD : va_D A [(o1, .inr (1, [.ref a1_0, .ref a1_1, .ref a1_2, .ref a1_3, .ref a1_4, .int v1_5])), (a1_0, .inl (cyI, n1_0, .inl g1_0)), (a1_1, .inl (cyI, n1_1, .inl g1_1)), (a1_2, .inl (cyI, n1_2, .inl g1_2)), (o3, .inr (3, [.ref o7, .ref o1, .int v3_2, .int v3_3, .int v3_4, .ref a3_5, .ref a3_6, .ref a3_7, .ref a3_8, .ref a3_9, .ref a3_10, .ref a3_11, .ref a3_12, .int v3_13, .int v3_14, .ref a3_15, .ref a3_16])), (a3_6, .inl (cyI, n3_6, .inl g3_6)), (a3_7, .inl (cyI, n3_7, .inl g3_7)), (a3_15, .inl (cyI, n3_15, .inl g3_15)), (a3_16, .inl (cyI, n3_16, .inl (upd g3_16 (Int32.toNatClampNeg l7) (g3_15 (Int32.toNatClampNeg l6)))))] := hD
              refine lv_iload hx hb dX3_mergeRuns_129 (lv_at hl 0 rfl) ?_
              refine lv_if_eq (tgt := 140) hx hb dX3_mergeRuns_131 (by decide) (fun _ => ?_) (fun c_19 => absurd (by decide) c_19)
              refine lv_iinc (v := (l6 + 1)) (lv' := [(6, .int (l6 + 1)), (8, .int 0), (0, .ref o3), (3, .int l3), (4, .int l4), (5, .int l5), (7, .int l7)]) hx hb dX3_mergeRuns_140 hl (k := 5) rfl rfl (by decide) rfl (fun ls hl => ?_)
              refine lv_iinc (v := (l7 + 1)) (lv' := [(7, .int (l7 + 1)), (6, .int (l6 + 1)), (8, .int 0), (0, .ref o3), (3, .int l3), (4, .int l4), (5, .int l5)]) hx hb dX3_mergeRuns_143 hl (k := 6) rfl rfl (by decide) rfl (fun ls hl => ?_)
              refine lv_goto (tgt := 52) hx hb dX3_mergeRuns_146 (by decide) ?_
              exact (hWW _ _ _ _ _).mpr ((ih (0, l5, l6 + 1, l7 + 1, upd g3_16 (Int32.toNatClampNeg l7) (g3_15 (Int32.toNatClampNeg l6))) _ hf rfl _ _ _ _ _ rfl) rfl H locs ls hP hD hS (lv_sub hl [3, 4, 5, 6, 1, 0] rfl))
            · replace hf := x_ip c_15 hf
              refine lv_iconst (v := 1) hx hb dX3_mergeRuns_93 (by decide) ?_
              refine lv_goto (tgt := 98) hx hb dX3_mergeRuns_94 (by decide) ?_
              refine lv_istore (lv' := [(8, .int 1), (0, .ref o3), (3, .int l3), (4, .int l4), (5, .int l5), (6, .int l6), (7, .int l7)]) hx hb dX3_mergeRuns_98 hl (by decide) rfl (fun ls hl => ?_)
              refine lv_aload_n hx hb dX3_mergeRuns_100 rfl (lv_at hl 1 rfl) ?_
              refine va_get (D := (dC, dI)) (ci := 3) (v := .ref a3_16) (C := RX3) (T := TX3) (N := 17) hx hb hts i_X3_mergeRuns_X3 hown hK hP 4 rfl rfl 16 (by decide) k_1 (fun _ h9 => h9) rfl dX3_mergeRuns_101 ?_
              refine lv_iload hx hb dX3_mergeRuns_104 (lv_at hl 6 rfl) ?_
              refine lv_iload hx hb dX3_mergeRuns_106 (lv_at hl 0 rfl) ?_
              refine lv_if_eq (tgt := 121) hx hb dX3_mergeRuns_108 (by decide) (fun c_20 => absurd c_20 (by decide)) (fun _ => ?_)
              refine lv_aload_n hx hb dX3_mergeRuns_111 rfl (lv_at hl 1 rfl) ?_
              refine va_get (D := (dC, dI)) (ci := 3) (v := .ref a3_15) (C := RX3) (T := TX3) (N := 17) hx hb hts i_X3_mergeRuns_X3 hown hK hP 4 rfl rfl 15 (by decide) k_2 (fun _ h9 => h9) rfl dX3_mergeRuns_112 ?_
              refine lv_iload hx hb dX3_mergeRuns_115 (lv_at hl 4 rfl) ?_
              obtain ⟨g_21, hf⟩ := x_gu hf
              refine va_iald hx hb hK hP 7 0 rfl rfl (x_gdin g_21) dX3_mergeRuns_117 ?_
              refine lv_goto (tgt := 128) hx hb dX3_mergeRuns_118 (by decide) ?_
              obtain ⟨g_22, hf⟩ := x_gu hf
              refine va_iast hx hb hK hP hD hS 8 0 rfl rfl (x_gdin g_22) dX3_mergeRuns_128 (fun H locs hP hD hS => ?_)
              have hP : va_P (dC, dI) vwCl [(o1, .inr (1, [.ref a1_0, .ref a1_1, .ref a1_2, .ref a1_3, .ref a1_4, .int v1_5])), (a1_0, .inl (cyI, n1_0, .inl g1_0)), (a1_1, .inl (cyI, n1_1, .inl g1_1)), (a1_2, .inl (cyI, n1_2, .inl g1_2)), (o3, .inr (3, [.ref o7, .ref o1, .int v3_2, .int v3_3, .int v3_4, .ref a3_5, .ref a3_6, .ref a3_7, .ref a3_8, .ref a3_9, .ref a3_10, .ref a3_11, .ref a3_12, .int v3_13, .int v3_14, .ref a3_15, .ref a3_16])), (a3_6, .inl (cyI, n3_6, .inl g3_6)), (a3_7, .inl (cyI, n3_7, .inl g3_7)), (a3_15, .inl (cyI, n3_15, .inl g3_15)), (a3_16, .inl (cyI, n3_16, .inl (upd g3_16 (Int32.toNatClampNeg l7) (g3_15 (Int32.toNatClampNeg l5)))))] H := hP
              have hD : va_D A [(o1, .inr (1, [.ref a1_0, .ref a1_1, .ref a1_2, .ref a1_3, .ref a1_4, .int v1_5])), (a1_0, .inl (cyI, n1_0, .inl g1_0)), (a1_1, .inl (cyI, n1_1, .inl g1_1)), (a1_2, .inl (cyI, n1_2, .inl g1_2)), (o3, .inr (3, [.ref o7, .ref o1, .int v3_2, .int v3_3, .int v3_4, .ref a3_5, .ref a3_6, .ref a3_7, .ref a3_8, .ref a3_9, .ref a3_10, .ref a3_11, .ref a3_12, .int v3_13, .int v3_14, .ref a3_15, .ref a3_16])), (a3_6, .inl (cyI, n3_6, .inl g3_6)), (a3_7, .inl (cyI, n3_7, .inl g3_7)), (a3_15, .inl (cyI, n3_15, .inl g3_15)), (a3_16, .inl (cyI, n3_16, .inl (upd g3_16 (Int32.toNatClampNeg l7) (g3_15 (Int32.toNatClampNeg l5)))))] := hD
              refine lv_iload hx hb dX3_mergeRuns_129 (lv_at hl 0 rfl) ?_
              refine lv_if_eq (tgt := 140) hx hb dX3_mergeRuns_131 (by decide) (fun c_23 => absurd c_23 (by decide)) (fun _ => ?_)
              refine lv_iinc (v := (l5 + 1)) (lv' := [(5, .int (l5 + 1)), (8, .int 1), (0, .ref o3), (3, .int l3), (4, .int l4), (6, .int l6), (7, .int l7)]) hx hb dX3_mergeRuns_134 hl (k := 4) rfl rfl (by decide) rfl (fun ls hl => ?_)
              refine lv_goto (tgt := 143) hx hb dX3_mergeRuns_137 (by decide) ?_
              refine lv_iinc (v := (l7 + 1)) (lv' := [(7, .int (l7 + 1)), (5, .int (l5 + 1)), (8, .int 1), (0, .ref o3), (3, .int l3), (4, .int l4), (6, .int l6)]) hx hb dX3_mergeRuns_143 hl (k := 6) rfl rfl (by decide) rfl (fun ls hl => ?_)
              refine lv_goto (tgt := 52) hx hb dX3_mergeRuns_146 (by decide) ?_
              exact (hWW _ _ _ _ _).mpr ((ih (0, l5 + 1, l6, l7 + 1, upd g3_16 (Int32.toNatClampNeg l7) (g3_15 (Int32.toNatClampNeg l5))) _ hf rfl _ _ _ _ _ rfl) rfl H locs ls hP hD hS (lv_sub hl [3, 4, 5, 1, 6, 0] rfl)))
  refine lv_iload_n hx hb dX3_mergeRuns_0 rfl (lv_at hl 1 rfl) ?_
  refine lv_iload_n hx hb dX3_mergeRuns_1 rfl (lv_at hl 2 rfl) ?_
  refine lv_iadd hx hb dX3_mergeRuns_2 ?_
  refine lv_aload_n hx hb dX3_mergeRuns_3 rfl (lv_at hl 0 rfl) ?_
  refine va_get (D := (dC, dI)) (ci := 3) (v := .int v3_4) (C := RX3) (T := TX3) (N := 17) hx hb hts i_X3_mergeRuns_X3 hown hK hP 4 rfl rfl 4 (by decide) k_3 (fun _ h9 => h9) rfl dX3_mergeRuns_4 ?_
  refine lv_icmp_ge (tgt := 16) hx hb dX3_mergeRuns_7 (by decide) (fun c_24 => ?_) (fun c_24 => ?_)
  · replace hf := x_ip c_24 hf
    refine lv_aload_n hx hb dX3_mergeRuns_16 rfl (lv_at hl 0 rfl) ?_
    refine va_get (D := (dC, dI)) (ci := 3) (v := .int v3_4) (C := RX3) (T := TX3) (N := 17) hx hb hts i_X3_mergeRuns_X3 hown hK hP 4 rfl rfl 4 (by decide) k_3 (fun _ h9 => h9) rfl dX3_mergeRuns_17 ?_
    refine lv_istore_n (lv' := [(3, .int v3_4), (0, .ref o3), (1, .int p1), (2, .int p2)]) hx hb dX3_mergeRuns_20 rfl hl (by decide) rfl (fun ls hl => ?_)
    refine lv_iload_n hx hb dX3_mergeRuns_21 rfl (lv_at hl 0 rfl) ?_
    refine lv_iload_n hx hb dX3_mergeRuns_22 rfl (lv_at hl 3 rfl) ?_
    refine lv_iadd hx hb dX3_mergeRuns_23 ?_
    refine lv_aload_n hx hb dX3_mergeRuns_24 rfl (lv_at hl 1 rfl) ?_
    refine va_get (D := (dC, dI)) (ci := 3) (v := .int v3_4) (C := RX3) (T := TX3) (N := 17) hx hb hts i_X3_mergeRuns_X3 hown hK hP 4 rfl rfl 4 (by decide) k_3 (fun _ h9 => h9) rfl dX3_mergeRuns_25 ?_
    refine lv_icmp_ge (tgt := 37) hx hb dX3_mergeRuns_28 (by decide) (fun c_25 => ?_) (fun c_25 => ?_)
    · replace hf := x_ip c_25 hf
      refine lv_aload_n hx hb dX3_mergeRuns_37 rfl (lv_at hl 1 rfl) ?_
      refine va_get (D := (dC, dI)) (ci := 3) (v := .int v3_4) (C := RX3) (T := TX3) (N := 17) hx hb hts i_X3_mergeRuns_X3 hown hK hP 4 rfl rfl 4 (by decide) k_3 (fun _ h9 => h9) rfl dX3_mergeRuns_38 ?_
      refine lv_istore (lv' := [(4, .int v3_4), (3, .int v3_4), (0, .ref o3), (1, .int p1), (2, .int p2)]) hx hb dX3_mergeRuns_41 hl (by decide) rfl (fun ls hl => ?_)
      refine lv_iload_n hx hb dX3_mergeRuns_43 rfl (lv_at hl 3 rfl) ?_
      refine lv_istore (lv' := [(5, .int p1), (4, .int v3_4), (3, .int v3_4), (0, .ref o3), (1, .int p1), (2, .int p2)]) hx hb dX3_mergeRuns_44 hl (by decide) rfl (fun ls hl => ?_)
      refine lv_iload_n hx hb dX3_mergeRuns_46 rfl (lv_at hl 2 rfl) ?_
      refine lv_istore (lv' := [(6, .int v3_4), (5, .int p1), (4, .int v3_4), (3, .int v3_4), (0, .ref o3), (1, .int p1), (2, .int p2)]) hx hb dX3_mergeRuns_47 hl (by decide) rfl (fun ls hl => ?_)
      refine lv_iload_n hx hb dX3_mergeRuns_49 rfl (lv_at hl 5 rfl) ?_
      refine lv_istore (lv' := [(7, .int p1), (6, .int v3_4), (5, .int p1), (4, .int v3_4), (3, .int v3_4), (0, .ref o3), (1, .int p1), (2, .int p2)]) hx hb dX3_mergeRuns_50 hl (by decide) rfl (fun ls hl => ?_)
      exact (hWW _ _ _ _ _).mpr ((J v3_4 v3_4 (0, p1, v3_4, p1, g3_16) _ hf rfl _ _ _ _ _ rfl) rfl H locs ls hP hD hS (lv_sub hl [5, 4, 3, 2, 1, 0] rfl))
    · replace hf := x_in c_25 hf
      refine lv_iload_n hx hb dX3_mergeRuns_31 rfl (lv_at hl 0 rfl) ?_
      refine lv_iload_n hx hb dX3_mergeRuns_32 rfl (lv_at hl 3 rfl) ?_
      refine lv_iadd hx hb dX3_mergeRuns_33 ?_
      refine lv_goto (tgt := 41) hx hb dX3_mergeRuns_34 (by decide) ?_
      refine lv_istore (lv' := [(4, .int (v3_4 + p2)), (3, .int v3_4), (0, .ref o3), (1, .int p1), (2, .int p2)]) hx hb dX3_mergeRuns_41 hl (by decide) rfl (fun ls hl => ?_)
      refine lv_iload_n hx hb dX3_mergeRuns_43 rfl (lv_at hl 3 rfl) ?_
      refine lv_istore (lv' := [(5, .int p1), (4, .int (v3_4 + p2)), (3, .int v3_4), (0, .ref o3), (1, .int p1), (2, .int p2)]) hx hb dX3_mergeRuns_44 hl (by decide) rfl (fun ls hl => ?_)
      refine lv_iload_n hx hb dX3_mergeRuns_46 rfl (lv_at hl 2 rfl) ?_
      refine lv_istore (lv' := [(6, .int v3_4), (5, .int p1), (4, .int (v3_4 + p2)), (3, .int v3_4), (0, .ref o3), (1, .int p1), (2, .int p2)]) hx hb dX3_mergeRuns_47 hl (by decide) rfl (fun ls hl => ?_)
      refine lv_iload_n hx hb dX3_mergeRuns_49 rfl (lv_at hl 5 rfl) ?_
      refine lv_istore (lv' := [(7, .int p1), (6, .int v3_4), (5, .int p1), (4, .int (v3_4 + p2)), (3, .int v3_4), (0, .ref o3), (1, .int p1), (2, .int p2)]) hx hb dX3_mergeRuns_50 hl (by decide) rfl (fun ls hl => ?_)
      exact (hWW _ _ _ _ _).mpr ((J v3_4 (v3_4 + p2) (0, p1, v3_4, p1, g3_16) _ hf rfl _ _ _ _ _ rfl) rfl H locs ls hP hD hS (lv_sub hl [5, 4, 3, 2, 1, 0] rfl))
  · replace hf := x_in c_24 hf
    refine lv_iload_n hx hb dX3_mergeRuns_10 rfl (lv_at hl 1 rfl) ?_
    refine lv_iload_n hx hb dX3_mergeRuns_11 rfl (lv_at hl 2 rfl) ?_
    refine lv_iadd hx hb dX3_mergeRuns_12 ?_
    refine lv_goto (tgt := 20) hx hb dX3_mergeRuns_13 (by decide) ?_
    refine lv_istore_n (lv' := [(3, .int (p1 + p2)), (0, .ref o3), (1, .int p1), (2, .int p2)]) hx hb dX3_mergeRuns_20 rfl hl (by decide) rfl (fun ls hl => ?_)
    refine lv_iload_n hx hb dX3_mergeRuns_21 rfl (lv_at hl 0 rfl) ?_
    refine lv_iload_n hx hb dX3_mergeRuns_22 rfl (lv_at hl 3 rfl) ?_
    refine lv_iadd hx hb dX3_mergeRuns_23 ?_
    refine lv_aload_n hx hb dX3_mergeRuns_24 rfl (lv_at hl 1 rfl) ?_
    refine va_get (D := (dC, dI)) (ci := 3) (v := .int v3_4) (C := RX3) (T := TX3) (N := 17) hx hb hts i_X3_mergeRuns_X3 hown hK hP 4 rfl rfl 4 (by decide) k_3 (fun _ h9 => h9) rfl dX3_mergeRuns_25 ?_
    refine lv_icmp_ge (tgt := 37) hx hb dX3_mergeRuns_28 (by decide) (fun c_26 => ?_) (fun c_26 => ?_)
    · replace hf := x_ip c_26 hf
      refine lv_aload_n hx hb dX3_mergeRuns_37 rfl (lv_at hl 1 rfl) ?_
      refine va_get (D := (dC, dI)) (ci := 3) (v := .int v3_4) (C := RX3) (T := TX3) (N := 17) hx hb hts i_X3_mergeRuns_X3 hown hK hP 4 rfl rfl 4 (by decide) k_3 (fun _ h9 => h9) rfl dX3_mergeRuns_38 ?_
      refine lv_istore (lv' := [(4, .int v3_4), (3, .int (p1 + p2)), (0, .ref o3), (1, .int p1), (2, .int p2)]) hx hb dX3_mergeRuns_41 hl (by decide) rfl (fun ls hl => ?_)
      refine lv_iload_n hx hb dX3_mergeRuns_43 rfl (lv_at hl 3 rfl) ?_
      refine lv_istore (lv' := [(5, .int p1), (4, .int v3_4), (3, .int (p1 + p2)), (0, .ref o3), (1, .int p1), (2, .int p2)]) hx hb dX3_mergeRuns_44 hl (by decide) rfl (fun ls hl => ?_)
      refine lv_iload_n hx hb dX3_mergeRuns_46 rfl (lv_at hl 2 rfl) ?_
      refine lv_istore (lv' := [(6, .int (p1 + p2)), (5, .int p1), (4, .int v3_4), (3, .int (p1 + p2)), (0, .ref o3), (1, .int p1), (2, .int p2)]) hx hb dX3_mergeRuns_47 hl (by decide) rfl (fun ls hl => ?_)
      refine lv_iload_n hx hb dX3_mergeRuns_49 rfl (lv_at hl 5 rfl) ?_
      refine lv_istore (lv' := [(7, .int p1), (6, .int (p1 + p2)), (5, .int p1), (4, .int v3_4), (3, .int (p1 + p2)), (0, .ref o3), (1, .int p1), (2, .int p2)]) hx hb dX3_mergeRuns_50 hl (by decide) rfl (fun ls hl => ?_)
      exact (hWW _ _ _ _ _).mpr ((J (p1 + p2) v3_4 (0, p1, p1 + p2, p1, g3_16) _ hf rfl _ _ _ _ _ rfl) rfl H locs ls hP hD hS (lv_sub hl [5, 4, 3, 2, 1, 0] rfl))
    · replace hf := x_in c_26 hf
      refine lv_iload_n hx hb dX3_mergeRuns_31 rfl (lv_at hl 0 rfl) ?_
      refine lv_iload_n hx hb dX3_mergeRuns_32 rfl (lv_at hl 3 rfl) ?_
      refine lv_iadd hx hb dX3_mergeRuns_33 ?_
      refine lv_goto (tgt := 41) hx hb dX3_mergeRuns_34 (by decide) ?_
      refine lv_istore (lv' := [(4, .int ((p1 + p2) + p2)), (3, .int (p1 + p2)), (0, .ref o3), (1, .int p1), (2, .int p2)]) hx hb dX3_mergeRuns_41 hl (by decide) rfl (fun ls hl => ?_)
      refine lv_iload_n hx hb dX3_mergeRuns_43 rfl (lv_at hl 3 rfl) ?_
      refine lv_istore (lv' := [(5, .int p1), (4, .int ((p1 + p2) + p2)), (3, .int (p1 + p2)), (0, .ref o3), (1, .int p1), (2, .int p2)]) hx hb dX3_mergeRuns_44 hl (by decide) rfl (fun ls hl => ?_)
      refine lv_iload_n hx hb dX3_mergeRuns_46 rfl (lv_at hl 2 rfl) ?_
      refine lv_istore (lv' := [(6, .int (p1 + p2)), (5, .int p1), (4, .int ((p1 + p2) + p2)), (3, .int (p1 + p2)), (0, .ref o3), (1, .int p1), (2, .int p2)]) hx hb dX3_mergeRuns_47 hl (by decide) rfl (fun ls hl => ?_)
      refine lv_iload_n hx hb dX3_mergeRuns_49 rfl (lv_at hl 5 rfl) ?_
      refine lv_istore (lv' := [(7, .int p1), (6, .int (p1 + p2)), (5, .int p1), (4, .int ((p1 + p2) + p2)), (3, .int (p1 + p2)), (0, .ref o3), (1, .int p1), (2, .int p2)]) hx hb dX3_mergeRuns_50 hl (by decide) rfl (fun ls hl => ?_)
      exact (hWW _ _ _ _ _).mpr ((J (p1 + p2) ((p1 + p2) + p2) (0, p1, p1 + p2, p1, g3_16) _ hf rfl _ _ _ _ _ rfl) rfl H locs ls hP hD hS (lv_sub hl [5, 4, 3, 2, 1, 0] rfl))

