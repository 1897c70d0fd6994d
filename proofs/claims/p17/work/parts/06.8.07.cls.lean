def f_X5_begin_L (v0_0 : Int32) (v0_1 : Int32) (v0_3 : Int32) (v0_4 : Int32) (v0_6 : Int32) (g0_5 : Nat → Int32) (v5_2 : Int32) (v5_3 : Int32) (v5_4 : Int32) (v5_8 : Int32) (v5_9 : Int32) (z : Nat × Int32 × Int32 × Int32 × Int32 × Int32 × (Nat → Int32)) : Option (Int32 × Int32 × Int32 × Int32 × Int32 × Int32 × Int32 × Int32 × (Nat → Int32)) := match z with
  | (q, l2, l3, v5_5, v5_6, v5_7, g5_1) => if q = 0 then if v5_2 ≤ l2 then if v0_1 = (0 : Int32) then (f_X5_begin_L v0_0 v0_1 v0_3 v0_4 v0_6 g0_5 v5_2 v5_3 v5_4 v5_8 v5_9 (1, 0, 0, v5_5, v5_6, v5_7, g5_1)) else if v0_1 = (2 : Int32) then if v0_0 = (0 : Int32) then if v0_1 = (2 : Int32) then (f_X7_placeOf v0_0) >>= (fun r_19 => (f_X5_setLocal v5_2 v5_6 v5_7 g5_1 0 r_19) >>= (fun r_20 => (f_X5_begin_L v0_0 v0_1 v0_3 v0_4 v0_6 g0_5 v5_2 v5_3 v5_4 v5_8 v5_9 (1, 1, 0, 1, r_20.1, r_20.2.1, r_20.2.2)))) else (f_X7_placeOf v0_0) >>= (fun r_15 => (f_X5_setLocal v5_2 v5_6 v5_7 g5_1 0 r_15) >>= (fun r_16 => (f_X5_begin_L v0_0 v0_1 v0_3 v0_4 v0_6 g0_5 v5_2 v5_3 v5_4 v5_8 v5_9 (1, 1, 0, 0, r_16.1, r_16.2.1, r_16.2.2)))) else if v0_1 = (2 : Int32) then (f_X5_setLocal v5_2 v5_6 v5_7 g5_1 0 6) >>= (fun r_26 => (f_X5_begin_L v0_0 v0_1 v0_3 v0_4 v0_6 g0_5 v5_2 v5_3 v5_4 v5_8 v5_9 (1, 1, 0, 0, r_26.1, r_26.2.1, r_26.2.2))) else (f_X5_setLocal v5_2 v5_6 v5_7 g5_1 0 6) >>= (fun r_23 => (f_X5_begin_L v0_0 v0_1 v0_3 v0_4 v0_6 g0_5 v5_2 v5_3 v5_4 v5_8 v5_9 (1, 1, 0, 0, r_23.1, r_23.2.1, r_23.2.2))) else if v0_1 = (2 : Int32) then (f_X7_placeOf v0_0) >>= (fun r_10 => (f_X5_setLocal v5_2 v5_6 v5_7 g5_1 0 r_10) >>= (fun r_11 => (f_X5_begin_L v0_0 v0_1 v0_3 v0_4 v0_6 g0_5 v5_2 v5_3 v5_4 v5_8 v5_9 (1, 1, 0, 1, r_11.1, r_11.2.1, r_11.2.2)))) else (f_X7_placeOf v0_0) >>= (fun r_6 => (f_X5_setLocal v5_2 v5_6 v5_7 g5_1 0 r_6) >>= (fun r_7 => (f_X5_begin_L v0_0 v0_1 v0_3 v0_4 v0_6 g0_5 v5_2 v5_3 v5_4 v5_8 v5_9 (1, 1, 0, 0, r_7.1, r_7.2.1, r_7.2.2)))) else if x_gd l2 400 = true then (f_X5_begin_L v0_0 v0_1 v0_3 v0_4 v0_6 g0_5 v5_2 v5_3 v5_4 v5_8 v5_9 (0, l2 + 1, 0, v5_5, v5_6, v5_7, upd g5_1 (Int32.toNatClampNeg l2) 0)) else none else if q = 1 then if v0_6 ≤ l3 then some (v5_2, v5_3, v5_4, v5_5, v5_6, v5_7, v5_8, v5_9, g5_1) else if x_gd l3 20 = true then (f_X7_placeOf (g0_5 (Int32.toNatClampNeg l3))) >>= (fun r_30 => (f_X5_setLocal v5_2 v5_6 v5_7 g5_1 l2 r_30) >>= (fun r_31 => if x_gd l3 20 = true then (f_X7_widthOf (g0_5 (Int32.toNatClampNeg l3))) >>= (fun r_33 => (f_X5_begin_L v0_0 v0_1 v0_3 v0_4 v0_6 g0_5 v5_2 v5_3 v5_4 v5_8 v5_9 (1, l2 + r_33, l3 + 1, v5_5, r_31.1, r_31.2.1, r_31.2.2))) else none)) else none else none
partial_fixpoint
def f_X5_begin (v0_0 : Int32) (v0_1 : Int32) (v0_3 : Int32) (v0_4 : Int32) (v0_6 : Int32) (g0_5 : Nat → Int32) (v5_2 : Int32) (v5_3 : Int32) (v5_4 : Int32) (v5_5 : Int32) (v5_6 : Int32) (v5_7 : Int32) (v5_8 : Int32) (v5_9 : Int32) (g5_1 : Nat → Int32) : Option (Int32 × Int32 × Int32 × Int32 × Int32 × Int32 × Int32 × Int32 × (Nat → Int32)) := (f_X5_begin_L v0_0 v0_1 v0_3 v0_4 v0_6 g0_5 v0_3 v0_3 (v0_3 + v0_4) 0 0 (0, 0, 0, 0, 0, v5_7, g5_1))
theorem i_X5_begin_X0 : ∀ w ∈ wsX00, w ∈ wsX5_begin := fun _ h => List.mem_cons_of_mem _ (List.mem_append_left _ (List.mem_append_right _ h))
theorem i_X5_begin_X5 : ∀ w ∈ wsX50, w ∈ wsX5_begin := fun _ h => List.mem_cons_of_mem _ (List.mem_append_right _ h)
set_option maxHeartbeats 4000000 in
set_option maxRecDepth 100000 in
theorem c_X5_begin (l : Launch) (dC : Nat → ClassId) (dI : Nat → Nat → Nat) (cyI cyZ cyJ : ClassId) (sz : Nat) (o0 : Nat) (v0_0 : Int32) (v0_1 : Int32) (v0_2 : Int32) (v0_3 : Int32) (v0_4 : Int32) (a0_5 : Nat) (v0_6 : Int32) (a0_7 : Nat) (a0_8 : Nat) (a0_9 : Nat) (v0_10 : Int32) (a0_11 : Nat) (a0_12 : Nat) (a0_13 : Nat) (a0_14 : Nat) (v0_15 : Int32) (a0_16 : Nat) (g0_5 : Nat → Int32) (o5 : Nat) (o7 : Nat) (a5_1 : Nat) (v5_2 : Int32) (v5_3 : Int32) (v5_4 : Int32) (v5_5 : Int32) (v5_6 : Int32) (v5_7 : Int32) (v5_8 : Int32) (v5_9 : Int32) (g5_1 : Nat → Int32) (R : Int32 × Int32 × Int32 × Int32 × Int32 × Int32 × Int32 × Int32 × (Nat → Int32)) (hf : f_X5_begin v0_0 v0_1 v0_3 v0_4 v0_6 g0_5 v5_2 v5_3 v5_4 v5_5 v5_6 v5_7 v5_8 v5_9 g5_1 = some R) : Met l yX5_begin wsX5_begin ({ frames := 2, cells := 0, slots := 0, locals := 43 }) (va_Pc [.ref o5, .ref o0] (x_PreD (dC, dI) (x_T cyI cyZ cyJ) [(o0, .inr (0, [.int v0_0, .int v0_1, .int v0_2, .int v0_3, .int v0_4, .ref a0_5, .int v0_6, .ref a0_7, .ref a0_8, .ref a0_9, .int v0_10, .ref a0_11, .ref a0_12, .ref a0_13, .ref a0_14, .int v0_15, .ref a0_16])), (a0_5, .inl (cyI, 20, .inl g0_5)), (o5, .inr (5, [.ref o7, .ref a5_1, .int v5_2, .int v5_3, .int v5_4, .int v5_5, .int v5_6, .int v5_7, .int v5_8, .int v5_9])), (a5_1, .inl (cyI, 400, .inl g5_1))] sz)) (va_Qv (fun _ : Unit => True) (fun (_ : Unit) (t : State) => va_P (dC, dI) vwCl [(o0, .inr (0, [.int v0_0, .int v0_1, .int v0_2, .int v0_3, .int v0_4, .ref a0_5, .int v0_6, .ref a0_7, .ref a0_8, .ref a0_9, .int v0_10, .ref a0_11, .ref a0_12, .ref a0_13, .ref a0_14, .int v0_15, .ref a0_16])), (a0_5, .inl (cyI, 20, .inl g0_5)), (o5, .inr (5, [.ref o7, .ref a5_1, .int (R.1), .int (R.2.1), .int (R.2.2.1), .int (R.2.2.2.1), .int (R.2.2.2.2.1), .int (R.2.2.2.2.2.1), .int (R.2.2.2.2.2.2.1), .int (R.2.2.2.2.2.2.2.1)])), (a5_1, .inl (cyI, 400, .inl R.2.2.2.2.2.2.2.2))] t.heap ∧ va_K (dC, dI) vwCl (x_T cyI cyZ cyJ) t ∧ va_D (va_A [(o0, .inr (0, [.int v0_0, .int v0_1, .int v0_2, .int v0_3, .int v0_4, .ref a0_5, .int v0_6, .ref a0_7, .ref a0_8, .ref a0_9, .int v0_10, .ref a0_11, .ref a0_12, .ref a0_13, .ref a0_14, .int v0_15, .ref a0_16])), (a0_5, .inl (cyI, 20, .inl g0_5)), (o5, .inr (5, [.ref o7, .ref a5_1, .int v5_2, .int v5_3, .int v5_4, .int v5_5, .int v5_6, .int v5_7, .int v5_8, .int v5_9])), (a5_1, .inl (cyI, 400, .inl g5_1))] sz) [(o0, .inr (0, [.int v0_0, .int v0_1, .int v0_2, .int v0_3, .int v0_4, .ref a0_5, .int v0_6, .ref a0_7, .ref a0_8, .ref a0_9, .int v0_10, .ref a0_11, .ref a0_12, .ref a0_13, .ref a0_14, .int v0_15, .ref a0_16])), (a0_5, .inl (cyI, 20, .inl g0_5)), (o5, .inr (5, [.ref o7, .ref a5_1, .int (R.1), .int (R.2.1), .int (R.2.2.1), .int (R.2.2.2.1), .int (R.2.2.2.2.1), .int (R.2.2.2.2.2.1), .int (R.2.2.2.2.2.2.1), .int (R.2.2.2.2.2.2.2.1)])), (a5_1, .inl (cyI, 400, .inl R.2.2.2.2.2.2.2.2))]) (va_A [(o0, .inr (0, [.int v0_0, .int v0_1, .int v0_2, .int v0_3, .int v0_4, .ref a0_5, .int v0_6, .ref a0_7, .ref a0_8, .ref a0_9, .int v0_10, .ref a0_11, .ref a0_12, .ref a0_13, .ref a0_14, .int v0_15, .ref a0_16])), (a0_5, .inl (cyI, 20, .inl g0_5)), (o5, .inr (5, [.ref o7, .ref a5_1, .int v5_2, .int v5_3, .int v5_4, .int v5_5, .int v5_6, .int v5_7, .int v5_8, .int v5_9])), (a5_1, .inl (cyI, 400, .inl g5_1))] sz)) 0 0 (va_A [(o0, .inr (0, [.int v0_0, .int v0_1, .int v0_2, .int v0_3, .int v0_4, .ref a0_5, .int v0_6, .ref a0_7, .ref a0_8, .ref a0_9, .int v0_10, .ref a0_11, .ref a0_12, .ref a0_13, .ref a0_14, .int v0_15, .ref a0_16])), (a0_5, .inl (cyI, 20, .inl g0_5)), (o5, .inr (5, [.ref o7, .ref a5_1, .int v5_2, .int v5_3, .int v5_4, .int v5_5, .int v5_6, .int v5_7, .int v5_8, .int v5_9])), (a5_1, .inl (cyI, 400, .inl g5_1))] sz) := by
  refine Met.ofW (cc := cX5_begin) (maxL := 4) (ret := none) (by decide) rfl ?_
  intro p e s m args below meth c s₁ B hml hv
  obtain ⟨rfl, ⟨hsz, hP, hK, hN⟩, hD0⟩ := hv
  have hx := B.exec
  have hb := B.bytes
  have hr := B.returns
  have hts := atoms_spec (ws := wsX5_begin) B.pre
  have hown : s.vm.findClass RX5 = some m.cls := findClass_of_methodNamed B.named
  have k_1 := hts (.fieldLink RX5 25 "FlowJudge$Places" "locals" "I") (by decide +kernel)
  have k_2 := hts (.fieldLink RX5 35 "FlowJudge$Places" "made" "I") (by decide +kernel)
  have k_3 := hts (.fieldLink RX5 9 "FlowJudge$Places" "cells" "[I") (by decide +kernel)
  have k_4 := hts (.fieldLink RX5 29 "FlowJudge$Places" "end" "I") (by decide +kernel)
  have k_5 := hts (.fieldLink RX5 32 "FlowJudge$Places" "top" "I") (by decide +kernel)
  have k_6 := hts (.fieldLink RX5 38 "FlowJudge$Places" "refused" "Z") (by decide +kernel)
  have k_7 := hts (.fieldLink RX5 42 "FlowJudge$Places" "doubtful" "Z") (by decide +kernel)
  have k_8 := hts (.fieldLink RX5 45 "FlowJudge$Places" "isFinal" "Z") (by decide +kernel)
  subst hsz
  have hD := hD0.self (sz := s.heap.size)
  generalize hAe : va_A [(o0, .inr (0, [.int v0_0, .int v0_1, .int v0_2, .int v0_3, .int v0_4, .ref a0_5, .int v0_6, .ref a0_7, .ref a0_8, .ref a0_9, .int v0_10, .ref a0_11, .ref a0_12, .ref a0_13, .ref a0_14, .int v0_15, .ref a0_16])), (a0_5, .inl (cyI, 20, .inl g0_5)), (o5, .inr (5, [.ref o7, .ref a5_1, .int v5_2, .int v5_3, .int v5_4, .int v5_5, .int v5_6, .int v5_7, .int v5_8, .int v5_9])), (a5_1, .inl (cyI, 400, .inl g5_1))] s.heap.size = A at hD ⊢
  have hA : ∀ q : Nat, s.heap.size ≤ q → A q := fun q h => by rw [← hAe]; exact Or.inr h
  have hP : va_P (dC, dI) vwCl [(o0, .inr (0, [.int v0_0, .int v0_1, .int v0_2, .int v0_3, .int v0_4, .ref a0_5, .int v0_6, .ref a0_7, .ref a0_8, .ref a0_9, .int v0_10, .ref a0_11, .ref a0_12, .ref a0_13, .ref a0_14, .int v0_15, .ref a0_16])), (a0_5, .inl (cyI, 20, .inl g0_5)), (o5, .inr (5, [.ref o7, .ref a5_1, .int v5_2, .int v5_3, .int v5_4, .int v5_5, .int v5_6, .int v5_7, .int v5_8, .int v5_9])), (a5_1, .inl (cyI, 400, .inl g5_1))] s.heap := hP
  have hl := lv_entry ([.ref o5, .ref o0]) (n := 4) (Nat.le_of_ble_eq_true rfl)
  rw [lg_entry_eq]
  generalize (lg_sl ([.ref o5, .ref o0]) ++ List.replicate (4 - (lg_sl ([.ref o5, .ref o0])).length) Slot.unset).toArray = ls at hl ⊢
  have hl : lv_has ls 4 [(0, .ref o5), (1, .ref o0)] := hl
  obtain ⟨H, hH⟩ : ∃ z, z = s.heap := ⟨_, rfl⟩
  refine x_here hH ?_
  have hP : va_P (dC, dI) vwCl [(o0, .inr (0, [.int v0_0, .int v0_1, .int v0_2, .int v0_3, .int v0_4, .ref a0_5, .int v0_6, .ref a0_7, .ref a0_8, .ref a0_9, .int v0_10, .ref a0_11, .ref a0_12, .ref a0_13, .ref a0_14, .int v0_15, .ref a0_16])), (a0_5, .inl (cyI, 20, .inl g0_5)), (o5, .inr (5, [.ref o7, .ref a5_1, .int v5_2, .int v5_3, .int v5_4, .int v5_5, .int v5_6, .int v5_7, .int v5_8, .int v5_9])), (a5_1, .inl (cyI, 400, .inl g5_1))] H := by rw [hH]; exact hP
  have hS : va_S A s.heap H [] := by rw [hH]; exact va_S.rf
  clear hH
  obtain ⟨locs, hlo⟩ : ∃ z : List Loc, z = [] := ⟨_, rfl⟩
  refine x_herl hlo ?_
  have hS : va_S A s.heap H locs := by rw [hlo]; exact hS
  clear hlo
  unfold f_X5_begin at hf
  refine x_wn (fun WW hWW => ?_)
  have J := fun (v5_2 : Int32) (v5_3 : Int32) (v5_4 : Int32) (v5_8 : Int32) (v5_9 : Int32) => f_X5_begin_L.partial_correctness v0_0 v0_1 v0_3 v0_4 v0_6 g0_5 v5_2 v5_3 v5_4 v5_8 v5_9 (fun (z : Nat × Int32 × Int32 × Int32 × Int32 × Int32 × (Nat → Int32)) (r : Int32 × Int32 × Int32 × Int32 × Int32 × Int32 × Int32 × Int32 × (Nat → Int32)) => r = R → ∀ (q : Nat) (l2 : Int32) (l3 : Int32) (v5_5 : Int32) (v5_6 : Int32) (v5_7 : Int32) (g5_1 : Nat → Int32), z = (q, l2, l3, v5_5, v5_6, v5_7, g5_1) → ((q = 0 → ∀ (H : Heap) (locs : List Loc) (ls : Array Slot), va_P (dC, dI) vwCl [(o0, .inr (0, [.int v0_0, .int v0_1, .int v0_2, .int v0_3, .int v0_4, .ref a0_5, .int v0_6, .ref a0_7, .ref a0_8, .ref a0_9, .int v0_10, .ref a0_11, .ref a0_12, .ref a0_13, .ref a0_14, .int v0_15, .ref a0_16])), (a0_5, .inl (cyI, 20, .inl g0_5)), (o5, .inr (5, [.ref o7, .ref a5_1, .int v5_2, .int v5_3, .int v5_4, .int v5_5, .int v5_6, .int v5_7, .int v5_8, .int v5_9])), (a5_1, .inl (cyI, 400, .inl g5_1))] H → va_D A [(o0, .inr (0, [.int v0_0, .int v0_1, .int v0_2, .int v0_3, .int v0_4, .ref a0_5, .int v0_6, .ref a0_7, .ref a0_8, .ref a0_9, .int v0_10, .ref a0_11, .ref a0_12, .ref a0_13, .ref a0_14, .int v0_15, .ref a0_16])), (a0_5, .inl (cyI, 20, .inl g0_5)), (o5, .inr (5, [.ref o7, .ref a5_1, .int v5_2, .int v5_3, .int v5_4, .int v5_5, .int v5_6, .int v5_7, .int v5_8, .int v5_9])), (a5_1, .inl (cyI, 400, .inl g5_1))] → va_S A s.heap H locs → lv_has ls 4 [(0, .ref o5), (1, .ref o0), (2, .int l2)] → WW H locs 0 0 (F0 m 51 ls [])) ∧ (q = 1 → ∀ (H : Heap) (locs : List Loc) (ls : Array Slot), va_P (dC, dI) vwCl [(o0, .inr (0, [.int v0_0, .int v0_1, .int v0_2, .int v0_3, .int v0_4, .ref a0_5, .int v0_6, .ref a0_7, .ref a0_8, .ref a0_9, .int v0_10, .ref a0_11, .ref a0_12, .ref a0_13, .ref a0_14, .int v0_15, .ref a0_16])), (a0_5, .inl (cyI, 20, .inl g0_5)), (o5, .inr (5, [.ref o7, .ref a5_1, .int v5_2, .int v5_3, .int v5_4, .int v5_5, .int v5_6, .int v5_7, .int v5_8, .int v5_9])), (a5_1, .inl (cyI, 400, .inl g5_1))] H → va_D A [(o0, .inr (0, [.int v0_0, .int v0_1, .int v0_2, .int v0_3, .int v0_4, .ref a0_5, .int v0_6, .ref a0_7, .ref a0_8, .ref a0_9, .int v0_10, .ref a0_11, .ref a0_12, .ref a0_13, .ref a0_14, .int v0_15, .ref a0_16])), (a0_5, .inl (cyI, 20, .inl g0_5)), (o5, .inr (5, [.ref o7, .ref a5_1, .int v5_2, .int v5_3, .int v5_4, .int v5_5, .int v5_6, .int v5_7, .int v5_8, .int v5_9])), (a5_1, .inl (cyI, 400, .inl g5_1))] → va_S A s.heap H locs → lv_has ls 4 [(0, .ref o5), (1, .ref o0), (2, .int l2), (3, .int l3)] → WW H locs 0 0 (F0 m 149 ls [])))) (by
    intro F ih z r hf hr q l2 l3 v5_5 v5_6 v5_7 g5_1 hz
    subst hz
    obtain rfl := hr
    refine ⟨?_, ?_⟩
    · intro hq H locs ls hP hD hS hl
      subst hq
      refine (hWW _ _ _ _ _).mp ?_
      replace hf := x_ip rfl hf
      refine lv_iload_n hx hb dX5_begin_51 rfl (lv_at hl 2 rfl) ?_
      refine lv_aload_n hx hb dX5_begin_52 rfl (lv_at hl 0 rfl) ?_
      refine va_get (D := (dC, dI)) (ci := 5) (v := .int v5_2) (C := RX5) (T := TX5) (N := 10) hx hb hts i_X5_begin_X5 hown hK hP 2 rfl rfl 2 (by decide) k_1 (fun _ h9 => h9) rfl dX5_begin_53 ?_
      refine lv_icmp_ge (tgt := 72) hx hb dX5_begin_56 (by decide) (fun c_1 => ?_) (fun c_1 => ?_)
      · replace hf := x_ip c_1 hf
        refine lv_iconst (v := 0) hx hb dX5_begin_72 (by decide) ?_
        refine lv_istore_n (lv' := [(2, .int 0), (0, .ref o5), (1, .ref o0)]) hx hb dX5_begin_73 rfl hl (by decide) rfl (fun ls hl => ?_)
        refine lv_aload_n hx hb dX5_begin_74 rfl (lv_at hl 2 rfl) ?_
        refine va_getN (D := (dC, dI)) (ci := 0) (v := .int v0_1) (C := RX0) (T := TX0) (N := 17) hx hb hts i_X5_begin_X0 hown hK hP 0 rfl rfl 1 (by decide) ((hN.1 ("FlowJudge$Places", 48, "FlowJudge$Code", "how", "I") (List.mem_of_getElem? (i := 37) rfl)).use rfl) (fun _ h9 => h9) rfl dX5_begin_75 ?_
        refine lv_if_eq (tgt := 147) hx hb dX5_begin_78 (by decide) (fun c_2 => ?_) (fun c_2 => ?_)
        · replace hf := x_ip c_2 hf
          refine lv_iconst (v := 0) hx hb dX5_begin_147 (by decide) ?_
          refine lv_istore_n (lv' := [(3, .int 0), (2, .int 0), (0, .ref o5), (1, .ref o0)]) hx hb dX5_begin_148 rfl hl (by decide) rfl (fun ls hl => ?_)
          exact (hWW _ _ _ _ _).mpr ((ih (1, 0, 0, v5_5, v5_6, v5_7, g5_1) _ hf rfl _ _ _ _ _ _ _ rfl).2 rfl H locs ls hP hD hS (lv_sub hl [2, 3, 1, 0] rfl))
        · replace hf := x_in c_2 hf
          refine lv_aload_n hx hb dX5_begin_81 rfl (lv_at hl 2 rfl) ?_
          refine va_getN (D := (dC, dI)) (ci := 0) (v := .int v0_1) (C := RX0) (T := TX0) (N := 17) hx hb hts i_X5_begin_X0 hown hK hP 0 rfl rfl 1 (by decide) ((hN.1 ("FlowJudge$Places", 48, "FlowJudge$Code", "how", "I") (List.mem_of_getElem? (i := 37) rfl)).use rfl) (fun _ h9 => h9) rfl dX5_begin_82 ?_
          refine lv_iconst (v := 2) hx hb dX5_begin_85 (by decide) ?_
          refine lv_icmp_ne (tgt := 100) hx hb dX5_begin_86 (by decide) (fun c_3 => ?_) (fun c_3 => ?_)
          · replace hf := x_in c_3 hf
            refine lv_iconst (v := 0) hx hb dX5_begin_100 (by decide) ?_
            refine lv_istore_n (lv' := [(3, .int 0), (2, .int 0), (0, .ref o5), (1, .ref o0)]) hx hb dX5_begin_101 rfl hl (by decide) rfl (fun ls hl => ?_)
            refine lv_aload_n hx hb dX5_begin_102 rfl (lv_at hl 2 rfl) ?_
            refine lv_aload_n hx hb dX5_begin_103 rfl (lv_at hl 3 rfl) ?_
            refine va_getN (D := (dC, dI)) (ci := 0) (v := .int v0_1) (C := RX0) (T := TX0) (N := 17) hx hb hts i_X5_begin_X0 hown hK hP 0 rfl rfl 1 (by decide) ((hN.1 ("FlowJudge$Places", 48, "FlowJudge$Code", "how", "I") (List.mem_of_getElem? (i := 37) rfl)).use rfl) (fun _ h9 => h9) rfl dX5_begin_104 ?_
            refine lv_iconst (v := 2) hx hb dX5_begin_107 (by decide) ?_
            refine lv_icmp_ne (tgt := 119) hx hb dX5_begin_108 (by decide) (fun c_4 => ?_) (fun c_4 => ?_)
            · replace hf := x_in c_4 hf
              refine lv_iconst (v := 0) hx hb dX5_begin_119 (by decide) ?_
              refine va_put (D := (dC, dI)) (ci := 5) (v := .int 0) (ty := .int) (C := RX5) (T := TX5) (N := 10) hx hb hts i_X5_begin_X5 tyX5 tyX5_ok nmX5 hown hK hP hD hS 2 rfl rfl 5 (by decide) k_2 (fun _ h9 => h9) rfl (by decide +kernel) rfl rfl (Nat.le_of_ble_eq_true rfl) dX5_begin_120 (fun H locs hP hD hS => ?_)
              have hP : va_P (dC, dI) vwCl [(o0, .inr (0, [.int v0_0, .int v0_1, .int v0_2, .int v0_3, .int v0_4, .ref a0_5, .int v0_6, .ref a0_7, .ref a0_8, .ref a0_9, .int v0_10, .ref a0_11, .ref a0_12, .ref a0_13, .ref a0_14, .int v0_15, .ref a0_16])), (a0_5, .inl (cyI, 20, .inl g0_5)), (o5, .inr (5, [.ref o7, .ref a5_1, .int v5_2, .int v5_3, .int v5_4, .int 0, .int v5_6, .int v5_7, .int v5_8, .int v5_9])), (a5_1, .inl (cyI, 400, .inl g5_1))] H := hP
              have hD : va_D A [(o0, .inr (0, [.int v0_0, .int v0_1, .int v0_2, .int v0_3, .int v0_4, .ref a0_5, .int v0_6, .ref a0_7, .ref a0_8, .ref a0_9, .int v0_10, .ref a0_11, .ref a0_12, .ref a0_13, .ref a0_14, .int v0_15, .ref a0_16])), (a0_5, .inl (cyI, 20, .inl g0_5)), (o5, .inr (5, [.ref o7, .ref a5_1, .int v5_2, .int v5_3, .int v5_4, .int 0, .int v5_6, .int v5_7, .int v5_8, .int v5_9])), (a5_1, .inl (cyI, 400, .inl g5_1))] := hD
              refine lv_aload_n hx hb dX5_begin_123 rfl (lv_at hl 2 rfl) ?_
              refine lv_iload_n hx hb dX5_begin_124 rfl (lv_at hl 1 rfl) ?_
              refine lv_iload_n hx hb dX5_begin_125 rfl (lv_at hl 0 rfl) ?_
              refine lv_if_eq (tgt := 134) hx hb dX5_begin_126 (by decide) (fun _ => ?_) (fun c_5 => absurd (by decide) c_5)
              refine lv_aload_n hx hb dX5_begin_134 rfl (lv_at hl 3 rfl) ?_
              refine va_getN (D := (dC, dI)) (ci := 0) (v := .int v0_0) (C := RX0) (T := TX0) (N := 17) hx hb hts i_X5_begin_X0 hown hK hP 0 rfl rfl 0 (by decide) ((hN.1 ("FlowJudge$Places", 51, "FlowJudge$Code", "owner", "I") (List.mem_of_getElem? (i := 38) rfl)).use rfl) (fun _ h9 => h9) rfl dX5_begin_135 ?_
              obtain ⟨r_6, h_6, hf⟩ := x_bi hf
              have hPc := hP.sub (ws' := []) [] rfl
              refine va_calli (va_runS (As := [.int v0_0]) (rest := [.int 0, .ref o5]) ⟨hx, hb, hml, hown, hts⟩ (c_X7_placeOf l dC dI cyI cyZ cyJ H.size v0_0 r_6 h_6) (va_cwS 1 hts gX5_begin_X7_placeOf rfl rfl rfl (by decide +kernel) ⟨Nat.le_of_ble_eq_true rfl, Nat.le_of_ble_eq_true rfl⟩) (x_pS hN hK hPc) rfl rfl hl.1 rfl (lv_room (Nat.le_of_ble_eq_true rfl)) dX5_begin_138 ⟨Nat.le_of_ble_eq_true rfl, Nat.le_of_ble_eq_true rfl⟩) hS x_nA (x_nf hA hS) (fun q_6 u t H1 locs ht hvm hw hB hz1 hk1 hS => ?_)
              have hP := x_kp hP hk1
              clear ht hvm hB hz1 hk1 t u hPc
              generalize H1 = H at hP hS ⊢
              obtain rfl := hw.symm
              obtain ⟨r_7, h_7, hf⟩ := x_bi hf
              have hPc := hP.sub (ws' := [(o5, .inr (5, [.ref o7, .ref a5_1, .int v5_2, .int v5_3, .int v5_4, .int 0, .int v5_6, .int v5_7, .int v5_8, .int v5_9])), (a5_1, .inl (cyI, 400, .inl g5_1))]) [2, 3] rfl
              have hDc := hD.sub (ws' := [(o5, .inr (5, [.ref o7, .ref a5_1, .int v5_2, .int v5_3, .int v5_4, .int 0, .int v5_6, .int v5_7, .int v5_8, .int v5_9])), (a5_1, .inl (cyI, 400, .inl g5_1))]) [2, 3] (by decide) rfl
              have hFc := va_free (wc := [(o5, .inr (5, [.ref o7, .ref a5_1, .int v5_2, .int v5_3, .int v5_4, .int 0, .int v5_6, .int v5_7, .int v5_8, .int v5_9])), (a5_1, .inl (cyI, 400, .inl g5_1))]) hD hS hA [2, 3] rfl
              refine va_callv (va_runV (As := [.int 0, .int r_6]) (rest := []) ⟨hx, hb, hml, hown, hts⟩ (c_X5_setLocal l dC dI cyI cyZ cyJ H.size o5 o7 a5_1 v5_2 v5_3 v5_4 0 v5_6 v5_7 v5_8 v5_9 g5_1 0 r_6 r_7 h_7) (cwV 2 hts gX5_begin_X5_setLocal rfl rfl rfl (by decide +kernel) ⟨Nat.le_of_ble_eq_true rfl, Nat.le_of_ble_eq_true rfl⟩) (x_pVD hN hK hPc hDc (ci := 5) (q0 := 0) rfl rfl) rfl rfl hl.1 rfl (lv_room (Nat.le_of_ble_eq_true rfl)) dX5_begin_141 ⟨Nat.le_of_ble_eq_true rfl, Nat.le_of_ble_eq_true rfl⟩) hS (fun q _ h => hFc q h) hFc (fun u t H1 locs ht hvm hw hB hz1 hk1 hS => ?_)
              obtain ⟨hP1, hK1, hD1⟩ := hB
              rw [ht] at hP1
              obtain ⟨hP, hD⟩ := va_join (wr := [(o0, .inr (0, [.int v0_0, .int v0_1, .int v0_2, .int v0_3, .int v0_4, .ref a0_5, .int v0_6, .ref a0_7, .ref a0_8, .ref a0_9, .int v0_10, .ref a0_11, .ref a0_12, .ref a0_13, .ref a0_14, .int v0_15, .ref a0_16])), (a0_5, .inl (cyI, 20, .inl g0_5))]) (w1 := [(o5, .inr (5, [.ref o7, .ref a5_1, .int v5_2, .int v5_3, .int v5_4, .int 0, .int (r_7.1), .int (r_7.2.1), .int v5_8, .int v5_9])), (a5_1, .inl (cyI, 400, .inl r_7.2.2))]) hP hD [2, 3] [0, 1] rfl rfl (by decide) (by decide) hk1 hFc hP1 hD1
              clear hz1 hk1 hPc hDc hFc hP1 hK1 hD1 ht hvm t u
              generalize H1 = H at hP hS ⊢
              have hP : va_P (dC, dI) vwCl [(o0, .inr (0, [.int v0_0, .int v0_1, .int v0_2, .int v0_3, .int v0_4, .ref a0_5, .int v0_6, .ref a0_7, .ref a0_8, .ref a0_9, .int v0_10, .ref a0_11, .ref a0_12, .ref a0_13, .ref a0_14, .int v0_15, .ref a0_16])), (a0_5, .inl (cyI, 20, .inl g0_5)), (o5, .inr (5, [.ref o7, .ref a5_1, .int v5_2, .int v5_3, .int v5_4, .int 0, .int (r_7.1), .int (r_7.2.1), .int v5_8, .int v5_9])), (a5_1, .inl (cyI, 400, .inl r_7.2.2))] H := hP
              have hD : va_D A [(o0, .inr (0, [.int v0_0, .int v0_1, .int v0_2, .int v0_3, .int v0_4, .ref a0_5, .int v0_6, .ref a0_7, .ref a0_8, .ref a0_9, .int v0_10, .ref a0_11, .ref a0_12, .ref a0_13, .ref a0_14, .int v0_15, .ref a0_16])), (a0_5, .inl (cyI, 20, .inl g0_5)), (o5, .inr (5, [.ref o7, .ref a5_1, .int v5_2, .int v5_3, .int v5_4, .int 0, .int (r_7.1), .int (r_7.2.1), .int v5_8, .int v5_9])), (a5_1, .inl (cyI, 400, .inl r_7.2.2))] := hD
              refine lv_iinc (v := 1) (lv' := [(2, .int 1), (3, .int 0), (0, .ref o5), (1, .ref o0)]) hx hb dX5_begin_144 hl (k := 1) rfl (by decide) (by decide) rfl (fun ls hl => ?_)
              refine lv_iconst (v := 0) hx hb dX5_begin_147 (by decide) ?_
              refine lv_istore_n (lv' := [(3, .int 0), (2, .int 1), (0, .ref o5), (1, .ref o0)]) hx hb dX5_begin_148 rfl hl (by decide) rfl (fun ls hl => ?_)
              exact (hWW _ _ _ _ _).mpr ((ih (1, 1, 0, 0, r_7.1, r_7.2.1, r_7.2.2) _ hf rfl _ _ _ _ _ _ _ rfl).2 rfl H locs ls hP hD hS (lv_sub hl [2, 3, 1, 0] rfl))
            · replace hf := x_ip c_4 hf
              refine lv_iload_n hx hb dX5_begin_111 rfl (lv_at hl 0 rfl) ?_
              refine lv_if_ne (tgt := 119) hx hb dX5_begin_112 (by decide) (fun c_8 => absurd (by decide) c_8) (fun _ => ?_)
              refine lv_iconst (v := 1) hx hb dX5_begin_115 (by decide) ?_
              refine lv_goto (tgt := 120) hx hb dX5_begin_116 (by decide) ?_
              refine va_put (D := (dC, dI)) (ci := 5) (v := .int 1) (ty := .int) (C := RX5) (T := TX5) (N := 10) hx hb hts i_X5_begin_X5 tyX5 tyX5_ok nmX5 hown hK hP hD hS 2 rfl rfl 5 (by decide) k_2 (fun _ h9 => h9) rfl (by decide +kernel) rfl rfl (Nat.le_of_ble_eq_true rfl) dX5_begin_120 (fun H locs hP hD hS => ?_)
              have hP : va_P (dC, dI) vwCl [(o0, .inr (0, [.int v0_0, .int v0_1, .int v0_2, .int v0_3, .int v0_4, .ref a0_5, .int v0_6, .ref a0_7, .ref a0_8, .ref a0_9, .int v0_10, .ref a0_11, .ref a0_12, .ref a0_13, .ref a0_14, .int v0_15, .ref a0_16])), (a0_5, .inl (cyI, 20, .inl g0_5)), (o5, .inr (5, [.ref o7, .ref a5_1, .int v5_2, .int v5_3, .int v5_4, .int 1, .int v5_6, .int v5_7, .int v5_8, .int v5_9])), (a5_1, .inl (cyI, 400, .inl g5_1))] H := hP
              have hD : va_D A [(o0, .inr (0, [.int v0_0, .int v0_1, .int v0_2, .int v0_3, .int v0_4, .ref a0_5, .int v0_6, .ref a0_7, .ref a0_8, .ref a0_9, .int v0_10, .ref a0_11, .ref a0_12, .ref a0_13, .ref a0_14, .int v0_15, .ref a0_16])), (a0_5, .inl (cyI, 20, .inl g0_5)), (o5, .inr (5, [.ref o7, .ref a5_1, .int v5_2, .int v5_3, .int v5_4, .int 1, .int v5_6, .int v5_7, .int v5_8, .int v5_9])), (a5_1, .inl (cyI, 400, .inl g5_1))] := hD
              refine lv_aload_n hx hb dX5_begin_123 rfl (lv_at hl 2 rfl) ?_
              refine lv_iload_n hx hb dX5_begin_124 rfl (lv_at hl 1 rfl) ?_
              refine lv_iload_n hx hb dX5_begin_125 rfl (lv_at hl 0 rfl) ?_
              refine lv_if_eq (tgt := 134) hx hb dX5_begin_126 (by decide) (fun _ => ?_) (fun c_9 => absurd (by decide) c_9)
              refine lv_aload_n hx hb dX5_begin_134 rfl (lv_at hl 3 rfl) ?_
              refine va_getN (D := (dC, dI)) (ci := 0) (v := .int v0_0) (C := RX0) (T := TX0) (N := 17) hx hb hts i_X5_begin_X0 hown hK hP 0 rfl rfl 0 (by decide) ((hN.1 ("FlowJudge$Places", 51, "FlowJudge$Code", "owner", "I") (List.mem_of_getElem? (i := 38) rfl)).use rfl) (fun _ h9 => h9) rfl dX5_begin_135 ?_
              obtain ⟨r_10, h_10, hf⟩ := x_bi hf
              have hPc := hP.sub (ws' := []) [] rfl
              refine va_calli (va_runS (As := [.int v0_0]) (rest := [.int 0, .ref o5]) ⟨hx, hb, hml, hown, hts⟩ (c_X7_placeOf l dC dI cyI cyZ cyJ H.size v0_0 r_10 h_10) (va_cwS 1 hts gX5_begin_X7_placeOf rfl rfl rfl (by decide +kernel) ⟨Nat.le_of_ble_eq_true rfl, Nat.le_of_ble_eq_true rfl⟩) (x_pS hN hK hPc) rfl rfl hl.1 rfl (lv_room (Nat.le_of_ble_eq_true rfl)) dX5_begin_138 ⟨Nat.le_of_ble_eq_true rfl, Nat.le_of_ble_eq_true rfl⟩) hS x_nA (x_nf hA hS) (fun q_10 u t H1 locs ht hvm hw hB hz1 hk1 hS => ?_)
              have hP := x_kp hP hk1
              clear ht hvm hB hz1 hk1 t u hPc
              generalize H1 = H at hP hS ⊢
              obtain rfl := hw.symm
              obtain ⟨r_11, h_11, hf⟩ := x_bi hf
              have hPc := hP.sub (ws' := [(o5, .inr (5, [.ref o7, .ref a5_1, .int v5_2, .int v5_3, .int v5_4, .int 1, .int v5_6, .int v5_7, .int v5_8, .int v5_9])), (a5_1, .inl (cyI, 400, .inl g5_1))]) [2, 3] rfl
              have hDc := hD.sub (ws' := [(o5, .inr (5, [.ref o7, .ref a5_1, .int v5_2, .int v5_3, .int v5_4, .int 1, .int v5_6, .int v5_7, .int v5_8, .int v5_9])), (a5_1, .inl (cyI, 400, .inl g5_1))]) [2, 3] (by decide) rfl
              have hFc := va_free (wc := [(o5, .inr (5, [.ref o7, .ref a5_1, .int v5_2, .int v5_3, .int v5_4, .int 1, .int v5_6, .int v5_7, .int v5_8, .int v5_9])), (a5_1, .inl (cyI, 400, .inl g5_1))]) hD hS hA [2, 3] rfl
              refine va_callv (va_runV (As := [.int 0, .int r_10]) (rest := []) ⟨hx, hb, hml, hown, hts⟩ (c_X5_setLocal l dC dI cyI cyZ cyJ H.size o5 o7 a5_1 v5_2 v5_3 v5_4 1 v5_6 v5_7 v5_8 v5_9 g5_1 0 r_10 r_11 h_11) (cwV 2 hts gX5_begin_X5_setLocal rfl rfl rfl (by decide +kernel) ⟨Nat.le_of_ble_eq_true rfl, Nat.le_of_ble_eq_true rfl⟩) (x_pVD hN hK hPc hDc (ci := 5) (q0 := 0) rfl rfl) rfl rfl hl.1 rfl (lv_room (Nat.le_of_ble_eq_true rfl)) dX5_begin_141 ⟨Nat.le_of_ble_eq_true rfl, Nat.le_of_ble_eq_true rfl⟩) hS (fun q _ h => hFc q h) hFc (fun u t H1 locs ht hvm hw hB hz1 hk1 hS => ?_)
              obtain ⟨hP1, hK1, hD1⟩ := hB
              rw [ht] at hP1
              obtain ⟨hP, hD⟩ := va_join (wr := [(o0, .inr (0, [.int v0_0, .int v0_1, .int v0_2, .int v0_3, .int v0_4, .ref a0_5, .int v0_6, .ref a0_7, .ref a0_8, .ref a0_9, .int v0_10, .ref a0_11, .ref a0_12, .ref a0_13, .ref a0_14, .int v0_15, .ref a0_16])), (a0_5, .inl (cyI, 20, .inl g0_5))]) (w1 := [(o5, .inr (5, [.ref o7, .ref a5_1, .int v5_2, .int v5_3, .int v5_4, .int 1, .int (r_11.1), .int (r_11.2.1), .int v5_8, .int v5_9])), (a5_1, .inl (cyI, 400, .inl r_11.2.2))]) hP hD [2, 3] [0, 1] rfl rfl (by decide) (by decide) hk1 hFc hP1 hD1
              clear hz1 hk1 hPc hDc hFc hP1 hK1 hD1 ht hvm t u
              generalize H1 = H at hP hS ⊢
              have hP : va_P (dC, dI) vwCl [(o0, .inr (0, [.int v0_0, .int v0_1, .int v0_2, .int v0_3, .int v0_4, .ref a0_5, .int v0_6, .ref a0_7, .ref a0_8, .ref a0_9, .int v0_10, .ref a0_11, .ref a0_12, .ref a0_13, .ref a0_14, .int v0_15, .ref a0_16])), (a0_5, .inl (cyI, 20, .inl g0_5)), (o5, .inr (5, [.ref o7, .ref a5_1, .int v5_2, .int v5_3, .int v5_4, .int 1, .int (r_11.1), .int (r_11.2.1), .int v5_8, .int v5_9])), (a5_1, .inl (cyI, 400, .inl r_11.2.2))] H := hP
              have hD : va_D A [(o0, .inr (0, [.int v0_0, .int v0_1, .int v0_2, .int v0_3, .int v0_4, .ref a0_5, .int v0_6, .ref a0_7, .ref a0_8, .ref a0_9, .int v0_10, .ref a0_11, .ref a0_12, .ref a0_13, .ref a0_14, .int v0_15, .ref a0_16])), (a0_5, .inl (cyI, 20, .inl g0_5)), (o5, .inr (5, [.ref o7, .ref a5_1, .int v5_2, .int v5_3, .int v5_4, .int 1, .int (r_11.1), .int (r_11.2.1), .int v5_8, .int v5_9])), (a5_1, .inl (cyI, 400, .inl r_11.2.2))] := hD
              refine lv_iinc (v := 1) (lv' := [(2, .int 1), (3, .int 0), (0, .ref o5), (1, .ref o0)]) hx hb dX5_begin_144 hl (k := 1) rfl (by decide) (by decide) rfl (fun ls hl => ?_)
              refine lv_iconst (v := 0) hx hb dX5_begin_147 (by decide) ?_
              refine lv_istore_n (lv' := [(3, .int 0), (2, .int 1), (0, .ref o5), (1, .ref o0)]) hx hb dX5_begin_148 rfl hl (by decide) rfl (fun ls hl => ?_)
              exact (hWW _ _ _ _ _).mpr ((ih (1, 1, 0, 1, r_11.1, r_11.2.1, r_11.2.2) _ hf rfl _ _ _ _ _ _ _ rfl).2 rfl H locs ls hP hD hS (lv_sub hl [2, 3, 1, 0] rfl))
          · replace hf := x_ip c_3 hf
            refine lv_aload_n hx hb dX5_begin_89 rfl (lv_at hl 2 rfl) ?_
            refine va_getN (D := (dC, dI)) (ci := 0) (v := .int v0_0) (C := RX0) (T := TX0) (N := 17) hx hb hts i_X5_begin_X0 hown hK hP 0 rfl rfl 0 (by decide) ((hN.1 ("FlowJudge$Places", 51, "FlowJudge$Code", "owner", "I") (List.mem_of_getElem? (i := 38) rfl)).use rfl) (fun _ h9 => h9) rfl dX5_begin_90 ?_
            refine lv_if_eq (tgt := 100) hx hb dX5_begin_93 (by decide) (fun c_12 => ?_) (fun c_12 => ?_)
            · replace hf := x_ip c_12 hf
              refine lv_iconst (v := 0) hx hb dX5_begin_100 (by decide) ?_
              refine lv_istore_n (lv' := [(3, .int 0), (2, .int 0), (0, .ref o5), (1, .ref o0)]) hx hb dX5_begin_101 rfl hl (by decide) rfl (fun ls hl => ?_)
              refine lv_aload_n hx hb dX5_begin_102 rfl (lv_at hl 2 rfl) ?_
              refine lv_aload_n hx hb dX5_begin_103 rfl (lv_at hl 3 rfl) ?_
              refine va_getN (D := (dC, dI)) (ci := 0) (v := .int v0_1) (C := RX0) (T := TX0) (N := 17) hx hb hts i_X5_begin_X0 hown hK hP 0 rfl rfl 1 (by decide) ((hN.1 ("FlowJudge$Places", 48, "FlowJudge$Code", "how", "I") (List.mem_of_getElem? (i := 37) rfl)).use rfl) (fun _ h9 => h9) rfl dX5_begin_104 ?_
              refine lv_iconst (v := 2) hx hb dX5_begin_107 (by decide) ?_
              refine lv_icmp_ne (tgt := 119) hx hb dX5_begin_108 (by decide) (fun c_13 => ?_) (fun c_13 => ?_)
              · replace hf := x_in c_13 hf
                refine lv_iconst (v := 0) hx hb dX5_begin_119 (by decide) ?_
                refine va_put (D := (dC, dI)) (ci := 5) (v := .int 0) (ty := .int) (C := RX5) (T := TX5) (N := 10) hx hb hts i_X5_begin_X5 tyX5 tyX5_ok nmX5 hown hK hP hD hS 2 rfl rfl 5 (by decide) k_2 (fun _ h9 => h9) rfl (by decide +kernel) rfl rfl (Nat.le_of_ble_eq_true rfl) dX5_begin_120 (fun H locs hP hD hS => ?_)
                have hP : va_P (dC, dI) vwCl [(o0, .inr (0, [.int v0_0, .int v0_1, .int v0_2, .int v0_3, .int v0_4, .ref a0_5, .int v0_6, .ref a0_7, .ref a0_8, .ref a0_9, .int v0_10, .ref a0_11, .ref a0_12, .ref a0_13, .ref a0_14, .int v0_15, .ref a0_16])), (a0_5, .inl (cyI, 20, .inl g0_5)), (o5, .inr (5, [.ref o7, .ref a5_1, .int v5_2, .int v5_3, .int v5_4, .int 0, .int v5_6, .int v5_7, .int v5_8, .int v5_9])), (a5_1, .inl (cyI, 400, .inl g5_1))] H := hP
                have hD : va_D A [(o0, .inr (0, [.int v0_0, .int v0_1, .int v0_2, .int v0_3, .int v0_4, .ref a0_5, .int v0_6, .ref a0_7, .ref a0_8, .ref a0_9, .int v0_10, .ref a0_11, .ref a0_12, .ref a0_13, .ref a0_14, .int v0_15, .ref a0_16])), (a0_5, .inl (cyI, 20, .inl g0_5)), (o5, .inr (5, [.ref o7, .ref a5_1, .int v5_2, .int v5_3, .int v5_4, .int 0, .int v5_6, .int v5_7, .int v5_8, .int v5_9])), (a5_1, .inl (cyI, 400, .inl g5_1))] := hD
                refine lv_aload_n hx hb dX5_begin_123 rfl (lv_at hl 2 rfl) ?_
                refine lv_iload_n hx hb dX5_begin_124 rfl (lv_at hl 1 rfl) ?_
                refine lv_iload_n hx hb dX5_begin_125 rfl (lv_at hl 0 rfl) ?_
                refine lv_if_eq (tgt := 134) hx hb dX5_begin_126 (by decide) (fun _ => ?_) (fun c_14 => absurd (by decide) c_14)
                refine lv_aload_n hx hb dX5_begin_134 rfl (lv_at hl 3 rfl) ?_
                refine va_getN (D := (dC, dI)) (ci := 0) (v := .int v0_0) (C := RX0) (T := TX0) (N := 17) hx hb hts i_X5_begin_X0 hown hK hP 0 rfl rfl 0 (by decide) ((hN.1 ("FlowJudge$Places", 51, "FlowJudge$Code", "owner", "I") (List.mem_of_getElem? (i := 38) rfl)).use rfl) (fun _ h9 => h9) rfl dX5_begin_135 ?_
                obtain ⟨r_15, h_15, hf⟩ := x_bi hf
                have hPc := hP.sub (ws' := []) [] rfl
                refine va_calli (va_runS (As := [.int v0_0]) (rest := [.int 0, .ref o5]) ⟨hx, hb, hml, hown, hts⟩ (c_X7_placeOf l dC dI cyI cyZ cyJ H.size v0_0 r_15 h_15) (va_cwS 1 hts gX5_begin_X7_placeOf rfl rfl rfl (by decide +kernel) ⟨Nat.le_of_ble_eq_true rfl, Nat.le_of_ble_eq_true rfl⟩) (x_pS hN hK hPc) rfl rfl hl.1 rfl (lv_room (Nat.le_of_ble_eq_true rfl)) dX5_begin_138 ⟨Nat.le_of_ble_eq_true rfl, Nat.le_of_ble_eq_true rfl⟩) hS x_nA (x_nf hA hS) (fun q_15 u t H1 locs ht hvm hw hB hz1 hk1 hS => ?_)
                have hP := x_kp hP hk1
                clear ht hvm hB hz1 hk1 t u hPc
                generalize H1 = H at hP hS ⊢
                obtain rfl := hw.symm
                obtain ⟨r_16, h_16, hf⟩ := x_bi hf
                have hPc := hP.sub (ws' := [(o5, .inr (5, [.ref o7, .ref a5_1, .int v5_2, .int v5_3, .int v5_4, .int 0, .int v5_6, .int v5_7, .int v5_8, .int v5_9])), (a5_1, .inl (cyI, 400, .inl g5_1))]) [2, 3] rfl
                have hDc := hD.sub (ws' := [(o5, .inr (5, [.ref o7, .ref a5_1, .int v5_2, .int v5_3, .int v5_4, .int 0, .int v5_6, .int v5_7, .int v5_8, .int v5_9])), (a5_1, .inl (cyI, 400, .inl g5_1))]) [2, 3] (by decide) rfl
                have hFc := va_free (wc := [(o5, .inr (5, [.ref o7, .ref a5_1, .int v5_2, .int v5_3, .int v5_4, .int 0, .int v5_6, .int v5_7, .int v5_8, .int v5_9])), (a5_1, .inl (cyI, 400, .inl g5_1))]) hD hS hA [2, 3] rfl
                refine va_callv (va_runV (As := [.int 0, .int r_15]) (rest := []) ⟨hx, hb, hml, hown, hts⟩ (c_X5_setLocal l dC dI cyI cyZ cyJ H.size o5 o7 a5_1 v5_2 v5_3 v5_4 0 v5_6 v5_7 v5_8 v5_9 g5_1 0 r_15 r_16 h_16) (cwV 2 hts gX5_begin_X5_setLocal rfl rfl rfl (by decide +kernel) ⟨Nat.le_of_ble_eq_true rfl, Nat.le_of_ble_eq_true rfl⟩) (x_pVD hN hK hPc hDc (ci := 5) (q0 := 0) rfl rfl) rfl rfl hl.1 rfl (lv_room (Nat.le_of_ble_eq_true rfl)) dX5_begin_141 ⟨Nat.le_of_ble_eq_true rfl, Nat.le_of_ble_eq_true rfl⟩) hS (fun q _ h => hFc q h) hFc (fun u t H1 locs ht hvm hw hB hz1 hk1 hS => ?_)
                obtain ⟨hP1, hK1, hD1⟩ := hB
                rw [ht] at hP1
                obtain ⟨hP, hD⟩ := va_join (wr := [(o0, .inr (0, [.int v0_0, .int v0_1, .int v0_2, .int v0_3, .int v0_4, .ref a0_5, .int v0_6, .ref a0_7, .ref a0_8, .ref a0_9, .int v0_10, .ref a0_11, .ref a0_12, .ref a0_13, .ref a0_14, .int v0_15, .ref a0_16])), (a0_5, .inl (cyI, 20, .inl g0_5))]) (w1 := [(o5, .inr (5, [.ref o7, .ref a5_1, .int v5_2, .int v5_3, .int v5_4, .int 0, .int (r_16.1), .int (r_16.2.1), .int v5_8, .int v5_9])), (a5_1, .inl (cyI, 400, .inl r_16.2.2))]) hP hD [2, 3] [0, 1] rfl rfl (by decide) (by decide) hk1 hFc hP1 hD1
                clear hz1 hk1 hPc hDc hFc hP1 hK1 hD1 ht hvm t u
                generalize H1 = H at hP hS ⊢
                have hP : va_P (dC, dI) vwCl [(o0, .inr (0, [.int v0_0, .int v0_1, .int v0_2, .int v0_3, .int v0_4, .ref a0_5, .int v0_6, .ref a0_7, .ref a0_8, .ref a0_9, .int v0_10, .ref a0_11, .ref a0_12, .ref a0_13, .ref a0_14, .int v0_15, .ref a0_16])), (a0_5, .inl (cyI, 20, .inl g0_5)), (o5, .inr (5, [.ref o7, .ref a5_1, .int v5_2, .int v5_3, .int v5_4, .int 0, .int (r_16.1), .int (r_16.2.1), .int v5_8, .int v5_9])), (a5_1, .inl (cyI, 400, .inl r_16.2.2))] H := hP
                have hD : va_D A [(o0, .inr (0, [.int v0_0, .int v0_1, .int v0_2, .int v0_3, .int v0_4, .ref a0_5, .int v0_6, .ref a0_7, .ref a0_8, .ref a0_9, .int v0_10, .ref a0_11, .ref a0_12, .ref a0_13, .ref a0_14, .int v0_15, .ref a0_16])), (a0_5, .inl (cyI, 20, .inl g0_5)), (o5, .inr (5, [.ref o7, .ref a5_1, .int v5_2, .int v5_3, .int v5_4, .int 0, .int (r_16.1), .int (r_16.2.1), .int v5_8, .int v5_9])), (a5_1, .inl (cyI, 400, .inl r_16.2.2))] := hD
                refine lv_iinc (v := 1) (lv' := [(2, .int 1), (3, .int 0), (0, .ref o5), (1, .ref o0)]) hx hb dX5_begin_144 hl (k := 1) rfl (by decide) (by decide) rfl (fun ls hl => ?_)
                refine lv_iconst (v := 0) hx hb dX5_begin_147 (by decide) ?_
                refine lv_istore_n (lv' := [(3, .int 0), (2, .int 1), (0, .ref o5), (1, .ref o0)]) hx hb dX5_begin_148 rfl hl (by decide) rfl (fun ls hl => ?_)
                exact (hWW _ _ _ _ _).mpr ((ih (1, 1, 0, 0, r_16.1, r_16.2.1, r_16.2.2) _ hf rfl _ _ _ _ _ _ _ rfl).2 rfl H locs ls hP hD hS (lv_sub hl [2, 3, 1, 0] rfl))
              · replace hf := x_ip c_13 hf
                refine lv_iload_n hx hb dX5_begin_111 rfl (lv_at hl 0 rfl) ?_
                refine lv_if_ne (tgt := 119) hx hb dX5_begin_112 (by decide) (fun c_17 => absurd (by decide) c_17) (fun _ => ?_)
                refine lv_iconst (v := 1) hx hb dX5_begin_115 (by decide) ?_
                refine lv_goto (tgt := 120) hx hb dX5_begin_116 (by decide) ?_
                refine va_put (D := (dC, dI)) (ci := 5) (v := .int 1) (ty := .int) (C := RX5) (T := TX5) (N := 10) hx hb hts i_X5_begin_X5 tyX5 tyX5_ok nmX5 hown hK hP hD hS 2 rfl rfl 5 (by decide) k_2 (fun _ h9 => h9) rfl (by decide +kernel) rfl rfl (Nat.le_of_ble_eq_true rfl) dX5_begin_120 (fun H locs hP hD hS => ?_)
                have hP : va_P (dC, dI) vwCl [(o0, .inr (0, [.int v0_0, .int v0_1, .int v0_2, .int v0_3, .int v0_4, .ref a0_5, .int v0_6, .ref a0_7, .ref a0_8, .ref a0_9, .int v0_10, .ref a0_11, .ref a0_12, .ref a0_13, .ref a0_14, .int v0_15, .ref a0_16])), (a0_5, .inl (cyI, 20, .inl g0_5)), (o5, .inr (5, [.ref o7, .ref a5_1, .int v5_2, .int v5_3, .int v5_4, .int 1, .int v5_6, .int v5_7, .int v5_8, .int v5_9])), (a5_1, .inl (cyI, 400, .inl g5_1))] H := hP
                have hD : va_D A [(o0, .inr (0, [.int v0_0, .int v0_1, .int v0_2, .int v0_3, .int v0_4, .ref a0_5, .int v0_6, .ref a0_7, .ref a0_8, .ref a0_9, .int v0_10, .ref a0_11, .ref a0_12, .ref a0_13, .ref a0_14, .int v0_15, .ref a0_16])), (a0_5, .inl (cyI, 20, .inl g0_5)), (o5, .inr (5, [.ref o7, .ref a5_1, .int v5_2, .int v5_3, .int v5_4, .int 1, .int v5_6, .int v5_7, .int v5_8, .int v5_9])), (a5_1, .inl (cyI, 400, .inl g5_1))] := hD
                refine lv_aload_n hx hb dX5_begin_123 rfl (lv_at hl 2 rfl) ?_
                refine lv_iload_n hx hb dX5_begin_124 rfl (lv_at hl 1 rfl) ?_
                refine lv_iload_n hx hb dX5_begin_125 rfl (lv_at hl 0 rfl) ?_
                refine lv_if_eq (tgt := 134) hx hb dX5_begin_126 (by decide) (fun _ => ?_) (fun c_18 => absurd (by decide) c_18)
                refine lv_aload_n hx hb dX5_begin_134 rfl (lv_at hl 3 rfl) ?_
                refine va_getN (D := (dC, dI)) (ci := 0) (v := .int v0_0) (C := RX0) (T := TX0) (N := 17) hx hb hts i_X5_begin_X0 hown hK hP 0 rfl rfl 0 (by decide) ((hN.1 ("FlowJudge$Places", 51, "FlowJudge$Code", "owner", "I") (List.mem_of_getElem? (i := 38) rfl)).use rfl) (fun _ h9 => h9) rfl dX5_begin_135 ?_
                obtain ⟨r_19, h_19, hf⟩ := x_bi hf
                have hPc := hP.sub (ws' := []) [] rfl
                refine va_calli (va_runS (As := [.int v0_0]) (rest := [.int 0, .ref o5]) ⟨hx, hb, hml, hown, hts⟩ (c_X7_placeOf l dC dI cyI cyZ cyJ H.size v0_0 r_19 h_19) (va_cwS 1 hts gX5_begin_X7_placeOf rfl rfl rfl (by decide +kernel) ⟨Nat.le_of_ble_eq_true rfl, Nat.le_of_ble_eq_true rfl⟩) (x_pS hN hK hPc) rfl rfl hl.1 rfl (lv_room (Nat.le_of_ble_eq_true rfl)) dX5_begin_138 ⟨Nat.le_of_ble_eq_true rfl, Nat.le_of_ble_eq_true rfl⟩) hS x_nA (x_nf hA hS) (fun q_19 u t H1 locs ht hvm hw hB hz1 hk1 hS => ?_)
                have hP := x_kp hP hk1
                clear ht hvm hB hz1 hk1 t u hPc
                generalize H1 = H at hP hS ⊢
                obtain rfl := hw.symm
                obtain ⟨r_20, h_20, hf⟩ := x_bi hf
                have hPc := hP.sub (ws' := [(o5, .inr (5, [.ref o7, .ref a5_1, .int v5_2, .int v5_3, .int v5_4, .int 1, .int v5_6, .int v5_7, .int v5_8, .int v5_9])), (a5_1, .inl (cyI, 400, .inl g5_1))]) [2, 3] rfl
                have hDc := hD.sub (ws' := [(o5, .inr (5, [.ref o7, .ref a5_1, .int v5_2, .int v5_3, .int v5_4, .int 1, .int v5_6, .int v5_7, .int v5_8, .int v5_9])), (a5_1, .inl (cyI, 400, .inl g5_1))]) [2, 3] (by decide) rfl
                have hFc := va_free (wc := [(o5, .inr (5, [.ref o7, .ref a5_1, .int v5_2, .int v5_3, .int v5_4, .int 1, .int v5_6, .int v5_7, .int v5_8, .int v5_9])), (a5_1, .inl (cyI, 400, .inl g5_1))]) hD hS hA [2, 3] rfl
                refine va_callv (va_runV (As := [.int 0, .int r_19]) (rest := []) ⟨hx, hb, hml, hown, hts⟩ (c_X5_setLocal l dC dI cyI cyZ cyJ H.size o5 o7 a5_1 v5_2 v5_3 v5_4 1 v5_6 v5_7 v5_8 v5_9 g5_1 0 r_19 r_20 h_20) (cwV 2 hts gX5_begin_X5_setLocal rfl rfl rfl (by decide +kernel) ⟨Nat.le_of_ble_eq_true rfl, Nat.le_of_ble_eq_true rfl⟩) (x_pVD hN hK hPc hDc (ci := 5) (q0 := 0) rfl rfl) rfl rfl hl.1 rfl (lv_room (Nat.le_of_ble_eq_true rfl)) dX5_begin_141 ⟨Nat.le_of_ble_eq_true rfl, Nat.le_of_ble_eq_true rfl⟩) hS (fun q _ h => hFc q h) hFc (fun u t H1 locs ht hvm hw hB hz1 hk1 hS => ?_)
                obtain ⟨hP1, hK1, hD1⟩ := hB
                rw [ht] at hP1
                obtain ⟨hP, hD⟩ := va_join (wr := [(o0, .inr (0, [.int v0_0, .int v0_1, .int v0_2, .int v0_3, .int v0_4, .ref a0_5, .int v0_6, .ref a0_7, .ref a0_8, .ref a0_9, .int v0_10, .ref a0_11, .ref a0_12, .ref a0_13, .ref a0_14, .int v0_15, .ref a0_16])), (a0_5, .inl (cyI, 20, .inl g0_5))]) (w1 := [(o5, .inr (5, [.ref o7, .ref a5_1, .int v5_2, .int v5_3, .int v5_4, .int 1, .int (r_20.1), .int (r_20.2.1), .int v5_8, .int v5_9])), (a5_1, .inl (cyI, 400, .inl r_20.2.2))]) hP hD [2, 3] [0, 1] rfl rfl (by decide) (by decide) hk1 hFc hP1 hD1
                clear hz1 hk1 hPc hDc hFc hP1 hK1 hD1 ht hvm t u
                generalize H1 = H at hP hS ⊢
                have hP : va_P (dC, dI) vwCl [(o0, .inr (0, [.int v0_0, .int v0_1, .int v0_2, .int v0_3, .int v0_4, .ref a0_5, .int v0_6, .ref a0_7, .ref a0_8, .ref a0_9, .int v0_10, .ref a0_11, .ref a0_12, .ref a0_13, .ref a0_14, .int v0_15, .ref a0_16])), (a0_5, .inl (cyI, 20, .inl g0_5)), (o5, .inr (5, [.ref o7, .ref a5_1, .int v5_2, .int v5_3, .int v5_4, .int 1, .int (r_20.1), .int (r_20.2.1), .int v5_8, .int v5_9])), (a5_1, .inl (cyI, 400, .inl r_20.2.2))] H := hP
                have hD : va_D A [(o0, .inr (0, [.int v0_0, .int v0_1, .int v0_2, .int v0_3, .int v0_4, .ref a0_5, .int v0_6, .ref a0_7, .ref a0_8, .ref a0_9, .int v0_10, .ref a0_11, .ref a0_12, .ref a0_13, .ref a0_14, .int v0_15, .ref a0_16])), (a0_5, .inl (cyI, 20, .inl g0_5)), (o5, .inr (5, [.ref o7, .ref a5_1, .int v5_2, .int v5_3, .int v5_4, .int 1, .int (r_20.1), .int (r_20.2.1), .int v5_8, .int v5_9])), (a5_1, .inl (cyI, 400, .inl r_20.2.2))] := hD
                refine lv_iinc (v := 1) (lv' := [(2, .int 1), (3, .int 0), (0, .ref o5), (1, .ref o0)]) hx hb dX5_begin_144 hl (k := 1) rfl (by decide) (by decide) rfl (fun ls hl => ?_)
                refine lv_iconst (v := 0) hx hb dX5_begin_147 (by decide) ?_
                refine lv_istore_n (lv' := [(3, .int 0), (2, .int 1), (0, .ref o5), (1, .ref o0)]) hx hb dX5_begin_148 rfl hl (by decide) rfl (fun ls hl => ?_)
                exact (hWW _ _ _ _ _).mpr ((ih (1, 1, 0, 1, r_20.1, r_20.2.1, r_20.2.2) _ hf rfl _ _ _ _ _ _ _ rfl).2 rfl H locs ls hP hD hS (lv_sub hl [2, 3, 1, 0] rfl))
            · replace hf := x_in c_12 hf
              refine lv_iconst (v := 1) hx hb dX5_begin_96 (by decide) ?_
              refine lv_goto (tgt := 101) hx hb dX5_begin_97 (by decide) ?_
              refine lv_istore_n (lv' := [(3, .int 1), (2, .int 0), (0, .ref o5), (1, .ref o0)]) hx hb dX5_begin_101 rfl hl (by decide) rfl (fun ls hl => ?_)
              refine lv_aload_n hx hb dX5_begin_102 rfl (lv_at hl 2 rfl) ?_
              refine lv_aload_n hx hb dX5_begin_103 rfl (lv_at hl 3 rfl) ?_
              refine va_getN (D := (dC, dI)) (ci := 0) (v := .int v0_1) (C := RX0) (T := TX0) (N := 17) hx hb hts i_X5_begin_X0 hown hK hP 0 rfl rfl 1 (by decide) ((hN.1 ("FlowJudge$Places", 48, "FlowJudge$Code", "how", "I") (List.mem_of_getElem? (i := 37) rfl)).use rfl) (fun _ h9 => h9) rfl dX5_begin_104 ?_
              refine lv_iconst (v := 2) hx hb dX5_begin_107 (by decide) ?_
              refine lv_icmp_ne (tgt := 119) hx hb dX5_begin_108 (by decide) (fun c_21 => ?_) (fun c_21 => ?_)
              · replace hf := x_in c_21 hf
                refine lv_iconst (v := 0) hx hb dX5_begin_119 (by decide) ?_
                refine va_put (D := (dC, dI)) (ci := 5) (v := .int 0) (ty := .int) (C := RX5) (T := TX5) (N := 10) hx hb hts i_X5_begin_X5 tyX5 tyX5_ok nmX5 hown hK hP hD hS 2 rfl rfl 5 (by decide) k_2 (fun _ h9 => h9) rfl (by decide +kernel) rfl rfl (Nat.le_of_ble_eq_true rfl) dX5_begin_120 (fun H locs hP hD hS => ?_)
                have hP : va_P (dC, dI) vwCl [(o0, .inr (0, [.int v0_0, .int v0_1, .int v0_2, .int v0_3, .int v0_4, .ref a0_5, .int v0_6, .ref a0_7, .ref a0_8, .ref a0_9, .int v0_10, .ref a0_11, .ref a0_12, .ref a0_13, .ref a0_14, .int v0_15, .ref a0_16])), (a0_5, .inl (cyI, 20, .inl g0_5)), (o5, .inr (5, [.ref o7, .ref a5_1, .int v5_2, .int v5_3, .int v5_4, .int 0, .int v5_6, .int v5_7, .int v5_8, .int v5_9])), (a5_1, .inl (cyI, 400, .inl g5_1))] H := hP
                have hD : va_D A [(o0, .inr (0, [.int v0_0, .int v0_1, .int v0_2, .int v0_3, .int v0_4, .ref a0_5, .int v0_6, .ref a0_7, .ref a0_8, .ref a0_9, .int v0_10, .ref a0_11, .ref a0_12, .ref a0_13, .ref a0_14, .int v0_15, .ref a0_16])), (a0_5, .inl (cyI, 20, .inl g0_5)), (o5, .inr (5, [.ref o7, .ref a5_1, .int v5_2, .int v5_3, .int v5_4, .int 0, .int v5_6, .int v5_7, .int v5_8, .int v5_9])), (a5_1, .inl (cyI, 400, .inl g5_1))] := hD
                refine lv_aload_n hx hb dX5_begin_123 rfl (lv_at hl 2 rfl) ?_
                refine lv_iload_n hx hb dX5_begin_124 rfl (lv_at hl 1 rfl) ?_
                refine lv_iload_n hx hb dX5_begin_125 rfl (lv_at hl 0 rfl) ?_
                refine lv_if_eq (tgt := 134) hx hb dX5_begin_126 (by decide) (fun c_22 => absurd c_22 (by decide)) (fun _ => ?_)
                refine lv_bipush (v := 6) hx hb dX5_begin_129 (by decide) ?_
                refine lv_goto (tgt := 141) hx hb dX5_begin_131 (by decide) ?_
                obtain ⟨r_23, h_23, hf⟩ := x_bi hf
                have hPc := hP.sub (ws' := [(o5, .inr (5, [.ref o7, .ref a5_1, .int v5_2, .int v5_3, .int v5_4, .int 0, .int v5_6, .int v5_7, .int v5_8, .int v5_9])), (a5_1, .inl (cyI, 400, .inl g5_1))]) [2, 3] rfl
                have hDc := hD.sub (ws' := [(o5, .inr (5, [.ref o7, .ref a5_1, .int v5_2, .int v5_3, .int v5_4, .int 0, .int v5_6, .int v5_7, .int v5_8, .int v5_9])), (a5_1, .inl (cyI, 400, .inl g5_1))]) [2, 3] (by decide) rfl
                have hFc := va_free (wc := [(o5, .inr (5, [.ref o7, .ref a5_1, .int v5_2, .int v5_3, .int v5_4, .int 0, .int v5_6, .int v5_7, .int v5_8, .int v5_9])), (a5_1, .inl (cyI, 400, .inl g5_1))]) hD hS hA [2, 3] rfl
                refine va_callv (va_runV (As := [.int 0, .int 6]) (rest := []) ⟨hx, hb, hml, hown, hts⟩ (c_X5_setLocal l dC dI cyI cyZ cyJ H.size o5 o7 a5_1 v5_2 v5_3 v5_4 0 v5_6 v5_7 v5_8 v5_9 g5_1 0 6 r_23 h_23) (cwV 2 hts gX5_begin_X5_setLocal rfl rfl rfl (by decide +kernel) ⟨Nat.le_of_ble_eq_true rfl, Nat.le_of_ble_eq_true rfl⟩) (x_pVD hN hK hPc hDc (ci := 5) (q0 := 0) rfl rfl) rfl rfl hl.1 rfl (lv_room (Nat.le_of_ble_eq_true rfl)) dX5_begin_141 ⟨Nat.le_of_ble_eq_true rfl, Nat.le_of_ble_eq_true rfl⟩) hS (fun q _ h => hFc q h) hFc (fun u t H1 locs ht hvm hw hB hz1 hk1 hS => ?_)
                obtain ⟨hP1, hK1, hD1⟩ := hB
                rw [ht] at hP1
                obtain ⟨hP, hD⟩ := va_join (wr := [(o0, .inr (0, [.int v0_0, .int v0_1, .int v0_2, .int v0_3, .int v0_4, .ref a0_5, .int v0_6, .ref a0_7, .ref a0_8, .ref a0_9, .int v0_10, .ref a0_11, .ref a0_12, .ref a0_13, .ref a0_14, .int v0_15, .ref a0_16])), (a0_5, .inl (cyI, 20, .inl g0_5))]) (w1 := [(o5, .inr (5, [.ref o7, .ref a5_1, .int v5_2, .int v5_3, .int v5_4, .int 0, .int (r_23.1), .int (r_23.2.1), .int v5_8, .int v5_9])), (a5_1, .inl (cyI, 400, .inl r_23.2.2))]) hP hD [2, 3] [0, 1] rfl rfl (by decide) (by decide) hk1 hFc hP1 hD1
                clear hz1 hk1 hPc hDc hFc hP1 hK1 hD1 ht hvm t u
                generalize H1 = H at hP hS ⊢
                have hP : va_P (dC, dI) vwCl [(o0, .inr (0, [.int v0_0, .int v0_1, .int v0_2, .int v0_3, .int v0_4, .ref a0_5, .int v0_6, .ref a0_7, .ref a0_8, .ref a0_9, .int v0_10, .ref a0_11, .ref a0_12, .ref a0_13, .ref a0_14, .int v0_15, .ref a0_16])), (a0_5, .inl (cyI, 20, .inl g0_5)), (o5, .inr (5, [.ref o7, .ref a5_1, .int v5_2, .int v5_3, .int v5_4, .int 0, .int (r_23.1), .int (r_23.2.1), .int v5_8, .int v5_9])), (a5_1, .inl (cyI, 400, .inl r_23.2.2))] H := hP
                have hD : va_D A [(o0, .inr (0, [.int v0_0, .int v0_1, .int v0_2, .int v0_3, .int v0_4, .ref a0_5, .int v0_6, .ref a0_7, .ref a0_8, .ref a0_9, .int v0_10, .ref a0_11, .ref a0_12, .ref a0_13, .ref a0_14, .int v0_15, .ref a0_16])), (a0_5, .inl (cyI, 20, .inl g0_5)), (o5, .inr (5, [.ref o7, .ref a5_1, .int v5_2, .int v5_3, .int v5_4, .int 0, .int (r_23.1), .int (r_23.2.1), .int v5_8, .int v5_9])), (a5_1, .inl (cyI, 400, .inl r_23.2.2))] := hD
                refine lv_iinc (v := 1) (lv' := [(2, .int 1), (3, .int 1), (0, .ref o5), (1, .ref o0)]) hx hb dX5_begin_144 hl (k := 1) rfl (by decide) (by decide) rfl (fun ls hl => ?_)
                refine lv_iconst (v := 0) hx hb dX5_begin_147 (by decide) ?_
                refine lv_istore_n (lv' := [(3, .int 0), (2, .int 1), (0, .ref o5), (1, .ref o0)]) hx hb dX5_begin_148 rfl hl (by decide) rfl (fun ls hl => ?_)
                exact (hWW _ _ _ _ _).mpr ((ih (1, 1, 0, 0, r_23.1, r_23.2.1, r_23.2.2) _ hf rfl _ _ _ _ _ _ _ rfl).2 rfl H locs ls hP hD hS (lv_sub hl [2, 3, 1, 0] rfl))
              · replace hf := x_ip c_21 hf
                refine lv_iload_n hx hb dX5_begin_111 rfl (lv_at hl 0 rfl) ?_
                refine lv_if_ne (tgt := 119) hx hb dX5_begin_112 (by decide) (fun _ => ?_) (fun c_24 => absurd c_24 (by decide))
                refine lv_iconst (v := 0) hx hb dX5_begin_119 (by decide) ?_
                refine va_put (D := (dC, dI)) (ci := 5) (v := .int 0) (ty := .int) (C := RX5) (T := TX5) (N := 10) hx hb hts i_X5_begin_X5 tyX5 tyX5_ok nmX5 hown hK hP hD hS 2 rfl rfl 5 (by decide) k_2 (fun _ h9 => h9) rfl (by decide +kernel) rfl rfl (Nat.le_of_ble_eq_true rfl) dX5_begin_120 (fun H locs hP hD hS => ?_)
                have hP : va_P (dC, dI) vwCl [(o0, .inr (0, [.int v0_0, .int v0_1, .int v0_2, .int v0_3, .int v0_4, .ref a0_5, .int v0_6, .ref a0_7, .ref a0_8, .ref a0_9, .int v0_10, .ref a0_11, .ref a0_12, .ref a0_13, .ref a0_14, .int v0_15, .ref a0_16])), (a0_5, .inl (cyI, 20, .inl g0_5)), (o5, .inr (5, [.ref o7, .ref a5_1, .int v5_2, .int v5_3, .int v5_4, .int 0, .int v5_6, .int v5_7, .int v5_8, .int v5_9])), (a5_1, .inl (cyI, 400, .inl g5_1))] H := hP
                have hD : va_D A [(o0, .inr (0, [.int v0_0, .int v0_1, .int v0_2, .int v0_3, .int v0_4, .ref a0_5, .int v0_6, .ref a0_7, .ref a0_8, .ref a0_9, .int v0_10, .ref a0_11, .ref a0_12, .ref a0_13, .ref a0_14, .int v0_15, .ref a0_16])), (a0_5, .inl (cyI, 20, .inl g0_5)), (o5, .inr (5, [.ref o7, .ref a5_1, .int v5_2, .int v5_3, .int v5_4, .int 0, .int v5_6, .int v5_7, .int v5_8, .int v5_9])), (a5_1, .inl (cyI, 400, .inl g5_1))] := hD
                refine lv_aload_n hx hb dX5_begin_123 rfl (lv_at hl 2 rfl) ?_
                refine lv_iload_n hx hb dX5_begin_124 rfl (lv_at hl 1 rfl) ?_
                refine lv_iload_n hx hb dX5_begin_125 rfl (lv_at hl 0 rfl) ?_
                refine lv_if_eq (tgt := 134) hx hb dX5_begin_126 (by decide) (fun c_25 => absurd c_25 (by decide)) (fun _ => ?_)
                refine lv_bipush (v := 6) hx hb dX5_begin_129 (by decide) ?_
                refine lv_goto (tgt := 141) hx hb dX5_begin_131 (by decide) ?_
                obtain ⟨r_26, h_26, hf⟩ := x_bi hf
                have hPc := hP.sub (ws' := [(o5, .inr (5, [.ref o7, .ref a5_1, .int v5_2, .int v5_3, .int v5_4, .int 0, .int v5_6, .int v5_7, .int v5_8, .int v5_9])), (a5_1, .inl (cyI, 400, .inl g5_1))]) [2, 3] rfl
                have hDc := hD.sub (ws' := [(o5, .inr (5, [.ref o7, .ref a5_1, .int v5_2, .int v5_3, .int v5_4, .int 0, .int v5_6, .int v5_7, .int v5_8, .int v5_9])), (a5_1, .inl (cyI, 400, .inl g5_1))]) [2, 3] (by decide) rfl
                have hFc := va_free (wc := [(o5, .inr (5, [.ref o7, .ref a5_1, .int v5_2, .int v5_3, .int v5_4, .int 0, .int v5_6, .int v5_7, .int v5_8, .int v5_9])), (a5_1, .inl (cyI, 400, .inl g5_1))]) hD hS hA [2, 3] rfl
                refine va_callv (va_runV (As := [.int 0, .int 6]) (rest := []) ⟨hx, hb, hml, hown, hts⟩ (c_X5_setLocal l dC dI cyI cyZ cyJ H.size o5 o7 a5_1 v5_2 v5_3 v5_4 0 v5_6 v5_7 v5_8 v5_9 g5_1 0 6 r_26 h_26) (cwV 2 hts gX5_begin_X5_setLocal rfl rfl rfl (by decide +kernel) ⟨Nat.le_of_ble_eq_true rfl, Nat.le_of_ble_eq_true rfl⟩) (x_pVD hN hK hPc hDc (ci := 5) (q0 := 0) rfl rfl) rfl rfl hl.1 rfl (lv_room (Nat.le_of_ble_eq_true rfl)) dX5_begin_141 ⟨Nat.le_of_ble_eq_true rfl, Nat.le_of_ble_eq_true rfl⟩) hS (fun q _ h => hFc q h) hFc (fun u t H1 locs ht hvm hw hB hz1 hk1 hS => ?_)
                obtain ⟨hP1, hK1, hD1⟩ := hB
                rw [ht] at hP1
                obtain ⟨hP, hD⟩ := va_join (wr := [(o0, .inr (0, [.int v0_0, .int v0_1, .int v0_2, .int v0_3, .int v0_4, .ref a0_5, .int v0_6, .ref a0_7, .ref a0_8, .ref a0_9, .int v0_10, .ref a0_11, .ref a0_12, .ref a0_13, .ref a0_14, .int v0_15, .ref a0_16])), (a0_5, .inl (cyI, 20, .inl g0_5))]) (w1 := [(o5, .inr (5, [.ref o7, .ref a5_1, .int v5_2, .int v5_3, .int v5_4, .int 0, .int (r_26.1), .int (r_26.2.1), .int v5_8, .int v5_9])), (a5_1, .inl (cyI, 400, .inl r_26.2.2))]) hP hD [2, 3] [0, 1] rfl rfl (by decide) (by decide) hk1 hFc hP1 hD1
                clear hz1 hk1 hPc hDc hFc hP1 hK1 hD1 ht hvm t u
                generalize H1 = H at hP hS ⊢
                have hP : va_P (dC, dI) vwCl [(o0, .inr (0, [.int v0_0, .int v0_1, .int v0_2, .int v0_3, .int v0_4, .ref a0_5, .int v0_6, .ref a0_7, .ref a0_8, .ref a0_9, .int v0_10, .ref a0_11, .ref a0_12, .ref a0_13, .ref a0_14, .int v0_15, .ref a0_16])), (a0_5, .inl (cyI, 20, .inl g0_5)), (o5, .inr (5, [.ref o7, .ref a5_1, .int v5_2, .int v5_3, .int v5_4, .int 0, .int (r_26.1), .int (r_26.2.1), .int v5_8, .int v5_9])), (a5_1, .inl (cyI, 400, .inl r_26.2.2))] H := hP
                have hD : va_D A [(o0, .inr (0, [.int v0_0, .int v0_1, .int v0_2, .int v0_3, .int v0_4, .ref a0_5, .int v0_6, .ref a0_7, .ref a0_8, .ref a0_9, .int v0_10, .ref a0_11, .ref a0_12, .ref a0_13, .ref a0_14, .int v0_15, .ref a0_16])), (a0_5, .inl (cyI, 20, .inl g0_5)), (o5, .inr (5, [.ref o7, .ref a5_1, .int v5_2, .int v5_3, .int v5_4, .int 0, .int (r_26.1), .int (r_26.2.1), .int v5_8, .int v5_9])), (a5_1, .inl (cyI, 400, .inl r_26.2.2))] := hD
                refine lv_iinc (v := 1) (lv' := [(2, .int 1), (3, .int 1), (0, .ref o5), (1, .ref o0)]) hx hb dX5_begin_144 hl (k := 1) rfl (by decide) (by decide) rfl (fun ls hl => ?_)
                refine lv_iconst (v := 0) hx hb dX5_begin_147 (by decide) ?_
                refine lv_istore_n (lv' := [(3, .int 0), (2, .int 1), (0, .ref o5), (1, .ref o0)]) hx hb dX5_begin_148 rfl hl (by decide) rfl (fun ls hl => ?_)
                exact (hWW _ _ _ _ _).mpr ((ih (1, 1, 0, 0, r_26.1, r_26.2.1, r_26.2.2) _ hf rfl _ _ _ _ _ _ _ rfl).2 rfl H locs ls hP hD hS (lv_sub hl [2, 3, 1, 0] rfl))
      · replace hf := x_in c_1 hf
        refine lv_aload_n hx hb dX5_begin_59 rfl (lv_at hl 0 rfl) ?_
        refine va_get (D := (dC, dI)) (ci := 5) (v := .ref a5_1) (C := RX5) (T := TX5) (N := 10) hx hb hts i_X5_begin_X5 hown hK hP 2 rfl rfl 1 (by decide) k_3 (fun _ h9 => h9) rfl dX5_begin_60 ?_
        refine lv_iload_n hx hb dX5_begin_63 rfl (lv_at hl 2 rfl) ?_
        refine lv_iconst (v := 0) hx hb dX5_begin_64 (by decide) ?_
        obtain ⟨g_27, hf⟩ := x_gu hf
        refine va_iast hx hb hK hP hD hS 3 0 rfl rfl (x_gdin g_27) dX5_begin_65 (fun H locs hP hD hS => ?_)
        have hP : va_P (dC, dI) vwCl [(o0, .inr (0, [.int v0_0, .int v0_1, .int v0_2, .int v0_3, .int v0_4, .ref a0_5, .int v0_6, .ref a0_7, .ref a0_8, .ref a0_9, .int v0_10, .ref a0_11, .ref a0_12, .ref a0_13, .ref a0_14, .int v0_15, .ref a0_16])), (a0_5, .inl (cyI, 20, .inl g0_5)), (o5, .inr (5, [.ref o7, .ref a5_1, .int v5_2, .int v5_3, .int v5_4, .int v5_5, .int v5_6, .int v5_7, .int v5_8, .int v5_9])), (a5_1, .inl (cyI, 400, .inl (upd g5_1 (Int32.toNatClampNeg l2) 0)))] H := hP
        have hD : va_D A [(o0, .inr (0, [.int v0_0, .int v0_1, .int v0_2, .int v0_3, .int v0_4, .ref a0_5, .int v0_6, .ref a0_7, .ref a0_8, .ref a0_9, .int v0_10, .ref a0_11, .ref a0_12, .ref a0_13, .ref a0_14, .int v0_15, .ref a0_16])), (a0_5, .inl (cyI, 20, .inl g0_5)), (o5, .inr (5, [.ref o7, .ref a5_1, .int v5_2, .int v5_3, .int v5_4, .int v5_5, .int v5_6, .int v5_7, .int v5_8, .int v5_9])), (a5_1, .inl (cyI, 400, .inl (upd g5_1 (Int32.toNatClampNeg l2) 0)))] := hD
        refine lv_iinc (v := (l2 + 1)) (lv' := [(2, .int (l2 + 1)), (0, .ref o5), (1, .ref o0)]) hx hb dX5_begin_66 hl (k := 2) rfl rfl (by decide) rfl (fun ls hl => ?_)
        refine lv_goto (tgt := 51) hx hb dX5_begin_69 (by decide) ?_
        exact (hWW _ _ _ _ _).mpr ((ih (0, l2 + 1, 0, v5_5, v5_6, v5_7, upd g5_1 (Int32.toNatClampNeg l2) 0) _ hf rfl _ _ _ _ _ _ _ rfl).1 rfl H locs ls hP hD hS (lv_sub hl [1, 2, 0] rfl))
    · intro hq H locs ls hP hD hS hl
      subst hq
      refine (hWW _ _ _ _ _).mp ?_
      replace hf := x_ip rfl (x_in (by decide) hf)
      refine lv_iload_n hx hb dX5_begin_149 rfl (lv_at hl 3 rfl) ?_
      refine lv_aload_n hx hb dX5_begin_150 rfl (lv_at hl 1 rfl) ?_
      refine va_getN (D := (dC, dI)) (ci := 0) (v := .int v0_6) (C := RX0) (T := TX0) (N := 17) hx hb hts i_X5_begin_X0 hown hK hP 0 rfl rfl 6 (by decide) ((hN.1 ("FlowJudge$Places", 64, "FlowJudge$Code", "argumentCount", "I") (List.mem_of_getElem? (i := 39) rfl)).use rfl) (fun _ h9 => h9) rfl dX5_begin_151 ?_
      refine lv_icmp_ge (tgt := 189) hx hb dX5_begin_154 (by decide) (fun c_28 => ?_) (fun c_28 => ?_)
      · replace hf := x_ip c_28 hf
        obtain rfl := Option.some.inj hf
        have hP9 := hP.sub (ws' := [(o0, .inr (0, [.int v0_0, .int v0_1, .int v0_2, .int v0_3, .int v0_4, .ref a0_5, .int v0_6, .ref a0_7, .ref a0_8, .ref a0_9, .int v0_10, .ref a0_11, .ref a0_12, .ref a0_13, .ref a0_14, .int v0_15, .ref a0_16])), (a0_5, .inl (cyI, 20, .inl g0_5)), (o5, .inr (5, [.ref o7, .ref a5_1, .int v5_2, .int v5_3, .int v5_4, .int v5_5, .int v5_6, .int v5_7, .int v5_8, .int v5_9])), (a5_1, .inl (cyI, 400, .inl g5_1))]) [0, 1, 2, 3] rfl
        have hD9 := hD.sub (ws' := [(o0, .inr (0, [.int v0_0, .int v0_1, .int v0_2, .int v0_3, .int v0_4, .ref a0_5, .int v0_6, .ref a0_7, .ref a0_8, .ref a0_9, .int v0_10, .ref a0_11, .ref a0_12, .ref a0_13, .ref a0_14, .int v0_15, .ref a0_16])), (a0_5, .inl (cyI, 20, .inl g0_5)), (o5, .inr (5, [.ref o7, .ref a5_1, .int v5_2, .int v5_3, .int v5_4, .int v5_5, .int v5_6, .int v5_7, .int v5_8, .int v5_9])), (a5_1, .inl (cyI, 400, .inl g5_1))]) [0, 1, 2, 3] (by decide) rfl
        exact W.vret hx hb hr (fun t ht hW => ⟨⟨(), rfl, trivial, by rw [ht]; exact hP9, va_K.moved hW.alike hK, hD9⟩, hS.F ht⟩) hS.2.2 dX5_begin_189
      · replace hf := x_in c_28 hf
        refine lv_aload_n hx hb dX5_begin_157 rfl (lv_at hl 0 rfl) ?_
        refine lv_iload_n hx hb dX5_begin_158 rfl (lv_at hl 2 rfl) ?_
        refine lv_aload_n hx hb dX5_begin_159 rfl (lv_at hl 1 rfl) ?_
        refine va_getN (D := (dC, dI)) (ci := 0) (v := .ref a0_5) (C := RX0) (T := TX0) (N := 17) hx hb hts i_X5_begin_X0 hown hK hP 0 rfl rfl 5 (by decide) ((hN.1 ("FlowJudge$Places", 67, "FlowJudge$Code", "arguments", "[I") (List.mem_of_getElem? (i := 40) rfl)).use rfl) (fun _ h9 => h9) rfl dX5_begin_160 ?_
        refine lv_iload_n hx hb dX5_begin_163 rfl (lv_at hl 3 rfl) ?_
        obtain ⟨g_29, hf⟩ := x_gu hf
        refine va_iald hx hb hK hP 1 0 rfl rfl (x_gdin g_29) dX5_begin_164 ?_
        obtain ⟨r_30, h_30, hf⟩ := x_bi hf
        have hPc := hP.sub (ws' := []) [] rfl
        refine va_calli (va_runS (As := [.int (g0_5 (Int32.toNatClampNeg l3))]) (rest := [.int l2, .ref o5]) ⟨hx, hb, hml, hown, hts⟩ (c_X7_placeOf l dC dI cyI cyZ cyJ H.size (g0_5 (Int32.toNatClampNeg l3)) r_30 h_30) (va_cwS 1 hts gX5_begin_X7_placeOf rfl rfl rfl (by decide +kernel) ⟨Nat.le_of_ble_eq_true rfl, Nat.le_of_ble_eq_true rfl⟩) (x_pS hN hK hPc) rfl rfl hl.1 rfl (lv_room (Nat.le_of_ble_eq_true rfl)) dX5_begin_165 ⟨Nat.le_of_ble_eq_true rfl, Nat.le_of_ble_eq_true rfl⟩) hS x_nA (x_nf hA hS) (fun q_30 u t H1 locs ht hvm hw hB hz1 hk1 hS => ?_)
        have hP := x_kp hP hk1
        clear ht hvm hB hz1 hk1 t u hPc
        generalize H1 = H at hP hS ⊢
        obtain rfl := hw.symm
        obtain ⟨r_31, h_31, hf⟩ := x_bi hf
        have hPc := hP.sub (ws' := [(o5, .inr (5, [.ref o7, .ref a5_1, .int v5_2, .int v5_3, .int v5_4, .int v5_5, .int v5_6, .int v5_7, .int v5_8, .int v5_9])), (a5_1, .inl (cyI, 400, .inl g5_1))]) [2, 3] rfl
        have hDc := hD.sub (ws' := [(o5, .inr (5, [.ref o7, .ref a5_1, .int v5_2, .int v5_3, .int v5_4, .int v5_5, .int v5_6, .int v5_7, .int v5_8, .int v5_9])), (a5_1, .inl (cyI, 400, .inl g5_1))]) [2, 3] (by decide) rfl
        have hFc := va_free (wc := [(o5, .inr (5, [.ref o7, .ref a5_1, .int v5_2, .int v5_3, .int v5_4, .int v5_5, .int v5_6, .int v5_7, .int v5_8, .int v5_9])), (a5_1, .inl (cyI, 400, .inl g5_1))]) hD hS hA [2, 3] rfl
        refine va_callv (va_runV (As := [.int l2, .int r_30]) (rest := []) ⟨hx, hb, hml, hown, hts⟩ (c_X5_setLocal l dC dI cyI cyZ cyJ H.size o5 o7 a5_1 v5_2 v5_3 v5_4 v5_5 v5_6 v5_7 v5_8 v5_9 g5_1 l2 r_30 r_31 h_31) (cwV 2 hts gX5_begin_X5_setLocal rfl rfl rfl (by decide +kernel) ⟨Nat.le_of_ble_eq_true rfl, Nat.le_of_ble_eq_true rfl⟩) (x_pVD hN hK hPc hDc (ci := 5) (q0 := 0) rfl rfl) rfl rfl hl.1 rfl (lv_room (Nat.le_of_ble_eq_true rfl)) dX5_begin_168 ⟨Nat.le_of_ble_eq_true rfl, Nat.le_of_ble_eq_true rfl⟩) hS (fun q _ h => hFc q h) hFc (fun u t H1 locs ht hvm hw hB hz1 hk1 hS => ?_)
        obtain ⟨hP1, hK1, hD1⟩ := hB
        rw [ht] at hP1
        obtain ⟨hP, hD⟩ := va_join (wr := [(o0, .inr (0, [.int v0_0, .int v0_1, .int v0_2, .int v0_3, .int v0_4, .ref a0_5, .int v0_6, .ref a0_7, .ref a0_8, .ref a0_9, .int v0_10, .ref a0_11, .ref a0_12, .ref a0_13, .ref a0_14, .int v0_15, .ref a0_16])), (a0_5, .inl (cyI, 20, .inl g0_5))]) (w1 := [(o5, .inr (5, [.ref o7, .ref a5_1, .int v5_2, .int v5_3, .int v5_4, .int v5_5, .int (r_31.1), .int (r_31.2.1), .int v5_8, .int v5_9])), (a5_1, .inl (cyI, 400, .inl r_31.2.2))]) hP hD [2, 3] [0, 1] rfl rfl (by decide) (by decide) hk1 hFc hP1 hD1
        clear hz1 hk1 hPc hDc hFc hP1 hK1 hD1 ht hvm t u
        generalize H1 = H at hP hS ⊢
        have hP : va_P (dC, dI) vwCl [(o0, .inr (0, [.int v0_0, .int v0_1, .int v0_2, .int v0_3, .int v0_4, .ref a0_5, .int v0_6, .ref a0_7, .ref a0_8, .ref a0_9, .int v0_10, .ref a0_11, .ref a0_12, .ref a0_13, .ref a0_14, .int v0_15, .ref a0_16])), (a0_5, .inl (cyI, 20, .inl g0_5)), (o5, .inr (5, [.ref o7, .ref a5_1, .int v5_2, .int v5_3, .int v5_4, .int v5_5, .int (r_31.1), .int (r_31.2.1), .int v5_8, .int v5_9])), (a5_1, .inl (cyI, 400, .inl r_31.2.2))] H := hP
        have hD : va_D A [(o0, .inr (0, [.int v0_0, .int v0_1, .int v0_2, .int v0_3, .int v0_4, .ref a0_5, .int v0_6, .ref a0_7, .ref a0_8, .ref a0_9, .int v0_10, .ref a0_11, .ref a0_12, .ref a0_13, .ref a0_14, .int v0_15, .ref a0_16])), (a0_5, .inl (cyI, 20, .inl g0_5)), (o5, .inr (5, [.ref o7, .ref a5_1, .int v5_2, .int v5_3, .int v5_4, .int v5_5, .int (r_31.1), .int (r_31.2.1), .int v5_8, .int v5_9])), (a5_1, .inl (cyI, 400, .inl r_31.2.2))] := hD
        refine lv_iload_n hx hb dX5_begin_171 rfl (lv_at hl 2 rfl) ?_
        refine lv_aload_n hx hb dX5_begin_172 rfl (lv_at hl 1 rfl) ?_
        refine va_getN (D := (dC, dI)) (ci := 0) (v := .ref a0_5) (C := RX0) (T := TX0) (N := 17) hx hb hts i_X5_begin_X0 hown hK hP 0 rfl rfl 5 (by decide) ((hN.1 ("FlowJudge$Places", 67, "FlowJudge$Code", "arguments", "[I") (List.mem_of_getElem? (i := 40) rfl)).use rfl) (fun _ h9 => h9) rfl dX5_begin_173 ?_
        refine lv_iload_n hx hb dX5_begin_176 rfl (lv_at hl 3 rfl) ?_
        obtain ⟨g_32, hf⟩ := x_gu hf
        refine va_iald hx hb hK hP 1 0 rfl rfl (x_gdin g_32) dX5_begin_177 ?_
        obtain ⟨r_33, h_33, hf⟩ := x_bi hf
        have hPc := hP.sub (ws' := []) [] rfl
        refine va_calli (va_runS (As := [.int (g0_5 (Int32.toNatClampNeg l3))]) (rest := [.int l2]) ⟨hx, hb, hml, hown, hts⟩ (c_X7_widthOf l dC dI cyI cyZ cyJ H.size (g0_5 (Int32.toNatClampNeg l3)) r_33 h_33) (va_cwS 1 hts gX5_begin_X7_widthOf rfl rfl rfl (by decide +kernel) ⟨Nat.le_of_ble_eq_true rfl, Nat.le_of_ble_eq_true rfl⟩) (x_pS hN hK hPc) rfl rfl hl.1 rfl (lv_room (Nat.le_of_ble_eq_true rfl)) dX5_begin_178 ⟨Nat.le_of_ble_eq_true rfl, Nat.le_of_ble_eq_true rfl⟩) hS x_nA (x_nf hA hS) (fun q_33 u t H1 locs ht hvm hw hB hz1 hk1 hS => ?_)
        have hP := x_kp hP hk1
        clear ht hvm hB hz1 hk1 t u hPc
        generalize H1 = H at hP hS ⊢
        obtain rfl := hw.symm
        refine lv_iadd hx hb dX5_begin_181 ?_
        refine lv_istore_n (lv' := [(2, .int (l2 + r_33)), (0, .ref o5), (1, .ref o0), (3, .int l3)]) hx hb dX5_begin_182 rfl hl (by decide) rfl (fun ls hl => ?_)
        refine lv_iinc (v := (l3 + 1)) (lv' := [(3, .int (l3 + 1)), (2, .int (l2 + r_33)), (0, .ref o5), (1, .ref o0)]) hx hb dX5_begin_183 hl (k := 3) rfl rfl (by decide) rfl (fun ls hl => ?_)
        refine lv_goto (tgt := 149) hx hb dX5_begin_186 (by decide) ?_
        exact (hWW _ _ _ _ _).mpr ((ih (1, l2 + r_33, l3 + 1, v5_5, r_31.1, r_31.2.1, r_31.2.2) _ hf rfl _ _ _ _ _ _ _ rfl).2 rfl H locs ls hP hD hS (lv_sub hl [2, 3, 1, 0] rfl)))
  refine lv_aload_n hx hb dX5_begin_0 rfl (lv_at hl 0 rfl) ?_
  refine lv_aload_n hx hb dX5_begin_1 rfl (lv_at hl 1 rfl) ?_
  refine va_getN (D := (dC, dI)) (ci := 0) (v := .int v0_3) (C := RX0) (T := TX0) (N := 17) hx hb hts i_X5_begin_X0 hown hK hP 0 rfl rfl 3 (by decide) ((hN.1 ("FlowJudge$Places", 19, "FlowJudge$Code", "locals", "I") (List.mem_of_getElem? (i := 35) rfl)).use rfl) (fun _ h9 => h9) rfl dX5_begin_2 ?_
  refine va_put (D := (dC, dI)) (ci := 5) (v := .int v0_3) (ty := .int) (C := RX5) (T := TX5) (N := 10) hx hb hts i_X5_begin_X5 tyX5 tyX5_ok nmX5 hown hK hP hD hS 2 rfl rfl 2 (by decide) k_1 (fun _ h9 => h9) rfl (by decide +kernel) rfl rfl (Nat.le_of_ble_eq_true rfl) dX5_begin_5 (fun H locs hP hD hS => ?_)
  have hP : va_P (dC, dI) vwCl [(o0, .inr (0, [.int v0_0, .int v0_1, .int v0_2, .int v0_3, .int v0_4, .ref a0_5, .int v0_6, .ref a0_7, .ref a0_8, .ref a0_9, .int v0_10, .ref a0_11, .ref a0_12, .ref a0_13, .ref a0_14, .int v0_15, .ref a0_16])), (a0_5, .inl (cyI, 20, .inl g0_5)), (o5, .inr (5, [.ref o7, .ref a5_1, .int v0_3, .int v5_3, .int v5_4, .int v5_5, .int v5_6, .int v5_7, .int v5_8, .int v5_9])), (a5_1, .inl (cyI, 400, .inl g5_1))] H := hP
  have hD : va_D A [(o0, .inr (0, [.int v0_0, .int v0_1, .int v0_2, .int v0_3, .int v0_4, .ref a0_5, .int v0_6, .ref a0_7, .ref a0_8, .ref a0_9, .int v0_10, .ref a0_11, .ref a0_12, .ref a0_13, .ref a0_14, .int v0_15, .ref a0_16])), (a0_5, .inl (cyI, 20, .inl g0_5)), (o5, .inr (5, [.ref o7, .ref a5_1, .int v0_3, .int v5_3, .int v5_4, .int v5_5, .int v5_6, .int v5_7, .int v5_8, .int v5_9])), (a5_1, .inl (cyI, 400, .inl g5_1))] := hD
  refine lv_aload_n hx hb dX5_begin_8 rfl (lv_at hl 0 rfl) ?_
  refine lv_aload_n hx hb dX5_begin_9 rfl (lv_at hl 1 rfl) ?_
  refine va_getN (D := (dC, dI)) (ci := 0) (v := .int v0_3) (C := RX0) (T := TX0) (N := 17) hx hb hts i_X5_begin_X0 hown hK hP 0 rfl rfl 3 (by decide) ((hN.1 ("FlowJudge$Places", 19, "FlowJudge$Code", "locals", "I") (List.mem_of_getElem? (i := 35) rfl)).use rfl) (fun _ h9 => h9) rfl dX5_begin_10 ?_
  refine lv_aload_n hx hb dX5_begin_13 rfl (lv_at hl 1 rfl) ?_
  refine va_getN (D := (dC, dI)) (ci := 0) (v := .int v0_4) (C := RX0) (T := TX0) (N := 17) hx hb hts i_X5_begin_X0 hown hK hP 0 rfl rfl 4 (by decide) ((hN.1 ("FlowJudge$Places", 26, "FlowJudge$Code", "stack", "I") (List.mem_of_getElem? (i := 36) rfl)).use rfl) (fun _ h9 => h9) rfl dX5_begin_14 ?_
  refine lv_iadd hx hb dX5_begin_17 ?_
  refine va_put (D := (dC, dI)) (ci := 5) (v := .int (v0_3 + v0_4)) (ty := .int) (C := RX5) (T := TX5) (N := 10) hx hb hts i_X5_begin_X5 tyX5 tyX5_ok nmX5 hown hK hP hD hS 2 rfl rfl 4 (by decide) k_4 (fun _ h9 => h9) rfl (by decide +kernel) rfl rfl (Nat.le_of_ble_eq_true rfl) dX5_begin_18 (fun H locs hP hD hS => ?_)
  have hP : va_P (dC, dI) vwCl [(o0, .inr (0, [.int v0_0, .int v0_1, .int v0_2, .int v0_3, .int v0_4, .ref a0_5, .int v0_6, .ref a0_7, .ref a0_8, .ref a0_9, .int v0_10, .ref a0_11, .ref a0_12, .ref a0_13, .ref a0_14, .int v0_15, .ref a0_16])), (a0_5, .inl (cyI, 20, .inl g0_5)), (o5, .inr (5, [.ref o7, .ref a5_1, .int v0_3, .int v5_3, .int (v0_3 + v0_4), .int v5_5, .int v5_6, .int v5_7, .int v5_8, .int v5_9])), (a5_1, .inl (cyI, 400, .inl g5_1))] H := hP
  have hD : va_D A [(o0, .inr (0, [.int v0_0, .int v0_1, .int v0_2, .int v0_3, .int v0_4, .ref a0_5, .int v0_6, .ref a0_7, .ref a0_8, .ref a0_9, .int v0_10, .ref a0_11, .ref a0_12, .ref a0_13, .ref a0_14, .int v0_15, .ref a0_16])), (a0_5, .inl (cyI, 20, .inl g0_5)), (o5, .inr (5, [.ref o7, .ref a5_1, .int v0_3, .int v5_3, .int (v0_3 + v0_4), .int v5_5, .int v5_6, .int v5_7, .int v5_8, .int v5_9])), (a5_1, .inl (cyI, 400, .inl g5_1))] := hD
  refine lv_aload_n hx hb dX5_begin_21 rfl (lv_at hl 0 rfl) ?_
  refine lv_aload_n hx hb dX5_begin_22 rfl (lv_at hl 0 rfl) ?_
  refine va_get (D := (dC, dI)) (ci := 5) (v := .int v0_3) (C := RX5) (T := TX5) (N := 10) hx hb hts i_X5_begin_X5 hown hK hP 2 rfl rfl 2 (by decide) k_1 (fun _ h9 => h9) rfl dX5_begin_23 ?_
  refine va_put (D := (dC, dI)) (ci := 5) (v := .int v0_3) (ty := .int) (C := RX5) (T := TX5) (N := 10) hx hb hts i_X5_begin_X5 tyX5 tyX5_ok nmX5 hown hK hP hD hS 2 rfl rfl 3 (by decide) k_5 (fun _ h9 => h9) rfl (by decide +kernel) rfl rfl (Nat.le_of_ble_eq_true rfl) dX5_begin_26 (fun H locs hP hD hS => ?_)
  have hP : va_P (dC, dI) vwCl [(o0, .inr (0, [.int v0_0, .int v0_1, .int v0_2, .int v0_3, .int v0_4, .ref a0_5, .int v0_6, .ref a0_7, .ref a0_8, .ref a0_9, .int v0_10, .ref a0_11, .ref a0_12, .ref a0_13, .ref a0_14, .int v0_15, .ref a0_16])), (a0_5, .inl (cyI, 20, .inl g0_5)), (o5, .inr (5, [.ref o7, .ref a5_1, .int v0_3, .int v0_3, .int (v0_3 + v0_4), .int v5_5, .int v5_6, .int v5_7, .int v5_8, .int v5_9])), (a5_1, .inl (cyI, 400, .inl g5_1))] H := hP
  have hD : va_D A [(o0, .inr (0, [.int v0_0, .int v0_1, .int v0_2, .int v0_3, .int v0_4, .ref a0_5, .int v0_6, .ref a0_7, .ref a0_8, .ref a0_9, .int v0_10, .ref a0_11, .ref a0_12, .ref a0_13, .ref a0_14, .int v0_15, .ref a0_16])), (a0_5, .inl (cyI, 20, .inl g0_5)), (o5, .inr (5, [.ref o7, .ref a5_1, .int v0_3, .int v0_3, .int (v0_3 + v0_4), .int v5_5, .int v5_6, .int v5_7, .int v5_8, .int v5_9])), (a5_1, .inl (cyI, 400, .inl g5_1))] := hD
  refine lv_aload_n hx hb dX5_begin_29 rfl (lv_at hl 0 rfl) ?_
  refine lv_iconst (v := 0) hx hb dX5_begin_30 (by decide) ?_
  refine va_put (D := (dC, dI)) (ci := 5) (v := .int 0) (ty := .int) (C := RX5) (T := TX5) (N := 10) hx hb hts i_X5_begin_X5 tyX5 tyX5_ok nmX5 hown hK hP hD hS 2 rfl rfl 5 (by decide) k_2 (fun _ h9 => h9) rfl (by decide +kernel) rfl rfl (Nat.le_of_ble_eq_true rfl) dX5_begin_31 (fun H locs hP hD hS => ?_)
  have hP : va_P (dC, dI) vwCl [(o0, .inr (0, [.int v0_0, .int v0_1, .int v0_2, .int v0_3, .int v0_4, .ref a0_5, .int v0_6, .ref a0_7, .ref a0_8, .ref a0_9, .int v0_10, .ref a0_11, .ref a0_12, .ref a0_13, .ref a0_14, .int v0_15, .ref a0_16])), (a0_5, .inl (cyI, 20, .inl g0_5)), (o5, .inr (5, [.ref o7, .ref a5_1, .int v0_3, .int v0_3, .int (v0_3 + v0_4), .int 0, .int v5_6, .int v5_7, .int v5_8, .int v5_9])), (a5_1, .inl (cyI, 400, .inl g5_1))] H := hP
  have hD : va_D A [(o0, .inr (0, [.int v0_0, .int v0_1, .int v0_2, .int v0_3, .int v0_4, .ref a0_5, .int v0_6, .ref a0_7, .ref a0_8, .ref a0_9, .int v0_10, .ref a0_11, .ref a0_12, .ref a0_13, .ref a0_14, .int v0_15, .ref a0_16])), (a0_5, .inl (cyI, 20, .inl g0_5)), (o5, .inr (5, [.ref o7, .ref a5_1, .int v0_3, .int v0_3, .int (v0_3 + v0_4), .int 0, .int v5_6, .int v5_7, .int v5_8, .int v5_9])), (a5_1, .inl (cyI, 400, .inl g5_1))] := hD
  refine lv_aload_n hx hb dX5_begin_34 rfl (lv_at hl 0 rfl) ?_
  refine lv_iconst (v := 0) hx hb dX5_begin_35 (by decide) ?_
  refine va_put (D := (dC, dI)) (ci := 5) (v := .int 0) (ty := .boolean) (C := RX5) (T := TX5) (N := 10) hx hb hts i_X5_begin_X5 tyX5 tyX5_ok nmX5 hown hK hP hD hS 2 rfl rfl 6 (by decide) k_6 (fun _ h9 => h9) rfl (by decide +kernel) rfl rfl (Nat.le_of_ble_eq_true rfl) dX5_begin_36 (fun H locs hP hD hS => ?_)
  have hP : va_P (dC, dI) vwCl [(o0, .inr (0, [.int v0_0, .int v0_1, .int v0_2, .int v0_3, .int v0_4, .ref a0_5, .int v0_6, .ref a0_7, .ref a0_8, .ref a0_9, .int v0_10, .ref a0_11, .ref a0_12, .ref a0_13, .ref a0_14, .int v0_15, .ref a0_16])), (a0_5, .inl (cyI, 20, .inl g0_5)), (o5, .inr (5, [.ref o7, .ref a5_1, .int v0_3, .int v0_3, .int (v0_3 + v0_4), .int 0, .int 0, .int v5_7, .int v5_8, .int v5_9])), (a5_1, .inl (cyI, 400, .inl g5_1))] H := hP
  have hD : va_D A [(o0, .inr (0, [.int v0_0, .int v0_1, .int v0_2, .int v0_3, .int v0_4, .ref a0_5, .int v0_6, .ref a0_7, .ref a0_8, .ref a0_9, .int v0_10, .ref a0_11, .ref a0_12, .ref a0_13, .ref a0_14, .int v0_15, .ref a0_16])), (a0_5, .inl (cyI, 20, .inl g0_5)), (o5, .inr (5, [.ref o7, .ref a5_1, .int v0_3, .int v0_3, .int (v0_3 + v0_4), .int 0, .int 0, .int v5_7, .int v5_8, .int v5_9])), (a5_1, .inl (cyI, 400, .inl g5_1))] := hD
  refine lv_aload_n hx hb dX5_begin_39 rfl (lv_at hl 0 rfl) ?_
  refine lv_iconst (v := 0) hx hb dX5_begin_40 (by decide) ?_
  refine va_put (D := (dC, dI)) (ci := 5) (v := .int 0) (ty := .boolean) (C := RX5) (T := TX5) (N := 10) hx hb hts i_X5_begin_X5 tyX5 tyX5_ok nmX5 hown hK hP hD hS 2 rfl rfl 8 (by decide) k_7 (fun _ h9 => h9) rfl (by decide +kernel) rfl rfl (Nat.le_of_ble_eq_true rfl) dX5_begin_41 (fun H locs hP hD hS => ?_)
  have hP : va_P (dC, dI) vwCl [(o0, .inr (0, [.int v0_0, .int v0_1, .int v0_2, .int v0_3, .int v0_4, .ref a0_5, .int v0_6, .ref a0_7, .ref a0_8, .ref a0_9, .int v0_10, .ref a0_11, .ref a0_12, .ref a0_13, .ref a0_14, .int v0_15, .ref a0_16])), (a0_5, .inl (cyI, 20, .inl g0_5)), (o5, .inr (5, [.ref o7, .ref a5_1, .int v0_3, .int v0_3, .int (v0_3 + v0_4), .int 0, .int 0, .int v5_7, .int 0, .int v5_9])), (a5_1, .inl (cyI, 400, .inl g5_1))] H := hP
  have hD : va_D A [(o0, .inr (0, [.int v0_0, .int v0_1, .int v0_2, .int v0_3, .int v0_4, .ref a0_5, .int v0_6, .ref a0_7, .ref a0_8, .ref a0_9, .int v0_10, .ref a0_11, .ref a0_12, .ref a0_13, .ref a0_14, .int v0_15, .ref a0_16])), (a0_5, .inl (cyI, 20, .inl g0_5)), (o5, .inr (5, [.ref o7, .ref a5_1, .int v0_3, .int v0_3, .int (v0_3 + v0_4), .int 0, .int 0, .int v5_7, .int 0, .int v5_9])), (a5_1, .inl (cyI, 400, .inl g5_1))] := hD
  refine lv_aload_n hx hb dX5_begin_44 rfl (lv_at hl 0 rfl) ?_
  refine lv_iconst (v := 0) hx hb dX5_begin_45 (by decide) ?_
  refine va_put (D := (dC, dI)) (ci := 5) (v := .int 0) (ty := .boolean) (C := RX5) (T := TX5) (N := 10) hx hb hts i_X5_begin_X5 tyX5 tyX5_ok nmX5 hown hK hP hD hS 2 rfl rfl 9 (by decide) k_8 (fun _ h9 => h9) rfl (by decide +kernel) rfl rfl (Nat.le_of_ble_eq_true rfl) dX5_begin_46 (fun H locs hP hD hS => ?_)
  have hP : va_P (dC, dI) vwCl [(o0, .inr (0, [.int v0_0, .int v0_1, .int v0_2, .int v0_3, .int v0_4, .ref a0_5, .int v0_6, .ref a0_7, .ref a0_8, .ref a0_9, .int v0_10, .ref a0_11, .ref a0_12, .ref a0_13, .ref a0_14, .int v0_15, .ref a0_16])), (a0_5, .inl (cyI, 20, .inl g0_5)), (o5, .inr (5, [.ref o7, .ref a5_1, .int v0_3, .int v0_3, .int (v0_3 + v0_4), .int 0, .int 0, .int v5_7, .int 0, .int 0])), (a5_1, .inl (cyI, 400, .inl g5_1))] H := hP
  have hD : va_D A [(o0, .inr (0, [.int v0_0, .int v0_1, .int v0_2, .int v0_3, .int v0_4, .ref a0_5, .int v0_6, .ref a0_7, .ref a0_8, .ref a0_9, .int v0_10, .ref a0_11, .ref a0_12, .ref a0_13, .ref a0_14, .int v0_15, .ref a0_16])), (a0_5, .inl (cyI, 20, .inl g0_5)), (o5, .inr (5, [.ref o7, .ref a5_1, .int v0_3, .int v0_3, .int (v0_3 + v0_4), .int 0, .int 0, .int v5_7, .int 0, .int 0])), (a5_1, .inl (cyI, 400, .inl g5_1))] := hD
  refine lv_iconst (v := 0) hx hb dX5_begin_49 (by decide) ?_
  refine lv_istore_n (lv' := [(2, .int 0), (0, .ref o5), (1, .ref o0)]) hx hb dX5_begin_50 rfl hl (by decide) rfl (fun ls hl => ?_)
  exact (hWW _ _ _ _ _).mpr ((J v0_3 v0_3 (v0_3 + v0_4) 0 0 (0, 0, 0, 0, 0, v5_7, g5_1) _ hf rfl _ _ _ _ _ _ _ rfl).1 rfl H locs ls hP hD hS (lv_sub hl [1, 2, 0] rfl))

def f_X5_bring (v3_3 : Int32) (g3_5 : Nat → Int32) (n3_5 : Nat) (g3_8 : Nat → Int32) (n3_8 : Nat) (g3_9 : Nat → Int32) (n3_9 : Nat) (v5_2 : Int32) (v5_3 : Int32) (v5_5 : Int32) (v5_7 : Int32) (g5_1 : Nat → Int32) (p2 : Int32) : Option (Int32 × Int32 × Int32 × (Nat → Int32)) := if x_gd p2 n3_8 = true then if x_gd p2 n3_9 = true then if x_cg (p2 * v3_3) 0 (v5_2 + (g3_8 (Int32.toNatClampNeg p2))) n3_5 400 = true then (some (v5_2 + (g3_8 (Int32.toNatClampNeg p2)), g3_9 (Int32.toNatClampNeg p2), 1, va_cpy g3_5 g5_1 (Int32.toNatClampNeg (p2 * v3_3)) (Int32.toNatClampNeg 0) (Int32.toNatClampNeg (v5_2 + (g3_8 (Int32.toNatClampNeg p2)))))) else none else none else none
theorem i_X5_bring_X3 : ∀ w ∈ wsX30, w ∈ wsX5_bring := fun _ h => List.mem_cons_of_mem _ (List.mem_append_right _ h)
theorem i_X5_bring_X5 : ∀ w ∈ wsX50, w ∈ wsX5_bring := fun _ h => List.mem_cons_of_mem _ (List.mem_append_left _ (List.mem_append_right _ h))
set_option maxHeartbeats 4000000 in
set_option maxRecDepth 100000 in
theorem c_X5_bring (l : Launch) (dC : Nat → ClassId) (dI : Nat → Nat → Nat) (cyI cyZ cyJ : ClassId) (sz : Nat) (o3 : Nat) (o7 : Nat) (o1 : Nat) (v3_2 : Int32) (v3_3 : Int32) (v3_4 : Int32) (a3_5 : Nat) (a3_6 : Nat) (a3_7 : Nat) (a3_8 : Nat) (a3_9 : Nat) (a3_10 : Nat) (a3_11 : Nat) (a3_12 : Nat) (v3_13 : Int32) (v3_14 : Int32) (a3_15 : Nat) (a3_16 : Nat) (g3_5 : Nat → Int32) (n3_5 : Nat) (g3_8 : Nat → Int32) (n3_8 : Nat) (g3_9 : Nat → Int32) (n3_9 : Nat) (o5 : Nat) (a5_1 : Nat) (v5_2 : Int32) (v5_3 : Int32) (v5_4 : Int32) (v5_5 : Int32) (v5_6 : Int32) (v5_7 : Int32) (v5_8 : Int32) (v5_9 : Int32) (g5_1 : Nat → Int32) (p2 : Int32) (R : Int32 × Int32 × Int32 × (Nat → Int32)) (hf : f_X5_bring v3_3 g3_5 n3_5 g3_8 n3_8 g3_9 n3_9 v5_2 v5_3 v5_5 v5_7 g5_1 p2 = some R) : Met l yX5_bring wsX5_bring ({ frames := 1, cells := 0, slots := 0, locals := 40 }) (va_Pc [.ref o5, .ref o3, .int p2] (x_PreD (dC, dI) (x_T cyI cyZ cyJ) [(o3, .inr (3, [.ref o7, .ref o1, .int v3_2, .int v3_3, .int v3_4, .ref a3_5, .ref a3_6, .ref a3_7, .ref a3_8, .ref a3_9, .ref a3_10, .ref a3_11, .ref a3_12, .int v3_13, .int v3_14, .ref a3_15, .ref a3_16])), (a3_5, .inl (cyI, n3_5, .inl g3_5)), (a3_8, .inl (cyI, n3_8, .inl g3_8)), (a3_9, .inl (cyI, n3_9, .inl g3_9)), (o5, .inr (5, [.ref o7, .ref a5_1, .int v5_2, .int v5_3, .int v5_4, .int v5_5, .int v5_6, .int v5_7, .int v5_8, .int v5_9])), (a5_1, .inl (cyI, 400, .inl g5_1))] sz)) (va_Qv (fun _ : Unit => True) (fun (_ : Unit) (t : State) => va_P (dC, dI) vwCl [(o3, .inr (3, [.ref o7, .ref o1, .int v3_2, .int v3_3, .int v3_4, .ref a3_5, .ref a3_6, .ref a3_7, .ref a3_8, .ref a3_9, .ref a3_10, .ref a3_11, .ref a3_12, .int v3_13, .int v3_14, .ref a3_15, .ref a3_16])), (a3_5, .inl (cyI, n3_5, .inl g3_5)), (a3_8, .inl (cyI, n3_8, .inl g3_8)), (a3_9, .inl (cyI, n3_9, .inl g3_9)), (o5, .inr (5, [.ref o7, .ref a5_1, .int v5_2, .int (R.1), .int v5_4, .int (R.2.1), .int v5_6, .int (R.2.2.1), .int v5_8, .int v5_9])), (a5_1, .inl (cyI, 400, .inl R.2.2.2))] t.heap ∧ va_K (dC, dI) vwCl (x_T cyI cyZ cyJ) t ∧ va_D (va_A [(o3, .inr (3, [.ref o7, .ref o1, .int v3_2, .int v3_3, .int v3_4, .ref a3_5, .ref a3_6, .ref a3_7, .ref a3_8, .ref a3_9, .ref a3_10, .ref a3_11, .ref a3_12, .int v3_13, .int v3_14, .ref a3_15, .ref a3_16])), (a3_5, .inl (cyI, n3_5, .inl g3_5)), (a3_8, .inl (cyI, n3_8, .inl g3_8)), (a3_9, .inl (cyI, n3_9, .inl g3_9)), (o5, .inr (5, [.ref o7, .ref a5_1, .int v5_2, .int v5_3, .int v5_4, .int v5_5, .int v5_6, .int v5_7, .int v5_8, .int v5_9])), (a5_1, .inl (cyI, 400, .inl g5_1))] sz) [(o3, .inr (3, [.ref o7, .ref o1, .int v3_2, .int v3_3, .int v3_4, .ref a3_5, .ref a3_6, .ref a3_7, .ref a3_8, .ref a3_9, .ref a3_10, .ref a3_11, .ref a3_12, .int v3_13, .int v3_14, .ref a3_15, .ref a3_16])), (a3_5, .inl (cyI, n3_5, .inl g3_5)), (a3_8, .inl (cyI, n3_8, .inl g3_8)), (a3_9, .inl (cyI, n3_9, .inl g3_9)), (o5, .inr (5, [.ref o7, .ref a5_1, .int v5_2, .int (R.1), .int v5_4, .int (R.2.1), .int v5_6, .int (R.2.2.1), .int v5_8, .int v5_9])), (a5_1, .inl (cyI, 400, .inl R.2.2.2))]) (va_A [(o3, .inr (3, [.ref o7, .ref o1, .int v3_2, .int v3_3, .int v3_4, .ref a3_5, .ref a3_6, .ref a3_7, .ref a3_8, .ref a3_9, .ref a3_10, .ref a3_11, .ref a3_12, .int v3_13, .int v3_14, .ref a3_15, .ref a3_16])), (a3_5, .inl (cyI, n3_5, .inl g3_5)), (a3_8, .inl (cyI, n3_8, .inl g3_8)), (a3_9, .inl (cyI, n3_9, .inl g3_9)), (o5, .inr (5, [.ref o7, .ref a5_1, .int v5_2, .int v5_3, .int v5_4, .int v5_5, .int v5_6, .int v5_7, .int v5_8, .int v5_9])), (a5_1, .inl (cyI, 400, .inl g5_1))] sz)) 0 0 (va_A [(o3, .inr (3, [.ref o7, .ref o1, .int v3_2, .int v3_3, .int v3_4, .ref a3_5, .ref a3_6, .ref a3_7, .ref a3_8, .ref a3_9, .ref a3_10, .ref a3_11, .ref a3_12, .int v3_13, .int v3_14, .ref a3_15, .ref a3_16])), (a3_5, .inl (cyI, n3_5, .inl g3_5)), (a3_8, .inl (cyI, n3_8, .inl g3_8)), (a3_9, .inl (cyI, n3_9, .inl g3_9)), (o5, .inr (5, [.ref o7, .ref a5_1, .int v5_2, .int v5_3, .int v5_4, .int v5_5, .int v5_6, .int v5_7, .int v5_8, .int v5_9])), (a5_1, .inl (cyI, 400, .inl g5_1))] sz) := by
  refine Met.ofW (cc := cX5_bring) (maxL := 3) (ret := none) (by decide) rfl ?_
  intro p e s m args below meth c s₁ B hml hv
  obtain ⟨rfl, ⟨hsz, hP, hK, hN⟩, hD0⟩ := hv
  have hx := B.exec
  have hb := B.bytes
  have hr := B.returns
  have hts := atoms_spec (ws := wsX5_bring) B.pre
  have hown : s.vm.findClass RX5 = some m.cls := findClass_of_methodNamed B.named
  have k_1 := hts (.fieldLink RX5 25 "FlowJudge$Places" "locals" "I") (by decide +kernel)
  have k_2 := hts (.fieldLink RX5 32 "FlowJudge$Places" "top" "I") (by decide +kernel)
  have k_3 := hts (.fieldLink RX5 35 "FlowJudge$Places" "made" "I") (by decide +kernel)
  have k_4 := hts (.fieldLink RX5 80 "FlowJudge$Places" "moved" "Z") (by decide +kernel)
  have k_5 := hts (.fieldLink RX5 9 "FlowJudge$Places" "cells" "[I") (by decide +kernel)
  have k_6 := hts (.methodLink RX5 89 arraycopyName) (by decide +kernel)
  have k_7 := hts (.native arraycopyName) (by decide +kernel)
  have k_8 := hts (.static arraycopyName) (by decide +kernel)
  have k_9 := hts (.initialized "java/lang/System") (by decide +kernel)
  subst hsz
  have hD := hD0.self (sz := s.heap.size)
  generalize hAe : va_A [(o3, .inr (3, [.ref o7, .ref o1, .int v3_2, .int v3_3, .int v3_4, .ref a3_5, .ref a3_6, .ref a3_7, .ref a3_8, .ref a3_9, .ref a3_10, .ref a3_11, .ref a3_12, .int v3_13, .int v3_14, .ref a3_15, .ref a3_16])), (a3_5, .inl (cyI, n3_5, .inl g3_5)), (a3_8, .inl (cyI, n3_8, .inl g3_8)), (a3_9, .inl (cyI, n3_9, .inl g3_9)), (o5, .inr (5, [.ref o7, .ref a5_1, .int v5_2, .int v5_3, .int v5_4, .int v5_5, .int v5_6, .int v5_7, .int v5_8, .int v5_9])), (a5_1, .inl (cyI, 400, .inl g5_1))] s.heap.size = A at hD ⊢
  have hA : ∀ q : Nat, s.heap.size ≤ q → A q := fun q h => by rw [← hAe]; exact Or.inr h
  have hP : va_P (dC, dI) vwCl [(o3, .inr (3, [.ref o7, .ref o1, .int v3_2, .int v3_3, .int v3_4, .ref a3_5, .ref a3_6, .ref a3_7, .ref a3_8, .ref a3_9, .ref a3_10, .ref a3_11, .ref a3_12, .int v3_13, .int v3_14, .ref a3_15, .ref a3_16])), (a3_5, .inl (cyI, n3_5, .inl g3_5)), (a3_8, .inl (cyI, n3_8, .inl g3_8)), (a3_9, .inl (cyI, n3_9, .inl g3_9)), (o5, .inr (5, [.ref o7, .ref a5_1, .int v5_2, .int v5_3, .int v5_4, .int v5_5, .int v5_6, .int v5_7, .int v5_8, .int v5_9])), (a5_1, .inl (cyI, 400, .inl g5_1))] s.heap := hP
  have hl := lv_entry ([.ref o5, .ref o3, .int p2]) (n := 3) (Nat.le_of_ble_eq_true rfl)
  rw [lg_entry_eq]
  generalize (lg_sl ([.ref o5, .ref o3, .int p2]) ++ List.replicate (3 - (lg_sl ([.ref o5, .ref o3, .int p2])).length) Slot.unset).toArray = ls at hl ⊢
  have hl : lv_has ls 3 [(0, .ref o5), (1, .ref o3), (2, .int p2)] := hl
  obtain ⟨H, hH⟩ : ∃ z, z = s.heap := ⟨_, rfl⟩
  refine x_here hH ?_
  have hP : va_P (dC, dI) vwCl [(o3, .inr (3, [.ref o7, .ref o1, .int v3_2, .int v3_3, .int v3_4, .ref a3_5, .ref a3_6, .ref a3_7, .ref a3_8, .ref a3_9, .ref a3_10, .ref a3_11, .ref a3_12, .int v3_13, .int v3_14, .ref a3_15, .ref a3_16])), (a3_5, .inl (cyI, n3_5, .inl g3_5)), (a3_8, .inl (cyI, n3_8, .inl g3_8)), (a3_9, .inl (cyI, n3_9, .inl g3_9)), (o5, .inr (5, [.ref o7, .ref a5_1, .int v5_2, .int v5_3, .int v5_4, .int v5_5, .int v5_6, .int v5_7, .int v5_8, .int v5_9])), (a5_1, .inl (cyI, 400, .inl g5_1))] H := by rw [hH]; exact hP
  have hS : va_S A s.heap H [] := by rw [hH]; exact va_S.rf
  clear hH
  obtain ⟨locs, hlo⟩ : ∃ z : List Loc, z = [] := ⟨_, rfl⟩
  refine x_herl hlo ?_
  have hS : va_S A s.heap H locs := by rw [hlo]; exact hS
  clear hlo
  unfold f_X5_bring at hf
  refine lv_aload_n hx hb dX5_bring_0 rfl (lv_at hl 0 rfl) ?_
  refine lv_aload_n hx hb dX5_bring_1 rfl (lv_at hl 0 rfl) ?_
  refine va_get (D := (dC, dI)) (ci := 5) (v := .int v5_2) (C := RX5) (T := TX5) (N := 10) hx hb hts i_X5_bring_X5 hown hK hP 4 rfl rfl 2 (by decide) k_1 (fun _ h9 => h9) rfl dX5_bring_2 ?_
  refine lv_aload_n hx hb dX5_bring_5 rfl (lv_at hl 1 rfl) ?_
  refine va_getN (D := (dC, dI)) (ci := 3) (v := .ref a3_8) (C := RX3) (T := TX3) (N := 17) hx hb hts i_X5_bring_X3 hown hK hP 0 rfl rfl 8 (by decide) ((hN.1 ("FlowJudge$Places", 73, "FlowJudge$Frames", "heights", "[I") (List.mem_of_getElem? (i := 41) rfl)).use rfl) (fun _ h9 => h9) rfl dX5_bring_6 ?_
  refine lv_iload_n hx hb dX5_bring_9 rfl (lv_at hl 2 rfl) ?_
  obtain ⟨g_1, hf⟩ := x_gu hf
  refine va_iald hx hb hK hP 2 0 rfl rfl (x_gdin g_1) dX5_bring_10 ?_
  refine lv_iadd hx hb dX5_bring_11 ?_
  refine va_put (D := (dC, dI)) (ci := 5) (v := .int (v5_2 + (g3_8 (Int32.toNatClampNeg p2)))) (ty := .int) (C := RX5) (T := TX5) (N := 10) hx hb hts i_X5_bring_X5 tyX5 tyX5_ok nmX5 hown hK hP hD hS 4 rfl rfl 3 (by decide) k_2 (fun _ h9 => h9) rfl (by decide +kernel) rfl rfl (Nat.le_of_ble_eq_true rfl) dX5_bring_12 (fun H locs hP hD hS => ?_)
  have hP : va_P (dC, dI) vwCl [(o3, .inr (3, [.ref o7, .ref o1, .int v3_2, .int v3_3, .int v3_4, .ref a3_5, .ref a3_6, .ref a3_7, .ref a3_8, .ref a3_9, .ref a3_10, .ref a3_11, .ref a3_12, .int v3_13, .int v3_14, .ref a3_15, .ref a3_16])), (a3_5, .inl (cyI, n3_5, .inl g3_5)), (a3_8, .inl (cyI, n3_8, .inl g3_8)), (a3_9, .inl (cyI, n3_9, .inl g3_9)), (o5, .inr (5, [.ref o7, .ref a5_1, .int v5_2, .int (v5_2 + (g3_8 (Int32.toNatClampNeg p2))), .int v5_4, .int v5_5, .int v5_6, .int v5_7, .int v5_8, .int v5_9])), (a5_1, .inl (cyI, 400, .inl g5_1))] H := hP
  have hD : va_D A [(o3, .inr (3, [.ref o7, .ref o1, .int v3_2, .int v3_3, .int v3_4, .ref a3_5, .ref a3_6, .ref a3_7, .ref a3_8, .ref a3_9, .ref a3_10, .ref a3_11, .ref a3_12, .int v3_13, .int v3_14, .ref a3_15, .ref a3_16])), (a3_5, .inl (cyI, n3_5, .inl g3_5)), (a3_8, .inl (cyI, n3_8, .inl g3_8)), (a3_9, .inl (cyI, n3_9, .inl g3_9)), (o5, .inr (5, [.ref o7, .ref a5_1, .int v5_2, .int (v5_2 + (g3_8 (Int32.toNatClampNeg p2))), .int v5_4, .int v5_5, .int v5_6, .int v5_7, .int v5_8, .int v5_9])), (a5_1, .inl (cyI, 400, .inl g5_1))] := hD
  refine lv_aload_n hx hb dX5_bring_15 rfl (lv_at hl 0 rfl) ?_
  refine lv_aload_n hx hb dX5_bring_16 rfl (lv_at hl 1 rfl) ?_
  refine va_getN (D := (dC, dI)) (ci := 3) (v := .ref a3_9) (C := RX3) (T := TX3) (N := 17) hx hb hts i_X5_bring_X3 hown hK hP 0 rfl rfl 9 (by decide) ((hN.1 ("FlowJudge$Places", 78, "FlowJudge$Frames", "made", "[I") (List.mem_of_getElem? (i := 42) rfl)).use rfl) (fun _ h9 => h9) rfl dX5_bring_17 ?_
  refine lv_iload_n hx hb dX5_bring_20 rfl (lv_at hl 2 rfl) ?_
  obtain ⟨g_2, hf⟩ := x_gu hf
  refine va_iald hx hb hK hP 3 0 rfl rfl (x_gdin g_2) dX5_bring_21 ?_
  refine va_put (D := (dC, dI)) (ci := 5) (v := .int (g3_9 (Int32.toNatClampNeg p2))) (ty := .int) (C := RX5) (T := TX5) (N := 10) hx hb hts i_X5_bring_X5 tyX5 tyX5_ok nmX5 hown hK hP hD hS 4 rfl rfl 5 (by decide) k_3 (fun _ h9 => h9) rfl (by decide +kernel) rfl rfl (Nat.le_of_ble_eq_true rfl) dX5_bring_22 (fun H locs hP hD hS => ?_)
  have hP : va_P (dC, dI) vwCl [(o3, .inr (3, [.ref o7, .ref o1, .int v3_2, .int v3_3, .int v3_4, .ref a3_5, .ref a3_6, .ref a3_7, .ref a3_8, .ref a3_9, .ref a3_10, .ref a3_11, .ref a3_12, .int v3_13, .int v3_14, .ref a3_15, .ref a3_16])), (a3_5, .inl (cyI, n3_5, .inl g3_5)), (a3_8, .inl (cyI, n3_8, .inl g3_8)), (a3_9, .inl (cyI, n3_9, .inl g3_9)), (o5, .inr (5, [.ref o7, .ref a5_1, .int v5_2, .int (v5_2 + (g3_8 (Int32.toNatClampNeg p2))), .int v5_4, .int (g3_9 (Int32.toNatClampNeg p2)), .int v5_6, .int v5_7, .int v5_8, .int v5_9])), (a5_1, .inl (cyI, 400, .inl g5_1))] H := hP
  have hD : va_D A [(o3, .inr (3, [.ref o7, .ref o1, .int v3_2, .int v3_3, .int v3_4, .ref a3_5, .ref a3_6, .ref a3_7, .ref a3_8, .ref a3_9, .ref a3_10, .ref a3_11, .ref a3_12, .int v3_13, .int v3_14, .ref a3_15, .ref a3_16])), (a3_5, .inl (cyI, n3_5, .inl g3_5)), (a3_8, .inl (cyI, n3_8, .inl g3_8)), (a3_9, .inl (cyI, n3_9, .inl g3_9)), (o5, .inr (5, [.ref o7, .ref a5_1, .int v5_2, .int (v5_2 + (g3_8 (Int32.toNatClampNeg p2))), .int v5_4, .int (g3_9 (Int32.toNatClampNeg p2)), .int v5_6, .int v5_7, .int v5_8, .int v5_9])), (a5_1, .inl (cyI, 400, .inl g5_1))] := hD
  refine lv_aload_n hx hb dX5_bring_25 rfl (lv_at hl 0 rfl) ?_
  refine lv_iconst (v := 1) hx hb dX5_bring_26 (by decide) ?_
  refine va_put (D := (dC, dI)) (ci := 5) (v := .int 1) (ty := .boolean) (C := RX5) (T := TX5) (N := 10) hx hb hts i_X5_bring_X5 tyX5 tyX5_ok nmX5 hown hK hP hD hS 4 rfl rfl 7 (by decide) k_4 (fun _ h9 => h9) rfl (by decide +kernel) rfl rfl (Nat.le_of_ble_eq_true rfl) dX5_bring_27 (fun H locs hP hD hS => ?_)
  have hP : va_P (dC, dI) vwCl [(o3, .inr (3, [.ref o7, .ref o1, .int v3_2, .int v3_3, .int v3_4, .ref a3_5, .ref a3_6, .ref a3_7, .ref a3_8, .ref a3_9, .ref a3_10, .ref a3_11, .ref a3_12, .int v3_13, .int v3_14, .ref a3_15, .ref a3_16])), (a3_5, .inl (cyI, n3_5, .inl g3_5)), (a3_8, .inl (cyI, n3_8, .inl g3_8)), (a3_9, .inl (cyI, n3_9, .inl g3_9)), (o5, .inr (5, [.ref o7, .ref a5_1, .int v5_2, .int (v5_2 + (g3_8 (Int32.toNatClampNeg p2))), .int v5_4, .int (g3_9 (Int32.toNatClampNeg p2)), .int v5_6, .int 1, .int v5_8, .int v5_9])), (a5_1, .inl (cyI, 400, .inl g5_1))] H := hP
  have hD : va_D A [(o3, .inr (3, [.ref o7, .ref o1, .int v3_2, .int v3_3, .int v3_4, .ref a3_5, .ref a3_6, .ref a3_7, .ref a3_8, .ref a3_9, .ref a3_10, .ref a3_11, .ref a3_12, .int v3_13, .int v3_14, .ref a3_15, .ref a3_16])), (a3_5, .inl (cyI, n3_5, .inl g3_5)), (a3_8, .inl (cyI, n3_8, .inl g3_8)), (a3_9, .inl (cyI, n3_9, .inl g3_9)), (o5, .inr (5, [.ref o7, .ref a5_1, .int v5_2, .int (v5_2 + (g3_8 (Int32.toNatClampNeg p2))), .int v5_4, .int (g3_9 (Int32.toNatClampNeg p2)), .int v5_6, .int 1, .int v5_8, .int v5_9])), (a5_1, .inl (cyI, 400, .inl g5_1))] := hD
  refine lv_aload_n hx hb dX5_bring_30 rfl (lv_at hl 1 rfl) ?_
  refine va_getN (D := (dC, dI)) (ci := 3) (v := .ref a3_5) (C := RX3) (T := TX3) (N := 17) hx hb hts i_X5_bring_X3 hown hK hP 0 rfl rfl 5 (by decide) ((hN.1 ("FlowJudge$Places", 83, "FlowJudge$Frames", "words", "[I") (List.mem_of_getElem? (i := 43) rfl)).use rfl) (fun _ h9 => h9) rfl dX5_bring_31 ?_
  refine lv_iload_n hx hb dX5_bring_34 rfl (lv_at hl 2 rfl) ?_
  refine lv_aload_n hx hb dX5_bring_35 rfl (lv_at hl 1 rfl) ?_
  refine va_getN (D := (dC, dI)) (ci := 3) (v := .int v3_3) (C := RX3) (T := TX3) (N := 17) hx hb hts i_X5_bring_X3 hown hK hP 0 rfl rfl 3 (by decide) ((hN.1 ("FlowJudge$Places", 86, "FlowJudge$Frames", "size", "I") (List.mem_of_getElem? (i := 44) rfl)).use rfl) (fun _ h9 => h9) rfl dX5_bring_36 ?_
  refine lv_imul hx hb dX5_bring_39 ?_
  refine lv_aload_n hx hb dX5_bring_40 rfl (lv_at hl 0 rfl) ?_
  refine va_get (D := (dC, dI)) (ci := 5) (v := .ref a5_1) (C := RX5) (T := TX5) (N := 10) hx hb hts i_X5_bring_X5 hown hK hP 4 rfl rfl 1 (by decide) k_5 (fun _ h9 => h9) rfl dX5_bring_41 ?_
  refine lv_iconst (v := 0) hx hb dX5_bring_44 (by decide) ?_
  refine lv_aload_n hx hb dX5_bring_45 rfl (lv_at hl 0 rfl) ?_
  refine va_get (D := (dC, dI)) (ci := 5) (v := .int (v5_2 + (g3_8 (Int32.toNatClampNeg p2)))) (C := RX5) (T := TX5) (N := 10) hx hb hts i_X5_bring_X5 hown hK hP 4 rfl rfl 3 (by decide) k_2 (fun _ h9 => h9) rfl dX5_bring_46 ?_
  obtain ⟨g_3, hf⟩ := x_gu hf
  refine va_copyi hx hb (hml.trans hl.1.symm) hown k_6 k_7 k_8 k_9 hK hP hD hS 1 5 0 0 rfl rfl rfl rfl rfl (x_cg1 g_3) (x_cg2 g_3) (x_cg3 g_3) (x_cg4 g_3) (x_cg5 g_3) (fun _ _ => rfl) (Nat.le_of_ble_eq_true rfl) (Nat.le_of_ble_eq_true rfl) dX5_bring_49 (fun H locs hP hD hS => ?_)
  have hP : va_P (dC, dI) vwCl [(o3, .inr (3, [.ref o7, .ref o1, .int v3_2, .int v3_3, .int v3_4, .ref a3_5, .ref a3_6, .ref a3_7, .ref a3_8, .ref a3_9, .ref a3_10, .ref a3_11, .ref a3_12, .int v3_13, .int v3_14, .ref a3_15, .ref a3_16])), (a3_5, .inl (cyI, n3_5, .inl g3_5)), (a3_8, .inl (cyI, n3_8, .inl g3_8)), (a3_9, .inl (cyI, n3_9, .inl g3_9)), (o5, .inr (5, [.ref o7, .ref a5_1, .int v5_2, .int (v5_2 + (g3_8 (Int32.toNatClampNeg p2))), .int v5_4, .int (g3_9 (Int32.toNatClampNeg p2)), .int v5_6, .int 1, .int v5_8, .int v5_9])), (a5_1, .inl (cyI, 400, .inl (va_cpy g3_5 g5_1 (Int32.toNatClampNeg (p2 * v3_3)) (Int32.toNatClampNeg 0) (Int32.toNatClampNeg (v5_2 + (g3_8 (Int32.toNatClampNeg p2)))))))] H := hP
  have hD : va_D A [(o3, .inr (3, [.ref o7, .ref o1, .int v3_2, .int v3_3, .int v3_4, .ref a3_5, .ref a3_6, .ref a3_7, .ref a3_8, .ref a3_9, .ref a3_10, .ref a3_11, .ref a3_12, .int v3_13, .int v3_14, .ref a3_15, .ref a3_16])), (a3_5, .inl (cyI, n3_5, .inl g3_5)), (a3_8, .inl (cyI, n3_8, .inl g3_8)), (a3_9, .inl (cyI, n3_9, .inl g3_9)), (o5, .inr (5, [.ref o7, .ref a5_1, .int v5_2, .int (v5_2 + (g3_8 (Int32.toNatClampNeg p2))), .int v5_4, .int (g3_9 (Int32.toNatClampNeg p2)), .int v5_6, .int 1, .int v5_8, .int v5_9])), (a5_1, .inl (cyI, 400, .inl (va_cpy g3_5 g5_1 (Int32.toNatClampNeg (p2 * v3_3)) (Int32.toNatClampNeg 0) (Int32.toNatClampNeg (v5_2 + (g3_8 (Int32.toNatClampNeg p2)))))))] := hD
  obtain rfl := Option.some.inj hf
  have hP9 := hP.sub (ws' := [(o3, .inr (3, [.ref o7, .ref o1, .int v3_2, .int v3_3, .int v3_4, .ref a3_5, .ref a3_6, .ref a3_7, .ref a3_8, .ref a3_9, .ref a3_10, .ref a3_11, .ref a3_12, .int v3_13, .int v3_14, .ref a3_15, .ref a3_16])), (a3_5, .inl (cyI, n3_5, .inl g3_5)), (a3_8, .inl (cyI, n3_8, .inl g3_8)), (a3_9, .inl (cyI, n3_9, .inl g3_9)), (o5, .inr (5, [.ref o7, .ref a5_1, .int v5_2, .int (v5_2 + (g3_8 (Int32.toNatClampNeg p2))), .int v5_4, .int (g3_9 (Int32.toNatClampNeg p2)), .int v5_6, .int 1, .int v5_8, .int v5_9])), (a5_1, .inl (cyI, 400, .inl (va_cpy g3_5 g5_1 (Int32.toNatClampNeg (p2 * v3_3)) (Int32.toNatClampNeg 0) (Int32.toNatClampNeg (v5_2 + (g3_8 (Int32.toNatClampNeg p2)))))))]) [0, 1, 2, 3, 4, 5] rfl
  have hD9 := hD.sub (ws' := [(o3, .inr (3, [.ref o7, .ref o1, .int v3_2, .int v3_3, .int v3_4, .ref a3_5, .ref a3_6, .ref a3_7, .ref a3_8, .ref a3_9, .ref a3_10, .ref a3_11, .ref a3_12, .int v3_13, .int v3_14, .ref a3_15, .ref a3_16])), (a3_5, .inl (cyI, n3_5, .inl g3_5)), (a3_8, .inl (cyI, n3_8, .inl g3_8)), (a3_9, .inl (cyI, n3_9, .inl g3_9)), (o5, .inr (5, [.ref o7, .ref a5_1, .int v5_2, .int (v5_2 + (g3_8 (Int32.toNatClampNeg p2))), .int v5_4, .int (g3_9 (Int32.toNatClampNeg p2)), .int v5_6, .int 1, .int v5_8, .int v5_9])), (a5_1, .inl (cyI, 400, .inl (va_cpy g3_5 g5_1 (Int32.toNatClampNeg (p2 * v3_3)) (Int32.toNatClampNeg 0) (Int32.toNatClampNeg (v5_2 + (g3_8 (Int32.toNatClampNeg p2)))))))]) [0, 1, 2, 3, 4, 5] (by decide) rfl
  exact W.vret hx hb hr (fun t ht hW => ⟨⟨(), rfl, trivial, by rw [ht]; exact hP9, va_K.moved hW.alike hK, hD9⟩, hS.F ht⟩) hS.2.2 dX5_bring_52

def f_X6_pushConstant (v5_3 : Int32) (v5_4 : Int32) (v5_6 : Int32) (g5_1 : Nat → Int32) (p1 : Int32) (p2 : Int32) : Option (Int32 × Int32 × (Nat → Int32)) := if p1 ≤ (17 : Int32) then if p1 ≤ (15 : Int32) then if p1 ≤ (0 : Int32) then some (v5_3, v5_6, g5_1) else if x_gd p1 16 = true then (f_X5_push v5_3 v5_4 v5_6 g5_1 (x_st1 (Int32.toNatClampNeg p1))) >>= (fun r_6 => some (r_6.1, r_6.2.1, r_6.2.2)) else none else (f_X5_push v5_3 v5_4 v5_6 g5_1 1) >>= (fun r_7 => some (r_7.1, r_7.2.1, r_7.2.2)) else (f_X5_pushType v5_3 v5_4 v5_6 g5_1 p2) >>= (fun r_8 => some (r_8.1, r_8.2.1, r_8.2.2))
theorem i_X6_pushConstant_X6 : ∀ w ∈ wsX60, w ∈ wsX6_pushConstant := fun _ h => List.mem_cons_of_mem _ (List.mem_append_left _ (List.mem_append_right _ h))
set_option maxHeartbeats 4000000 in
set_option maxRecDepth 100000 in
theorem c_X6_pushConstant (l : Launch) (dC : Nat → ClassId) (dI : Nat → Nat → Nat) (cyI cyZ cyJ : ClassId) (sz : Nat) (base : Nat) (o5 : Nat) (o7 : Nat) (a5_1 : Nat) (v5_2 : Int32) (v5_3 : Int32) (v5_4 : Int32) (v5_5 : Int32) (v5_6 : Int32) (v5_7 : Int32) (v5_8 : Int32) (v5_9 : Int32) (g5_1 : Nat → Int32) (o6 : Nat) (o4 : Nat) (o0 : Nat) (p1 : Int32) (p2 : Int32) (R : Int32 × Int32 × (Nat → Int32)) (hf : f_X6_pushConstant v5_3 v5_4 v5_6 g5_1 p1 p2 = some R) : Met l yX6_pushConstant wsX6_pushConstant ({ frames := 3, cells := 0, slots := 0, locals := 63 }) (va_Pc [.ref o6, .int p1, .int p2] (x_PreT (dC, dI) (x_T cyI cyZ cyJ) [(o5, .inr (5, [.ref o7, .ref a5_1, .int v5_2, .int v5_3, .int v5_4, .int v5_5, .int v5_6, .int v5_7, .int v5_8, .int v5_9])), (a5_1, .inl (cyI, 400, .inl g5_1)), (o6, .inr (6, [.ref o7, .ref o4, .ref o0, .ref o5]))] base sz)) (va_Qv (fun _ : Unit => True) (fun (_ : Unit) (t : State) => va_P (dC, dI) vwCl [(o5, .inr (5, [.ref o7, .ref a5_1, .int v5_2, .int (R.1), .int v5_4, .int v5_5, .int (R.2.1), .int v5_7, .int v5_8, .int v5_9])), (a5_1, .inl (cyI, 400, .inl R.2.2)), (o6, .inr (6, [.ref o7, .ref o4, .ref o0, .ref o5]))] t.heap ∧ va_K (dC, dI) vwCl (x_T cyI cyZ cyJ) t ∧ va_D (va_A [(o5, .inr (5, [.ref o7, .ref a5_1, .int v5_2, .int v5_3, .int v5_4, .int v5_5, .int v5_6, .int v5_7, .int v5_8, .int v5_9])), (a5_1, .inl (cyI, 400, .inl g5_1)), (o6, .inr (6, [.ref o7, .ref o4, .ref o0, .ref o5]))] sz) [(o5, .inr (5, [.ref o7, .ref a5_1, .int v5_2, .int (R.1), .int v5_4, .int v5_5, .int (R.2.1), .int v5_7, .int v5_8, .int v5_9])), (a5_1, .inl (cyI, 400, .inl R.2.2)), (o6, .inr (6, [.ref o7, .ref o4, .ref o0, .ref o5]))]) (va_A [(o5, .inr (5, [.ref o7, .ref a5_1, .int v5_2, .int v5_3, .int v5_4, .int v5_5, .int v5_6, .int v5_7, .int v5_8, .int v5_9])), (a5_1, .inl (cyI, 400, .inl g5_1)), (o6, .inr (6, [.ref o7, .ref o4, .ref o0, .ref o5]))] sz)) 0 0 (va_A [(o5, .inr (5, [.ref o7, .ref a5_1, .int v5_2, .int v5_3, .int v5_4, .int v5_5, .int v5_6, .int v5_7, .int v5_8, .int v5_9])), (a5_1, .inl (cyI, 400, .inl g5_1)), (o6, .inr (6, [.ref o7, .ref o4, .ref o0, .ref o5]))] sz) := by
  refine Met.ofW (cc := cX6_pushConstant) (maxL := 3) (ret := none) (by decide) rfl ?_
  intro p e s m args below meth c s₁ B hml hv
  obtain ⟨rfl, ⟨⟨hsz, hP, hK, hN⟩, hD0⟩, hDb, hbz, hT⟩ := hv
  have hx := B.exec
  have hb := B.bytes
  have hr := B.returns
  have hts := atoms_spec (ws := wsX6_pushConstant) B.pre
  have hown : s.vm.findClass RX6 = some m.cls := findClass_of_methodNamed B.named
  have k_1 := hts (.fieldLink RX6 23 "FlowJudge$Steps" "places" "LFlowJudge$Places;") (by decide +kernel)
  have k_2 := hts (.fieldLink RX6 91 "FlowJudge$Steps" "CONSTANTS" "[I") (by decide +kernel)
  subst hsz
  have hAb : ∀ q, va_A [(o5, .inr (5, [.ref o7, .ref a5_1, .int v5_2, .int v5_3, .int v5_4, .int v5_5, .int v5_6, .int v5_7, .int v5_8, .int v5_9])), (a5_1, .inl (cyI, 400, .inl g5_1)), (o6, .inr (6, [.ref o7, .ref o4, .ref o0, .ref o5]))] s.heap.size q → x_new base q := x_Ab hDb hbz
  have hD := hD0.self (sz := s.heap.size)
  generalize hAe : va_A [(o5, .inr (5, [.ref o7, .ref a5_1, .int v5_2, .int v5_3, .int v5_4, .int v5_5, .int v5_6, .int v5_7, .int v5_8, .int v5_9])), (a5_1, .inl (cyI, 400, .inl g5_1)), (o6, .inr (6, [.ref o7, .ref o4, .ref o0, .ref o5]))] s.heap.size = A at hD hAb ⊢
  have hA : ∀ q : Nat, s.heap.size ≤ q → A q := fun q h => by rw [← hAe]; exact Or.inr h
  have hP : va_P (dC, dI) vwCl [(o5, .inr (5, [.ref o7, .ref a5_1, .int v5_2, .int v5_3, .int v5_4, .int v5_5, .int v5_6, .int v5_7, .int v5_8, .int v5_9])), (a5_1, .inl (cyI, 400, .inl g5_1)), (o6, .inr (6, [.ref o7, .ref o4, .ref o0, .ref o5]))] s.heap := hP
  have hl := lv_entry ([.ref o6, .int p1, .int p2]) (n := 3) (Nat.le_of_ble_eq_true rfl)
  rw [lg_entry_eq]
  generalize (lg_sl ([.ref o6, .int p1, .int p2]) ++ List.replicate (3 - (lg_sl ([.ref o6, .int p1, .int p2])).length) Slot.unset).toArray = ls at hl ⊢
  have hl : lv_has ls 3 [(0, .ref o6), (1, .int p1), (2, .int p2)] := hl
  obtain ⟨H, hH⟩ : ∃ z, z = s.heap := ⟨_, rfl⟩
  refine x_here hH ?_
  have hP : va_P (dC, dI) vwCl [(o5, .inr (5, [.ref o7, .ref a5_1, .int v5_2, .int v5_3, .int v5_4, .int v5_5, .int v5_6, .int v5_7, .int v5_8, .int v5_9])), (a5_1, .inl (cyI, 400, .inl g5_1)), (o6, .inr (6, [.ref o7, .ref o4, .ref o0, .ref o5]))] H := by rw [hH]; exact hP
  have hS : va_S A s.heap H [] := by rw [hH]; exact va_S.rf
  clear hH
  obtain ⟨locs, hlo⟩ : ∃ z : List Loc, z = [] := ⟨_, rfl⟩
  refine x_herl hlo ?_
  have hS : va_S A s.heap H locs := by rw [hlo]; exact hS
  clear hlo
  unfold f_X6_pushConstant at hf
  refine lv_iload_n hx hb dX6_pushConstant_0 rfl (lv_at hl 1 rfl) ?_
  refine lv_bipush (v := 17) hx hb dX6_pushConstant_1 (by decide) ?_
  refine lv_icmp_le (tgt := 17) hx hb dX6_pushConstant_3 (by decide) (fun c_1 => ?_) (fun c_1 => ?_)
  · replace hf := x_ip c_1 hf
    refine lv_iload_n hx hb dX6_pushConstant_17 rfl (lv_at hl 1 rfl) ?_
    refine lv_bipush (v := 15) hx hb dX6_pushConstant_18 (by decide) ?_
    refine lv_icmp_le (tgt := 34) hx hb dX6_pushConstant_20 (by decide) (fun c_2 => ?_) (fun c_2 => ?_)
    · replace hf := x_ip c_2 hf
      refine lv_iload_n hx hb dX6_pushConstant_34 rfl (lv_at hl 1 rfl) ?_
      refine lv_if_le (tgt := 50) hx hb dX6_pushConstant_35 (by decide) (fun c_3 => ?_) (fun c_3 => ?_)
      · replace hf := x_ip c_3 hf
        obtain rfl := Option.some.inj hf
        have hP9 := hP.sub (ws' := [(o5, .inr (5, [.ref o7, .ref a5_1, .int v5_2, .int v5_3, .int v5_4, .int v5_5, .int v5_6, .int v5_7, .int v5_8, .int v5_9])), (a5_1, .inl (cyI, 400, .inl g5_1)), (o6, .inr (6, [.ref o7, .ref o4, .ref o0, .ref o5]))]) [0, 1, 2] rfl
        have hD9 := hD.sub (ws' := [(o5, .inr (5, [.ref o7, .ref a5_1, .int v5_2, .int v5_3, .int v5_4, .int v5_5, .int v5_6, .int v5_7, .int v5_8, .int v5_9])), (a5_1, .inl (cyI, 400, .inl g5_1)), (o6, .inr (6, [.ref o7, .ref o4, .ref o0, .ref o5]))]) [0, 1, 2] (by decide) rfl
        exact W.vret hx hb hr (fun t ht hW => ⟨⟨(), rfl, trivial, by rw [ht]; exact hP9, va_K.moved hW.alike hK, hD9⟩, hS.F ht⟩) hS.2.2 dX6_pushConstant_50
      · replace hf := x_in c_3 hf
        refine lv_aload_n hx hb dX6_pushConstant_38 rfl (lv_at hl 0 rfl) ?_
        refine va_get (D := (dC, dI)) (ci := 6) (v := .ref o5) (C := RX6) (T := TX6) (N := 4) hx hb hts i_X6_pushConstant_X6 hown hK hP 2 rfl rfl 3 (by decide) k_1 (fun _ h9 => h9) rfl dX6_pushConstant_39 ?_
        obtain ⟨b_4, hZ_4, hX_4, hb_4⟩ := hT _ (List.mem_of_getElem? (i := 1) rfl)
        refine va_gets hx hb (hZ_4.narrow hAb) hS hown k_2 (fun _ h9 => h9) dX6_pushConstant_42 ?_
        refine lv_iload_n hx hb dX6_pushConstant_45 rfl (lv_at hl 1 rfl) ?_
        obtain ⟨g_5, hf⟩ := x_gu hf
        refine va_sld hx hb hX_4 (Nat.lt_of_lt_of_le hb_4 hbz) (fun h9 => absurd (hAb _ h9) (Nat.not_le.mpr hb_4)) hS (x_gdin g_5) dX6_pushConstant_46 ?_
        obtain ⟨r_6, h_6, hf⟩ := x_bi hf
        have hPc := hP.sub (ws' := [(o5, .inr (5, [.ref o7, .ref a5_1, .int v5_2, .int v5_3, .int v5_4, .int v5_5, .int v5_6, .int v5_7, .int v5_8, .int v5_9])), (a5_1, .inl (cyI, 400, .inl g5_1))]) [0, 1] rfl
        have hDc := hD.sub (ws' := [(o5, .inr (5, [.ref o7, .ref a5_1, .int v5_2, .int v5_3, .int v5_4, .int v5_5, .int v5_6, .int v5_7, .int v5_8, .int v5_9])), (a5_1, .inl (cyI, 400, .inl g5_1))]) [0, 1] (by decide) rfl
        have hFc := va_free (wc := [(o5, .inr (5, [.ref o7, .ref a5_1, .int v5_2, .int v5_3, .int v5_4, .int v5_5, .int v5_6, .int v5_7, .int v5_8, .int v5_9])), (a5_1, .inl (cyI, 400, .inl g5_1))]) hD hS hA [0, 1] rfl
        refine va_callv (va_runV (As := [.int (x_st1 (Int32.toNatClampNeg p1))]) (rest := []) ⟨hx, hb, hml, hown, hts⟩ (c_X5_push l dC dI cyI cyZ cyJ H.size o5 o7 a5_1 v5_2 v5_3 v5_4 v5_5 v5_6 v5_7 v5_8 v5_9 g5_1 (x_st1 (Int32.toNatClampNeg p1)) r_6 h_6) (cwV 1 hts gX6_pushConstant_X5_push rfl rfl rfl (by decide +kernel) ⟨Nat.le_of_ble_eq_true rfl, Nat.le_of_ble_eq_true rfl⟩) (x_pVD hN hK hPc hDc (ci := 5) (q0 := 0) rfl rfl) rfl rfl hl.1 rfl (lv_room (Nat.le_of_ble_eq_true rfl)) dX6_pushConstant_47 ⟨Nat.le_of_ble_eq_true rfl, Nat.le_of_ble_eq_true rfl⟩) hS (fun q _ h => hFc q h) hFc (fun u t H1 locs ht hvm hw hB hz1 hk1 hS => ?_)
        obtain ⟨hP1, hK1, hD1⟩ := hB
        rw [ht] at hP1
        obtain ⟨hP, hD⟩ := va_join (wr := [(o6, .inr (6, [.ref o7, .ref o4, .ref o0, .ref o5]))]) (w1 := [(o5, .inr (5, [.ref o7, .ref a5_1, .int v5_2, .int (r_6.1), .int v5_4, .int v5_5, .int (r_6.2.1), .int v5_7, .int v5_8, .int v5_9])), (a5_1, .inl (cyI, 400, .inl r_6.2.2))]) hP hD [0, 1] [2] rfl rfl (by decide) (by decide) hk1 hFc hP1 hD1
        clear hz1 hk1 hPc hDc hFc hP1 hK1 hD1 ht hvm t u
        generalize H1 = H at hP hS ⊢
        have hP : va_P (dC, dI) vwCl [(o6, .inr (6, [.ref o7, .ref o4, .ref o0, .ref o5])), (o5, .inr (5, [.ref o7, .ref a5_1, .int v5_2, .int (r_6.1), .int v5_4, .int v5_5, .int (r_6.2.1), .int v5_7, .int v5_8, .int v5_9])), (a5_1, .inl (cyI, 400, .inl r_6.2.2))] H := hP
        have hD : va_D A [(o6, .inr (6, [.ref o7, .ref o4, .ref o0, .ref o5])), (o5, .inr (5, [.ref o7, .ref a5_1, .int v5_2, .int (r_6.1), .int v5_4, .int v5_5, .int (r_6.2.1), .int v5_7, .int v5_8, .int v5_9])), (a5_1, .inl (cyI, 400, .inl r_6.2.2))] := hD
        obtain rfl := Option.some.inj hf
        have hP9 := hP.sub (ws' := [(o5, .inr (5, [.ref o7, .ref a5_1, .int v5_2, .int (r_6.1), .int v5_4, .int v5_5, .int (r_6.2.1), .int v5_7, .int v5_8, .int v5_9])), (a5_1, .inl (cyI, 400, .inl r_6.2.2)), (o6, .inr (6, [.ref o7, .ref o4, .ref o0, .ref o5]))]) [1, 2, 0] rfl
        have hD9 := hD.sub (ws' := [(o5, .inr (5, [.ref o7, .ref a5_1, .int v5_2, .int (r_6.1), .int v5_4, .int v5_5, .int (r_6.2.1), .int v5_7, .int v5_8, .int v5_9])), (a5_1, .inl (cyI, 400, .inl r_6.2.2)), (o6, .inr (6, [.ref o7, .ref o4, .ref o0, .ref o5]))]) [1, 2, 0] (by decide) rfl
        exact W.vret hx hb hr (fun t ht hW => ⟨⟨(), rfl, trivial, by rw [ht]; exact hP9, va_K.moved hW.alike hK, hD9⟩, hS.F ht⟩) hS.2.2 dX6_pushConstant_50
    · replace hf := x_in c_2 hf
      refine lv_aload_n hx hb dX6_pushConstant_23 rfl (lv_at hl 0 rfl) ?_
      refine va_get (D := (dC, dI)) (ci := 6) (v := .ref o5) (C := RX6) (T := TX6) (N := 4) hx hb hts i_X6_pushConstant_X6 hown hK hP 2 rfl rfl 3 (by decide) k_1 (fun _ h9 => h9) rfl dX6_pushConstant_24 ?_
      refine lv_iconst (v := 1) hx hb dX6_pushConstant_27 (by decide) ?_
      obtain ⟨r_7, h_7, hf⟩ := x_bi hf
      have hPc := hP.sub (ws' := [(o5, .inr (5, [.ref o7, .ref a5_1, .int v5_2, .int v5_3, .int v5_4, .int v5_5, .int v5_6, .int v5_7, .int v5_8, .int v5_9])), (a5_1, .inl (cyI, 400, .inl g5_1))]) [0, 1] rfl
      have hDc := hD.sub (ws' := [(o5, .inr (5, [.ref o7, .ref a5_1, .int v5_2, .int v5_3, .int v5_4, .int v5_5, .int v5_6, .int v5_7, .int v5_8, .int v5_9])), (a5_1, .inl (cyI, 400, .inl g5_1))]) [0, 1] (by decide) rfl
      have hFc := va_free (wc := [(o5, .inr (5, [.ref o7, .ref a5_1, .int v5_2, .int v5_3, .int v5_4, .int v5_5, .int v5_6, .int v5_7, .int v5_8, .int v5_9])), (a5_1, .inl (cyI, 400, .inl g5_1))]) hD hS hA [0, 1] rfl
      refine va_callv (va_runV (As := [.int 1]) (rest := []) ⟨hx, hb, hml, hown, hts⟩ (c_X5_push l dC dI cyI cyZ cyJ H.size o5 o7 a5_1 v5_2 v5_3 v5_4 v5_5 v5_6 v5_7 v5_8 v5_9 g5_1 1 r_7 h_7) (cwV 1 hts gX6_pushConstant_X5_push rfl rfl rfl (by decide +kernel) ⟨Nat.le_of_ble_eq_true rfl, Nat.le_of_ble_eq_true rfl⟩) (x_pVD hN hK hPc hDc (ci := 5) (q0 := 0) rfl rfl) rfl rfl hl.1 rfl (lv_room (Nat.le_of_ble_eq_true rfl)) dX6_pushConstant_28 ⟨Nat.le_of_ble_eq_true rfl, Nat.le_of_ble_eq_true rfl⟩) hS (fun q _ h => hFc q h) hFc (fun u t H1 locs ht hvm hw hB hz1 hk1 hS => ?_)
      obtain ⟨hP1, hK1, hD1⟩ := hB
      rw [ht] at hP1
      obtain ⟨hP, hD⟩ := va_join (wr := [(o6, .inr (6, [.ref o7, .ref o4, .ref o0, .ref o5]))]) (w1 := [(o5, .inr (5, [.ref o7, .ref a5_1, .int v5_2, .int (r_7.1), .int v5_4, .int v5_5, .int (r_7.2.1), .int v5_7, .int v5_8, .int v5_9])), (a5_1, .inl (cyI, 400, .inl r_7.2.2))]) hP hD [0, 1] [2] rfl rfl (by decide) (by decide) hk1 hFc hP1 hD1
      clear hz1 hk1 hPc hDc hFc hP1 hK1 hD1 ht hvm t u
      generalize H1 = H at hP hS ⊢
      have hP : va_P (dC, dI) vwCl [(o6, .inr (6, [.ref o7, .ref o4, .ref o0, .ref o5])), (o5, .inr (5, [.ref o7, .ref a5_1, .int v5_2, .int (r_7.1), .int v5_4, .int v5_5, .int (r_7.2.1), .int v5_7, .int v5_8, .int v5_9])), (a5_1, .inl (cyI, 400, .inl r_7.2.2))] H := hP
      have hD : va_D A [(o6, .inr (6, [.ref o7, .ref o4, .ref o0, .ref o5])), (o5, .inr (5, [.ref o7, .ref a5_1, .int v5_2, .int (r_7.1), .int v5_4, .int v5_5, .int (r_7.2.1), .int v5_7, .int v5_8, .int v5_9])), (a5_1, .inl (cyI, 400, .inl r_7.2.2))] := hD
      refine lv_goto (tgt := 50) hx hb dX6_pushConstant_31 (by decide) ?_
      obtain rfl := Option.some.inj hf
      have hP9 := hP.sub (ws' := [(o5, .inr (5, [.ref o7, .ref a5_1, .int v5_2, .int (r_7.1), .int v5_4, .int v5_5, .int (r_7.2.1), .int v5_7, .int v5_8, .int v5_9])), (a5_1, .inl (cyI, 400, .inl r_7.2.2)), (o6, .inr (6, [.ref o7, .ref o4, .ref o0, .ref o5]))]) [1, 2, 0] rfl
      have hD9 := hD.sub (ws' := [(o5, .inr (5, [.ref o7, .ref a5_1, .int v5_2, .int (r_7.1), .int v5_4, .int v5_5, .int (r_7.2.1), .int v5_7, .int v5_8, .int v5_9])), (a5_1, .inl (cyI, 400, .inl r_7.2.2)), (o6, .inr (6, [.ref o7, .ref o4, .ref o0, .ref o5]))]) [1, 2, 0] (by decide) rfl
      exact W.vret hx hb hr (fun t ht hW => ⟨⟨(), rfl, trivial, by rw [ht]; exact hP9, va_K.moved hW.alike hK, hD9⟩, hS.F ht⟩) hS.2.2 dX6_pushConstant_50
  · replace hf := x_in c_1 hf
    refine lv_aload_n hx hb dX6_pushConstant_6 rfl (lv_at hl 0 rfl) ?_
    refine va_get (D := (dC, dI)) (ci := 6) (v := .ref o5) (C := RX6) (T := TX6) (N := 4) hx hb hts i_X6_pushConstant_X6 hown hK hP 2 rfl rfl 3 (by decide) k_1 (fun _ h9 => h9) rfl dX6_pushConstant_7 ?_
    refine lv_iload_n hx hb dX6_pushConstant_10 rfl (lv_at hl 2 rfl) ?_
    obtain ⟨r_8, h_8, hf⟩ := x_bi hf
    have hPc := hP.sub (ws' := [(o5, .inr (5, [.ref o7, .ref a5_1, .int v5_2, .int v5_3, .int v5_4, .int v5_5, .int v5_6, .int v5_7, .int v5_8, .int v5_9])), (a5_1, .inl (cyI, 400, .inl g5_1))]) [0, 1] rfl
    have hDc := hD.sub (ws' := [(o5, .inr (5, [.ref o7, .ref a5_1, .int v5_2, .int v5_3, .int v5_4, .int v5_5, .int v5_6, .int v5_7, .int v5_8, .int v5_9])), (a5_1, .inl (cyI, 400, .inl g5_1))]) [0, 1] (by decide) rfl
    have hFc := va_free (wc := [(o5, .inr (5, [.ref o7, .ref a5_1, .int v5_2, .int v5_3, .int v5_4, .int v5_5, .int v5_6, .int v5_7, .int v5_8, .int v5_9])), (a5_1, .inl (cyI, 400, .inl g5_1))]) hD hS hA [0, 1] rfl
    refine va_callv (va_runV (As := [.int p2]) (rest := []) ⟨hx, hb, hml, hown, hts⟩ (c_X5_pushType l dC dI cyI cyZ cyJ H.size o5 o7 a5_1 v5_2 v5_3 v5_4 v5_5 v5_6 v5_7 v5_8 v5_9 g5_1 p2 r_8 h_8) (cwV 1 hts gX6_pushConstant_X5_pushType rfl rfl rfl (by decide +kernel) ⟨Nat.le_of_ble_eq_true rfl, Nat.le_of_ble_eq_true rfl⟩) (x_pVD hN hK hPc hDc (ci := 5) (q0 := 0) rfl rfl) rfl rfl hl.1 rfl (lv_room (Nat.le_of_ble_eq_true rfl)) dX6_pushConstant_11 ⟨Nat.le_of_ble_eq_true rfl, Nat.le_of_ble_eq_true rfl⟩) hS (fun q _ h => hFc q h) hFc (fun u t H1 locs ht hvm hw hB hz1 hk1 hS => ?_)
    obtain ⟨hP1, hK1, hD1⟩ := hB
    rw [ht] at hP1
    obtain ⟨hP, hD⟩ := va_join (wr := [(o6, .inr (6, [.ref o7, .ref o4, .ref o0, .ref o5]))]) (w1 := [(o5, .inr (5, [.ref o7, .ref a5_1, .int v5_2, .int (r_8.1), .int v5_4, .int v5_5, .int (r_8.2.1), .int v5_7, .int v5_8, .int v5_9])), (a5_1, .inl (cyI, 400, .inl r_8.2.2))]) hP hD [0, 1] [2] rfl rfl (by decide) (by decide) hk1 hFc hP1 hD1
    clear hz1 hk1 hPc hDc hFc hP1 hK1 hD1 ht hvm t u
    generalize H1 = H at hP hS ⊢
    have hP : va_P (dC, dI) vwCl [(o6, .inr (6, [.ref o7, .ref o4, .ref o0, .ref o5])), (o5, .inr (5, [.ref o7, .ref a5_1, .int v5_2, .int (r_8.1), .int v5_4, .int v5_5, .int (r_8.2.1), .int v5_7, .int v5_8, .int v5_9])), (a5_1, .inl (cyI, 400, .inl r_8.2.2))] H := hP
    have hD : va_D A [(o6, .inr (6, [.ref o7, .ref o4, .ref o0, .ref o5])), (o5, .inr (5, [.ref o7, .ref a5_1, .int v5_2, .int (r_8.1), .int v5_4, .int v5_5, .int (r_8.2.1), .int v5_7, .int v5_8, .int v5_9])), (a5_1, .inl (cyI, 400, .inl r_8.2.2))] := hD
    refine lv_goto (tgt := 50) hx hb dX6_pushConstant_14 (by decide) ?_
    obtain rfl := Option.some.inj hf
    have hP9 := hP.sub (ws' := [(o5, .inr (5, [.ref o7, .ref a5_1, .int v5_2, .int (r_8.1), .int v5_4, .int v5_5, .int (r_8.2.1), .int v5_7, .int v5_8, .int v5_9])), (a5_1, .inl (cyI, 400, .inl r_8.2.2)), (o6, .inr (6, [.ref o7, .ref o4, .ref o0, .ref o5]))]) [1, 2, 0] rfl
    have hD9 := hD.sub (ws' := [(o5, .inr (5, [.ref o7, .ref a5_1, .int v5_2, .int (r_8.1), .int v5_4, .int v5_5, .int (r_8.2.1), .int v5_7, .int v5_8, .int v5_9])), (a5_1, .inl (cyI, 400, .inl r_8.2.2)), (o6, .inr (6, [.ref o7, .ref o4, .ref o0, .ref o5]))]) [1, 2, 0] (by decide) rfl
    exact W.vret hx hb hr (fun t ht hW => ⟨⟨(), rfl, trivial, by rw [ht]; exact hP9, va_K.moved hW.alike hK, hD9⟩, hS.F ht⟩) hS.2.2 dX6_pushConstant_50

def f_X6_load (v5_2 : Int32) (v5_3 : Int32) (v5_4 : Int32) (v5_6 : Int32) (g5_1 : Nat → Int32) (p1 : Int32) (p2 : Int32) : Option (Int32 × Int32 × (Nat → Int32)) := (f_X5_localAt v5_2 g5_1 p2) >>= (fun r_1 => if (4 : Int32) ≤ p1 then (f_X5_isAnyReference r_1) >>= (fun r_5 => if r_5 = (0 : Int32) then some (v5_3, 1, g5_1) else (f_X5_push v5_3 v5_4 v5_6 g5_1 r_1) >>= (fun r_7 => some (r_7.1, r_7.2.1, r_7.2.2))) else if x_gd p1 4 = true then if r_1 = (x_st3 (Int32.toNatClampNeg p1)) then (f_X5_push v5_3 v5_4 v5_6 g5_1 r_1) >>= (fun r_13 => some (r_13.1, r_13.2.1, r_13.2.2)) else some (v5_3, 1, g5_1) else none)
theorem i_X6_load_X5 : ∀ w ∈ wsX50, w ∈ wsX6_load := fun _ h => List.mem_cons_of_mem _ (List.mem_append_right _ h)
theorem i_X6_load_X6 : ∀ w ∈ wsX60, w ∈ wsX6_load := fun _ h => List.mem_cons_of_mem _ (List.mem_append_left _ (List.mem_append_right _ h))
set_option maxHeartbeats 4000000 in
set_option maxRecDepth 100000 in
theorem c_X6_load (l : Launch) (dC : Nat → ClassId) (dI : Nat → Nat → Nat) (cyI cyZ cyJ : ClassId) (sz : Nat) (base : Nat) (o5 : Nat) (o7 : Nat) (a5_1 : Nat) (v5_2 : Int32) (v5_3 : Int32) (v5_4 : Int32) (v5_5 : Int32) (v5_6 : Int32) (v5_7 : Int32) (v5_8 : Int32) (v5_9 : Int32) (g5_1 : Nat → Int32) (o6 : Nat) (o4 : Nat) (o0 : Nat) (p1 : Int32) (p2 : Int32) (R : Int32 × Int32 × (Nat → Int32)) (hf : f_X6_load v5_2 v5_3 v5_4 v5_6 g5_1 p1 p2 = some R) : Met l yX6_load wsX6_load ({ frames := 2, cells := 0, slots := 0, locals := 42 }) (va_Pc [.ref o6, .int p1, .int p2] (x_PreT (dC, dI) (x_T cyI cyZ cyJ) [(o5, .inr (5, [.ref o7, .ref a5_1, .int v5_2, .int v5_3, .int v5_4, .int v5_5, .int v5_6, .int v5_7, .int v5_8, .int v5_9])), (a5_1, .inl (cyI, 400, .inl g5_1)), (o6, .inr (6, [.ref o7, .ref o4, .ref o0, .ref o5]))] base sz)) (va_Qv (fun _ : Unit => True) (fun (_ : Unit) (t : State) => va_P (dC, dI) vwCl [(o5, .inr (5, [.ref o7, .ref a5_1, .int v5_2, .int (R.1), .int v5_4, .int v5_5, .int (R.2.1), .int v5_7, .int v5_8, .int v5_9])), (a5_1, .inl (cyI, 400, .inl R.2.2)), (o6, .inr (6, [.ref o7, .ref o4, .ref o0, .ref o5]))] t.heap ∧ va_K (dC, dI) vwCl (x_T cyI cyZ cyJ) t ∧ va_D (va_A [(o5, .inr (5, [.ref o7, .ref a5_1, .int v5_2, .int v5_3, .int v5_4, .int v5_5, .int v5_6, .int v5_7, .int v5_8, .int v5_9])), (a5_1, .inl (cyI, 400, .inl g5_1)), (o6, .inr (6, [.ref o7, .ref o4, .ref o0, .ref o5]))] sz) [(o5, .inr (5, [.ref o7, .ref a5_1, .int v5_2, .int (R.1), .int v5_4, .int v5_5, .int (R.2.1), .int v5_7, .int v5_8, .int v5_9])), (a5_1, .inl (cyI, 400, .inl R.2.2)), (o6, .inr (6, [.ref o7, .ref o4, .ref o0, .ref o5]))]) (va_A [(o5, .inr (5, [.ref o7, .ref a5_1, .int v5_2, .int v5_3, .int v5_4, .int v5_5, .int v5_6, .int v5_7, .int v5_8, .int v5_9])), (a5_1, .inl (cyI, 400, .inl g5_1)), (o6, .inr (6, [.ref o7, .ref o4, .ref o0, .ref o5]))] sz)) 0 0 (va_A [(o5, .inr (5, [.ref o7, .ref a5_1, .int v5_2, .int v5_3, .int v5_4, .int v5_5, .int v5_6, .int v5_7, .int v5_8, .int v5_9])), (a5_1, .inl (cyI, 400, .inl g5_1)), (o6, .inr (6, [.ref o7, .ref o4, .ref o0, .ref o5]))] sz) := by
  refine Met.ofW (cc := cX6_load) (maxL := 5) (ret := none) (by decide) rfl ?_
  intro p e s m args below meth c s₁ B hml hv
  obtain ⟨rfl, ⟨⟨hsz, hP, hK, hN⟩, hD0⟩, hDb, hbz, hT⟩ := hv
  have hx := B.exec
  have hb := B.bytes
  have hr := B.returns
  have hts := atoms_spec (ws := wsX6_load) B.pre
  have hown : s.vm.findClass RX6 = some m.cls := findClass_of_methodNamed B.named
  have k_1 := hts (.fieldLink RX6 23 "FlowJudge$Steps" "places" "LFlowJudge$Places;") (by decide +kernel)
  have k_2 := hts (.fieldLink RX6 98 "FlowJudge$Steps" "KINDS" "[I") (by decide +kernel)
  have k_3 := hts (.initialized RX5) (by decide +kernel)
  have k_4 := hts (.static yX5_isAnyReference) (by decide +kernel)
  subst hsz
  have hAb : ∀ q, va_A [(o5, .inr (5, [.ref o7, .ref a5_1, .int v5_2, .int v5_3, .int v5_4, .int v5_5, .int v5_6, .int v5_7, .int v5_8, .int v5_9])), (a5_1, .inl (cyI, 400, .inl g5_1)), (o6, .inr (6, [.ref o7, .ref o4, .ref o0, .ref o5]))] s.heap.size q → x_new base q := x_Ab hDb hbz
  have hD := hD0.self (sz := s.heap.size)
  generalize hAe : va_A [(o5, .inr (5, [.ref o7, .ref a5_1, .int v5_2, .int v5_3, .int v5_4, .int v5_5, .int v5_6, .int v5_7, .int v5_8, .int v5_9])), (a5_1, .inl (cyI, 400, .inl g5_1)), (o6, .inr (6, [.ref o7, .ref o4, .ref o0, .ref o5]))] s.heap.size = A at hD hAb ⊢
  have hA : ∀ q : Nat, s.heap.size ≤ q → A q := fun q h => by rw [← hAe]; exact Or.inr h
  have hP : va_P (dC, dI) vwCl [(o5, .inr (5, [.ref o7, .ref a5_1, .int v5_2, .int v5_3, .int v5_4, .int v5_5, .int v5_6, .int v5_7, .int v5_8, .int v5_9])), (a5_1, .inl (cyI, 400, .inl g5_1)), (o6, .inr (6, [.ref o7, .ref o4, .ref o0, .ref o5]))] s.heap := hP
  have hl := lv_entry ([.ref o6, .int p1, .int p2]) (n := 5) (Nat.le_of_ble_eq_true rfl)
  rw [lg_entry_eq]
  generalize (lg_sl ([.ref o6, .int p1, .int p2]) ++ List.replicate (5 - (lg_sl ([.ref o6, .int p1, .int p2])).length) Slot.unset).toArray = ls at hl ⊢
  have hl : lv_has ls 5 [(0, .ref o6), (1, .int p1), (2, .int p2)] := hl
  obtain ⟨H, hH⟩ : ∃ z, z = s.heap := ⟨_, rfl⟩
  refine x_here hH ?_
  have hP : va_P (dC, dI) vwCl [(o5, .inr (5, [.ref o7, .ref a5_1, .int v5_2, .int v5_3, .int v5_4, .int v5_5, .int v5_6, .int v5_7, .int v5_8, .int v5_9])), (a5_1, .inl (cyI, 400, .inl g5_1)), (o6, .inr (6, [.ref o7, .ref o4, .ref o0, .ref o5]))] H := by rw [hH]; exact hP
  have hS : va_S A s.heap H [] := by rw [hH]; exact va_S.rf
  clear hH
  obtain ⟨locs, hlo⟩ : ∃ z : List Loc, z = [] := ⟨_, rfl⟩
  refine x_herl hlo ?_
  have hS : va_S A s.heap H locs := by rw [hlo]; exact hS
  clear hlo
  unfold f_X6_load at hf
  refine lv_aload_n hx hb dX6_load_0 rfl (lv_at hl 0 rfl) ?_
  refine va_get (D := (dC, dI)) (ci := 6) (v := .ref o5) (C := RX6) (T := TX6) (N := 4) hx hb hts i_X6_load_X6 hown hK hP 2 rfl rfl 3 (by decide) k_1 (fun _ h9 => h9) rfl dX6_load_1 ?_
  refine lv_iload_n hx hb dX6_load_4 rfl (lv_at hl 2 rfl) ?_
  obtain ⟨r_1, h_1, hf⟩ := x_bi hf
  have hPc := hP.sub (ws' := [(o5, .inr (5, [.ref o7, .ref a5_1, .int v5_2, .int v5_3, .int v5_4, .int v5_5, .int v5_6, .int v5_7, .int v5_8, .int v5_9])), (a5_1, .inl (cyI, 400, .inl g5_1))]) [0, 1] rfl
  refine va_calli (va_runV (As := [.int p2]) (rest := []) ⟨hx, hb, hml, hown, hts⟩ (c_X5_localAt l dC dI cyI cyZ cyJ H.size o5 o7 a5_1 v5_2 v5_3 v5_4 v5_5 v5_6 v5_7 v5_8 v5_9 g5_1 p2 r_1 h_1) (cwV 1 hts gX6_load_X5_localAt rfl rfl rfl (by decide +kernel) ⟨Nat.le_of_ble_eq_true rfl, Nat.le_of_ble_eq_true rfl⟩) (x_pV hN hK hPc (ci := 5) (q0 := 0) rfl rfl) rfl rfl hl.1 rfl (lv_room (Nat.le_of_ble_eq_true rfl)) dX6_load_5 ⟨Nat.le_of_ble_eq_true rfl, Nat.le_of_ble_eq_true rfl⟩) hS x_nA (x_nf hA hS) (fun q_1 u t H1 locs ht hvm hw hB hz1 hk1 hS => ?_)
  have hP := x_kp hP hk1
  clear ht hvm hB hz1 hk1 t u hPc
  generalize H1 = H at hP hS ⊢
  obtain rfl := hw.symm
  refine lv_istore_n (lv' := [(3, .int r_1), (0, .ref o6), (1, .int p1), (2, .int p2)]) hx hb dX6_load_8 rfl hl (by decide) rfl (fun ls hl => ?_)
  refine lv_iload_n hx hb dX6_load_9 rfl (lv_at hl 2 rfl) ?_
  obtain ⟨b_2, hZ_2, hX_2, hb_2⟩ := hT _ (List.mem_of_getElem? (i := 3) rfl)
  refine va_gets hx hb (hZ_2.narrow hAb) hS hown k_2 (fun _ h9 => h9) dX6_load_10 ?_
  refine va_slen hx hb hX_2 (Nat.lt_of_lt_of_le hb_2 hbz) (fun h9 => absurd (hAb _ h9) (Nat.not_le.mpr hb_2)) hS dX6_load_13 ?_
  refine lv_topi (fun z_3 ez_3 => ?_)
  obtain rfl : z_3 = 4 := ez_3.trans (by decide)
  refine lv_icmp_ge (tgt := 34) hx hb dX6_load_14 (by decide) (fun c_4 => ?_) (fun c_4 => ?_)
  · replace hf := x_ip c_4 hf
    refine lv_iload_n hx hb dX6_load_34 rfl (lv_at hl 0 rfl) ?_
    obtain ⟨r_5, h_5, hf⟩ := x_bi hf
    have hPc := hP.sub (ws' := []) [] rfl
    refine va_calli (va_runSN (As := [.int r_1]) (rest := []) ⟨hx, hb, hml, hown, hts⟩ (c_X5_isAnyReference l dC dI cyI cyZ cyJ H.size r_1 r_5 h_5) ⟨va_cnB 1 hts gX6_load_X5_isAnyReference_n101 rfl rfl rfl (hN.2 (RX6, 101, yX5_isAnyReference) (List.mem_of_getElem? (i := 2) rfl)) k_3 (by decide +kernel) ⟨Nat.le_of_ble_eq_true rfl, Nat.le_of_ble_eq_true rfl⟩, ⟨k_4, trivial⟩⟩ (x_pS hN hK hPc) rfl rfl hl.1 rfl (lv_room (Nat.le_of_ble_eq_true rfl)) dX6_load_35 ⟨Nat.le_of_ble_eq_true rfl, Nat.le_of_ble_eq_true rfl⟩) hS x_nA (x_nf hA hS) (fun q_5 u t H1 locs ht hvm hw hB hz1 hk1 hS => ?_)
    have hP := x_kp hP hk1
    clear ht hvm hB hz1 hk1 t u hPc
    generalize H1 = H at hP hS ⊢
    obtain ⟨hw, b_5⟩ := hw
    obtain rfl := hw.symm
    refine lv_istore (lv' := [(4, .int r_5), (3, .int r_1), (0, .ref o6), (1, .int p1), (2, .int p2)]) hx hb dX6_load_38 hl (by decide) rfl (fun ls hl => ?_)
    refine lv_iload hx hb dX6_load_40 (lv_at hl 0 rfl) ?_
    refine lv_if_eq (tgt := 56) hx hb dX6_load_42 (by decide) (fun c_6 => ?_) (fun c_6 => ?_)
    · replace hf := x_ip c_6 hf
      refine lv_aload_n hx hb dX6_load_56 rfl (lv_at hl 2 rfl) ?_
      refine va_get (D := (dC, dI)) (ci := 6) (v := .ref o5) (C := RX6) (T := TX6) (N := 4) hx hb hts i_X6_load_X6 hown hK hP 2 rfl rfl 3 (by decide) k_1 (fun _ h9 => h9) rfl dX6_load_57 ?_
      refine lv_iconst (v := 1) hx hb dX6_load_60 (by decide) ?_
      refine va_putN (D := (dC, dI)) (ci := 5) (v := .int 1) (ty := .boolean) (C := RX5) (T := TX5) (N := 10) hx hb hts i_X6_load_X5 tyX5 tyX5_ok nmX5 hown hK hP hD hS 0 rfl rfl 6 (by decide) ((hN.1 ("FlowJudge$Steps", 105, "FlowJudge$Places", "refused", "Z") (List.mem_of_getElem? (i := 47) rfl)).use rfl) (fun _ h9 => h9) rfl (by decide +kernel) rfl rfl (Nat.le_of_ble_eq_true rfl) dX6_load_61 (fun H locs hP hD hS => ?_)
      have hP : va_P (dC, dI) vwCl [(o5, .inr (5, [.ref o7, .ref a5_1, .int v5_2, .int v5_3, .int v5_4, .int v5_5, .int 1, .int v5_7, .int v5_8, .int v5_9])), (a5_1, .inl (cyI, 400, .inl g5_1)), (o6, .inr (6, [.ref o7, .ref o4, .ref o0, .ref o5]))] H := hP
      have hD : va_D A [(o5, .inr (5, [.ref o7, .ref a5_1, .int v5_2, .int v5_3, .int v5_4, .int v5_5, .int 1, .int v5_7, .int v5_8, .int v5_9])), (a5_1, .inl (cyI, 400, .inl g5_1)), (o6, .inr (6, [.ref o7, .ref o4, .ref o0, .ref o5]))] := hD
      obtain rfl := Option.some.inj hf
      have hP9 := hP.sub (ws' := [(o5, .inr (5, [.ref o7, .ref a5_1, .int v5_2, .int v5_3, .int v5_4, .int v5_5, .int 1, .int v5_7, .int v5_8, .int v5_9])), (a5_1, .inl (cyI, 400, .inl g5_1)), (o6, .inr (6, [.ref o7, .ref o4, .ref o0, .ref o5]))]) [0, 1, 2] rfl
      have hD9 := hD.sub (ws' := [(o5, .inr (5, [.ref o7, .ref a5_1, .int v5_2, .int v5_3, .int v5_4, .int v5_5, .int 1, .int v5_7, .int v5_8, .int v5_9])), (a5_1, .inl (cyI, 400, .inl g5_1)), (o6, .inr (6, [.ref o7, .ref o4, .ref o0, .ref o5]))]) [0, 1, 2] (by decide) rfl
      exact W.vret hx hb hr (fun t ht hW => ⟨⟨(), rfl, trivial, by rw [ht]; exact hP9, va_K.moved hW.alike hK, hD9⟩, hS.F ht⟩) hS.2.2 dX6_load_64
    · replace hf := x_in c_6 hf
      refine lv_aload_n hx hb dX6_load_45 rfl (lv_at hl 2 rfl) ?_
      refine va_get (D := (dC, dI)) (ci := 6) (v := .ref o5) (C := RX6) (T := TX6) (N := 4) hx hb hts i_X6_load_X6 hown hK hP 2 rfl rfl 3 (by decide) k_1 (fun _ h9 => h9) rfl dX6_load_46 ?_
      refine lv_iload_n hx hb dX6_load_49 rfl (lv_at hl 1 rfl) ?_
      obtain ⟨r_7, h_7, hf⟩ := x_bi hf
      have hPc := hP.sub (ws' := [(o5, .inr (5, [.ref o7, .ref a5_1, .int v5_2, .int v5_3, .int v5_4, .int v5_5, .int v5_6, .int v5_7, .int v5_8, .int v5_9])), (a5_1, .inl (cyI, 400, .inl g5_1))]) [0, 1] rfl
      have hDc := hD.sub (ws' := [(o5, .inr (5, [.ref o7, .ref a5_1, .int v5_2, .int v5_3, .int v5_4, .int v5_5, .int v5_6, .int v5_7, .int v5_8, .int v5_9])), (a5_1, .inl (cyI, 400, .inl g5_1))]) [0, 1] (by decide) rfl
      have hFc := va_free (wc := [(o5, .inr (5, [.ref o7, .ref a5_1, .int v5_2, .int v5_3, .int v5_4, .int v5_5, .int v5_6, .int v5_7, .int v5_8, .int v5_9])), (a5_1, .inl (cyI, 400, .inl g5_1))]) hD hS hA [0, 1] rfl
      refine va_callv (va_runV (As := [.int r_1]) (rest := []) ⟨hx, hb, hml, hown, hts⟩ (c_X5_push l dC dI cyI cyZ cyJ H.size o5 o7 a5_1 v5_2 v5_3 v5_4 v5_5 v5_6 v5_7 v5_8 v5_9 g5_1 r_1 r_7 h_7) (cwV 1 hts gX6_load_X5_push rfl rfl rfl (by decide +kernel) ⟨Nat.le_of_ble_eq_true rfl, Nat.le_of_ble_eq_true rfl⟩) (x_pVD hN hK hPc hDc (ci := 5) (q0 := 0) rfl rfl) rfl rfl hl.1 rfl (lv_room (Nat.le_of_ble_eq_true rfl)) dX6_load_50 ⟨Nat.le_of_ble_eq_true rfl, Nat.le_of_ble_eq_true rfl⟩) hS (fun q _ h => hFc q h) hFc (fun u t H1 locs ht hvm hw hB hz1 hk1 hS => ?_)
      obtain ⟨hP1, hK1, hD1⟩ := hB
      rw [ht] at hP1
      obtain ⟨hP, hD⟩ := va_join (wr := [(o6, .inr (6, [.ref o7, .ref o4, .ref o0, .ref o5]))]) (w1 := [(o5, .inr (5, [.ref o7, .ref a5_1, .int v5_2, .int (r_7.1), .int v5_4, .int v5_5, .int (r_7.2.1), .int v5_7, .int v5_8, .int v5_9])), (a5_1, .inl (cyI, 400, .inl r_7.2.2))]) hP hD [0, 1] [2] rfl rfl (by decide) (by decide) hk1 hFc hP1 hD1
      clear hz1 hk1 hPc hDc hFc hP1 hK1 hD1 ht hvm t u
      generalize H1 = H at hP hS ⊢
      have hP : va_P (dC, dI) vwCl [(o6, .inr (6, [.ref o7, .ref o4, .ref o0, .ref o5])), (o5, .inr (5, [.ref o7, .ref a5_1, .int v5_2, .int (r_7.1), .int v5_4, .int v5_5, .int (r_7.2.1), .int v5_7, .int v5_8, .int v5_9])), (a5_1, .inl (cyI, 400, .inl r_7.2.2))] H := hP
      have hD : va_D A [(o6, .inr (6, [.ref o7, .ref o4, .ref o0, .ref o5])), (o5, .inr (5, [.ref o7, .ref a5_1, .int v5_2, .int (r_7.1), .int v5_4, .int v5_5, .int (r_7.2.1), .int v5_7, .int v5_8, .int v5_9])), (a5_1, .inl (cyI, 400, .inl r_7.2.2))] := hD
      refine lv_goto (tgt := 64) hx hb dX6_load_53 (by decide) ?_
      obtain rfl := Option.some.inj hf
      have hP9 := hP.sub (ws' := [(o5, .inr (5, [.ref o7, .ref a5_1, .int v5_2, .int (r_7.1), .int v5_4, .int v5_5, .int (r_7.2.1), .int v5_7, .int v5_8, .int v5_9])), (a5_1, .inl (cyI, 400, .inl r_7.2.2)), (o6, .inr (6, [.ref o7, .ref o4, .ref o0, .ref o5]))]) [1, 2, 0] rfl
      have hD9 := hD.sub (ws' := [(o5, .inr (5, [.ref o7, .ref a5_1, .int v5_2, .int (r_7.1), .int v5_4, .int v5_5, .int (r_7.2.1), .int v5_7, .int v5_8, .int v5_9])), (a5_1, .inl (cyI, 400, .inl r_7.2.2)), (o6, .inr (6, [.ref o7, .ref o4, .ref o0, .ref o5]))]) [1, 2, 0] (by decide) rfl
      exact W.vret hx hb hr (fun t ht hW => ⟨⟨(), rfl, trivial, by rw [ht]; exact hP9, va_K.moved hW.alike hK, hD9⟩, hS.F ht⟩) hS.2.2 dX6_load_64
  · replace hf := x_in c_4 hf
    refine lv_iload_n hx hb dX6_load_17 rfl (lv_at hl 0 rfl) ?_
    obtain ⟨b_8, hZ_8, hX_8, hb_8⟩ := hT _ (List.mem_of_getElem? (i := 3) rfl)
    refine va_gets hx hb (hZ_8.narrow hAb) hS hown k_2 (fun _ h9 => h9) dX6_load_18 ?_
    refine lv_iload_n hx hb dX6_load_21 rfl (lv_at hl 2 rfl) ?_
    obtain ⟨g_9, hf⟩ := x_gu hf
    refine va_sld hx hb hX_8 (Nat.lt_of_lt_of_le hb_8 hbz) (fun h9 => absurd (hAb _ h9) (Nat.not_le.mpr hb_8)) hS (x_gdin g_9) dX6_load_22 ?_
    refine lv_icmp_ne (tgt := 30) hx hb dX6_load_23 (by decide) (fun c_10 => ?_) (fun c_10 => ?_)
    · replace hf := x_in c_10 hf
      refine lv_iconst (v := 0) hx hb dX6_load_30 (by decide) ?_
      refine lv_goto (tgt := 38) hx hb dX6_load_31 (by decide) ?_
      refine lv_istore (lv' := [(4, .int 0), (3, .int r_1), (0, .ref o6), (1, .int p1), (2, .int p2)]) hx hb dX6_load_38 hl (by decide) rfl (fun ls hl => ?_)
      refine lv_iload hx hb dX6_load_40 (lv_at hl 0 rfl) ?_
      refine lv_if_eq (tgt := 56) hx hb dX6_load_42 (by decide) (fun _ => ?_) (fun c_11 => absurd (by decide) c_11)
      refine lv_aload_n hx hb dX6_load_56 rfl (lv_at hl 2 rfl) ?_
      refine va_get (D := (dC, dI)) (ci := 6) (v := .ref o5) (C := RX6) (T := TX6) (N := 4) hx hb hts i_X6_load_X6 hown hK hP 2 rfl rfl 3 (by decide) k_1 (fun _ h9 => h9) rfl dX6_load_57 ?_
      refine lv_iconst (v := 1) hx hb dX6_load_60 (by decide) ?_
      refine va_putN (D := (dC, dI)) (ci := 5) (v := .int 1) (ty := .boolean) (C := RX5) (T := TX5) (N := 10) hx hb hts i_X6_load_X5 tyX5 tyX5_ok nmX5 hown hK hP hD hS 0 rfl rfl 6 (by decide) ((hN.1 ("FlowJudge$Steps", 105, "FlowJudge$Places", "refused", "Z") (List.mem_of_getElem? (i := 47) rfl)).use rfl) (fun _ h9 => h9) rfl (by decide +kernel) rfl rfl (Nat.le_of_ble_eq_true rfl) dX6_load_61 (fun H locs hP hD hS => ?_)
      have hP : va_P (dC, dI) vwCl [(o5, .inr (5, [.ref o7, .ref a5_1, .int v5_2, .int v5_3, .int v5_4, .int v5_5, .int 1, .int v5_7, .int v5_8, .int v5_9])), (a5_1, .inl (cyI, 400, .inl g5_1)), (o6, .inr (6, [.ref o7, .ref o4, .ref o0, .ref o5]))] H := hP
      have hD : va_D A [(o5, .inr (5, [.ref o7, .ref a5_1, .int v5_2, .int v5_3, .int v5_4, .int v5_5, .int 1, .int v5_7, .int v5_8, .int v5_9])), (a5_1, .inl (cyI, 400, .inl g5_1)), (o6, .inr (6, [.ref o7, .ref o4, .ref o0, .ref o5]))] := hD
      obtain rfl := Option.some.inj hf
      have hP9 := hP.sub (ws' := [(o5, .inr (5, [.ref o7, .ref a5_1, .int v5_2, .int v5_3, .int v5_4, .int v5_5, .int 1, .int v5_7, .int v5_8, .int v5_9])), (a5_1, .inl (cyI, 400, .inl g5_1)), (o6, .inr (6, [.ref o7, .ref o4, .ref o0, .ref o5]))]) [0, 1, 2] rfl
      have hD9 := hD.sub (ws' := [(o5, .inr (5, [.ref o7, .ref a5_1, .int v5_2, .int v5_3, .int v5_4, .int v5_5, .int 1, .int v5_7, .int v5_8, .int v5_9])), (a5_1, .inl (cyI, 400, .inl g5_1)), (o6, .inr (6, [.ref o7, .ref o4, .ref o0, .ref o5]))]) [0, 1, 2] (by decide) rfl
      exact W.vret hx hb hr (fun t ht hW => ⟨⟨(), rfl, trivial, by rw [ht]; exact hP9, va_K.moved hW.alike hK, hD9⟩, hS.F ht⟩) hS.2.2 dX6_load_64
    · replace hf := x_ip c_10 hf
      refine lv_iconst (v := 1) hx hb dX6_load_26 (by decide) ?_
      refine lv_goto (tgt := 38) hx hb dX6_load_27 (by decide) ?_
      refine lv_istore (lv' := [(4, .int 1), (3, .int r_1), (0, .ref o6), (1, .int p1), (2, .int p2)]) hx hb dX6_load_38 hl (by decide) rfl (fun ls hl => ?_)
      refine lv_iload hx hb dX6_load_40 (lv_at hl 0 rfl) ?_
      refine lv_if_eq (tgt := 56) hx hb dX6_load_42 (by decide) (fun c_12 => absurd c_12 (by decide)) (fun _ => ?_)
      refine lv_aload_n hx hb dX6_load_45 rfl (lv_at hl 2 rfl) ?_
      refine va_get (D := (dC, dI)) (ci := 6) (v := .ref o5) (C := RX6) (T := TX6) (N := 4) hx hb hts i_X6_load_X6 hown hK hP 2 rfl rfl 3 (by decide) k_1 (fun _ h9 => h9) rfl dX6_load_46 ?_
      refine lv_iload_n hx hb dX6_load_49 rfl (lv_at hl 1 rfl) ?_
      obtain ⟨r_13, h_13, hf⟩ := x_bi hf
      have hPc := hP.sub (ws' := [(o5, .inr (5, [.ref o7, .ref a5_1, .int v5_2, .int v5_3, .int v5_4, .int v5_5, .int v5_6, .int v5_7, .int v5_8, .int v5_9])), (a5_1, .inl (cyI, 400, .inl g5_1))]) [0, 1] rfl
      have hDc := hD.sub (ws' := [(o5, .inr (5, [.ref o7, .ref a5_1, .int v5_2, .int v5_3, .int v5_4, .int v5_5, .int v5_6, .int v5_7, .int v5_8, .int v5_9])), (a5_1, .inl (cyI, 400, .inl g5_1))]) [0, 1] (by decide) rfl
      have hFc := va_free (wc := [(o5, .inr (5, [.ref o7, .ref a5_1, .int v5_2, .int v5_3, .int v5_4, .int v5_5, .int v5_6, .int v5_7, .int v5_8, .int v5_9])), (a5_1, .inl (cyI, 400, .inl g5_1))]) hD hS hA [0, 1] rfl
      refine va_callv (va_runV (As := [.int r_1]) (rest := []) ⟨hx, hb, hml, hown, hts⟩ (c_X5_push l dC dI cyI cyZ cyJ H.size o5 o7 a5_1 v5_2 v5_3 v5_4 v5_5 v5_6 v5_7 v5_8 v5_9 g5_1 r_1 r_13 h_13) (cwV 1 hts gX6_load_X5_push rfl rfl rfl (by decide +kernel) ⟨Nat.le_of_ble_eq_true rfl, Nat.le_of_ble_eq_true rfl⟩) (x_pVD hN hK hPc hDc (ci := 5) (q0 := 0) rfl rfl) rfl rfl hl.1 rfl (lv_room (Nat.le_of_ble_eq_true rfl)) dX6_load_50 ⟨Nat.le_of_ble_eq_true rfl, Nat.le_of_ble_eq_true rfl⟩) hS (fun q _ h => hFc q h) hFc (fun u t H1 locs ht hvm hw hB hz1 hk1 hS => ?_)
      obtain ⟨hP1, hK1, hD1⟩ := hB
      rw [ht] at hP1
      obtain ⟨hP, hD⟩ := va_join (wr := [(o6, .inr (6, [.ref o7, .ref o4, .ref o0, .ref o5]))]) (w1 := [(o5, .inr (5, [.ref o7, .ref a5_1, .int v5_2, .int (r_13.1), .int v5_4, .int v5_5, .int (r_13.2.1), .int v5_7, .int v5_8, .int v5_9])), (a5_1, .inl (cyI, 400, .inl r_13.2.2))]) hP hD [0, 1] [2] rfl rfl (by decide) (by decide) hk1 hFc hP1 hD1
      clear hz1 hk1 hPc hDc hFc hP1 hK1 hD1 ht hvm t u
      generalize H1 = H at hP hS ⊢
      have hP : va_P (dC, dI) vwCl [(o6, .inr (6, [.ref o7, .ref o4, .ref o0, .ref o5])), (o5, .inr (5, [.ref o7, .ref a5_1, .int v5_2, .int (r_13.1), .int v5_4, .int v5_5, .int (r_13.2.1), .int v5_7, .int v5_8, .int v5_9])), (a5_1, .inl (cyI, 400, .inl r_13.2.2))] H := hP
      have hD : va_D A [(o6, .inr (6, [.ref o7, .ref o4, .ref o0, .ref o5])), (o5, .inr (5, [.ref o7, .ref a5_1, .int v5_2, .int (r_13.1), .int v5_4, .int v5_5, .int (r_13.2.1), .int v5_7, .int v5_8, .int v5_9])), (a5_1, .inl (cyI, 400, .inl r_13.2.2))] := hD
      refine lv_goto (tgt := 64) hx hb dX6_load_53 (by decide) ?_
      obtain rfl := Option.some.inj hf
      have hP9 := hP.sub (ws' := [(o5, .inr (5, [.ref o7, .ref a5_1, .int v5_2, .int (r_13.1), .int v5_4, .int v5_5, .int (r_13.2.1), .int v5_7, .int v5_8, .int v5_9])), (a5_1, .inl (cyI, 400, .inl r_13.2.2)), (o6, .inr (6, [.ref o7, .ref o4, .ref o0, .ref o5]))]) [1, 2, 0] rfl
      have hD9 := hD.sub (ws' := [(o5, .inr (5, [.ref o7, .ref a5_1, .int v5_2, .int (r_13.1), .int v5_4, .int v5_5, .int (r_13.2.1), .int v5_7, .int v5_8, .int v5_9])), (a5_1, .inl (cyI, 400, .inl r_13.2.2)), (o6, .inr (6, [.ref o7, .ref o4, .ref o0, .ref o5]))]) [1, 2, 0] (by decide) rfl
      exact W.vret hx hb hr (fun t ht hW => ⟨⟨(), rfl, trivial, by rw [ht]; exact hP9, va_K.moved hW.alike hK, hD9⟩, hS.F ht⟩) hS.2.2 dX6_load_64

def f_X6_store (v5_2 : Int32) (v5_3 : Int32) (v5_6 : Int32) (v5_7 : Int32) (g5_1 : Nat → Int32) (p1 : Int32) (p2 : Int32) : Option (Int32 × Int32 × Int32 × (Nat → Int32)) := if (4 : Int32) ≤ p1 then (f_X5_pull v5_2 v5_3 v5_6 g5_1) >>= (fun r_4 => if (r_4.1 &&& 15) = (10 : Int32) then (f_X5_setLocal v5_2 r_4.2.2 v5_7 g5_1 p2 r_4.1) >>= (fun r_6 => some (r_4.2.1, r_6.1, r_6.2.1, r_6.2.2)) else (f_X5_isAnyReference r_4.1) >>= (fun r_7 => if r_7 = (0 : Int32) then (f_X5_setLocal v5_2 1 v5_7 g5_1 p2 r_4.1) >>= (fun r_10 => some (r_4.2.1, r_10.1, r_10.2.1, r_10.2.2)) else (f_X5_setLocal v5_2 r_4.2.2 v5_7 g5_1 p2 r_4.1) >>= (fun r_9 => some (r_4.2.1, r_9.1, r_9.2.1, r_9.2.2)))) else if x_gd p1 4 = true then (f_X5_pullKind v5_2 v5_3 v5_6 g5_1 (x_st3 (Int32.toNatClampNeg p1))) >>= (fun r_13 => if x_gd p1 4 = true then (f_X5_setLocal v5_2 r_13.2 v5_7 g5_1 p2 (x_st3 (Int32.toNatClampNeg p1))) >>= (fun r_16 => some (r_13.1, r_16.1, r_16.2.1, r_16.2.2)) else none) else none
theorem i_X6_store_X5 : ∀ w ∈ wsX50, w ∈ wsX6_store := fun _ h => List.mem_cons_of_mem _ (List.mem_append_right _ h)
theorem i_X6_store_X6 : ∀ w ∈ wsX60, w ∈ wsX6_store := fun _ h => List.mem_cons_of_mem _ (List.mem_append_left _ (List.mem_append_right _ h))
set_option maxHeartbeats 4000000 in
set_option maxRecDepth 100000 in
theorem c_X6_store (l : Launch) (dC : Nat → ClassId) (dI : Nat → Nat → Nat) (cyI cyZ cyJ : ClassId) (sz : Nat) (base : Nat) (o5 : Nat) (o7 : Nat) (a5_1 : Nat) (v5_2 : Int32) (v5_3 : Int32) (v5_4 : Int32) (v5_5 : Int32) (v5_6 : Int32) (v5_7 : Int32) (v5_8 : Int32) (v5_9 : Int32) (g5_1 : Nat → Int32) (o6 : Nat) (o4 : Nat) (o0 : Nat) (p1 : Int32) (p2 : Int32) (R : Int32 × Int32 × Int32 × (Nat → Int32)) (hf : f_X6_store v5_2 v5_3 v5_6 v5_7 g5_1 p1 p2 = some R) : Met l yX6_store wsX6_store ({ frames := 2, cells := 0, slots := 0, locals := 43 }) (va_Pc [.ref o6, .int p1, .int p2] (x_PreT (dC, dI) (x_T cyI cyZ cyJ) [(o5, .inr (5, [.ref o7, .ref a5_1, .int v5_2, .int v5_3, .int v5_4, .int v5_5, .int v5_6, .int v5_7, .int v5_8, .int v5_9])), (a5_1, .inl (cyI, 400, .inl g5_1)), (o6, .inr (6, [.ref o7, .ref o4, .ref o0, .ref o5]))] base sz)) (va_Qv (fun _ : Unit => True) (fun (_ : Unit) (t : State) => va_P (dC, dI) vwCl [(o5, .inr (5, [.ref o7, .ref a5_1, .int v5_2, .int (R.1), .int v5_4, .int v5_5, .int (R.2.1), .int (R.2.2.1), .int v5_8, .int v5_9])), (a5_1, .inl (cyI, 400, .inl R.2.2.2)), (o6, .inr (6, [.ref o7, .ref o4, .ref o0, .ref o5]))] t.heap ∧ va_K (dC, dI) vwCl (x_T cyI cyZ cyJ) t ∧ va_D (va_A [(o5, .inr (5, [.ref o7, .ref a5_1, .int v5_2, .int v5_3, .int v5_4, .int v5_5, .int v5_6, .int v5_7, .int v5_8, .int v5_9])), (a5_1, .inl (cyI, 400, .inl g5_1)), (o6, .inr (6, [.ref o7, .ref o4, .ref o0, .ref o5]))] sz) [(o5, .inr (5, [.ref o7, .ref a5_1, .int v5_2, .int (R.1), .int v5_4, .int v5_5, .int (R.2.1), .int (R.2.2.1), .int v5_8, .int v5_9])), (a5_1, .inl (cyI, 400, .inl R.2.2.2)), (o6, .inr (6, [.ref o7, .ref o4, .ref o0, .ref o5]))]) (va_A [(o5, .inr (5, [.ref o7, .ref a5_1, .int v5_2, .int v5_3, .int v5_4, .int v5_5, .int v5_6, .int v5_7, .int v5_8, .int v5_9])), (a5_1, .inl (cyI, 400, .inl g5_1)), (o6, .inr (6, [.ref o7, .ref o4, .ref o0, .ref o5]))] sz)) 0 0 (va_A [(o5, .inr (5, [.ref o7, .ref a5_1, .int v5_2, .int v5_3, .int v5_4, .int v5_5, .int v5_6, .int v5_7, .int v5_8, .int v5_9])), (a5_1, .inl (cyI, 400, .inl g5_1)), (o6, .inr (6, [.ref o7, .ref o4, .ref o0, .ref o5]))] sz) := by
  refine Met.ofW (cc := cX6_store) (maxL := 4) (ret := none) (by decide) rfl ?_
  intro p e s m args below meth c s₁ B hml hv
  obtain ⟨rfl, ⟨⟨hsz, hP, hK, hN⟩, hD0⟩, hDb, hbz, hT⟩ := hv
  have hx := B.exec
  have hb := B.bytes
  have hr := B.returns
  have hts := atoms_spec (ws := wsX6_store) B.pre
  have hown : s.vm.findClass RX6 = some m.cls := findClass_of_methodNamed B.named
  have k_1 := hts (.fieldLink RX6 98 "FlowJudge$Steps" "KINDS" "[I") (by decide +kernel)
  have k_2 := hts (.fieldLink RX6 23 "FlowJudge$Steps" "places" "LFlowJudge$Places;") (by decide +kernel)
  have k_3 := hts (.initialized RX5) (by decide +kernel)
  have k_4 := hts (.static yX5_isAnyReference) (by decide +kernel)
  subst hsz
  have hAb : ∀ q, va_A [(o5, .inr (5, [.ref o7, .ref a5_1, .int v5_2, .int v5_3, .int v5_4, .int v5_5, .int v5_6, .int v5_7, .int v5_8, .int v5_9])), (a5_1, .inl (cyI, 400, .inl g5_1)), (o6, .inr (6, [.ref o7, .ref o4, .ref o0, .ref o5]))] s.heap.size q → x_new base q := x_Ab hDb hbz
  have hD := hD0.self (sz := s.heap.size)
  generalize hAe : va_A [(o5, .inr (5, [.ref o7, .ref a5_1, .int v5_2, .int v5_3, .int v5_4, .int v5_5, .int v5_6, .int v5_7, .int v5_8, .int v5_9])), (a5_1, .inl (cyI, 400, .inl g5_1)), (o6, .inr (6, [.ref o7, .ref o4, .ref o0, .ref o5]))] s.heap.size = A at hD hAb ⊢
  have hA : ∀ q : Nat, s.heap.size ≤ q → A q := fun q h => by rw [← hAe]; exact Or.inr h
  have hP : va_P (dC, dI) vwCl [(o5, .inr (5, [.ref o7, .ref a5_1, .int v5_2, .int v5_3, .int v5_4, .int v5_5, .int v5_6, .int v5_7, .int v5_8, .int v5_9])), (a5_1, .inl (cyI, 400, .inl g5_1)), (o6, .inr (6, [.ref o7, .ref o4, .ref o0, .ref o5]))] s.heap := hP
  have hl := lv_entry ([.ref o6, .int p1, .int p2]) (n := 4) (Nat.le_of_ble_eq_true rfl)
  rw [lg_entry_eq]
  generalize (lg_sl ([.ref o6, .int p1, .int p2]) ++ List.replicate (4 - (lg_sl ([.ref o6, .int p1, .int p2])).length) Slot.unset).toArray = ls at hl ⊢
  have hl : lv_has ls 4 [(0, .ref o6), (1, .int p1), (2, .int p2)] := hl
  obtain ⟨H, hH⟩ : ∃ z, z = s.heap := ⟨_, rfl⟩
  refine x_here hH ?_
  have hP : va_P (dC, dI) vwCl [(o5, .inr (5, [.ref o7, .ref a5_1, .int v5_2, .int v5_3, .int v5_4, .int v5_5, .int v5_6, .int v5_7, .int v5_8, .int v5_9])), (a5_1, .inl (cyI, 400, .inl g5_1)), (o6, .inr (6, [.ref o7, .ref o4, .ref o0, .ref o5]))] H := by rw [hH]; exact hP
  have hS : va_S A s.heap H [] := by rw [hH]; exact va_S.rf
  clear hH
  obtain ⟨locs, hlo⟩ : ∃ z : List Loc, z = [] := ⟨_, rfl⟩
  refine x_herl hlo ?_
  have hS : va_S A s.heap H locs := by rw [hlo]; exact hS
  clear hlo
  unfold f_X6_store at hf
  refine lv_iload_n hx hb dX6_store_0 rfl (lv_at hl 1 rfl) ?_
  obtain ⟨b_1, hZ_1, hX_1, hb_1⟩ := hT _ (List.mem_of_getElem? (i := 3) rfl)
  refine va_gets hx hb (hZ_1.narrow hAb) hS hown k_1 (fun _ h9 => h9) dX6_store_1 ?_
  refine va_slen hx hb hX_1 (Nat.lt_of_lt_of_le hb_1 hbz) (fun h9 => absurd (hAb _ h9) (Nat.not_le.mpr hb_1)) hS dX6_store_4 ?_
  refine lv_topi (fun z_2 ez_2 => ?_)
  obtain rfl : z_2 = 4 := ez_2.trans (by decide)
  refine lv_icmp_ge (tgt := 34) hx hb dX6_store_5 (by decide) (fun c_3 => ?_) (fun c_3 => ?_)
  · replace hf := x_ip c_3 hf
    refine lv_aload_n hx hb dX6_store_34 rfl (lv_at hl 0 rfl) ?_
    refine va_get (D := (dC, dI)) (ci := 6) (v := .ref o5) (C := RX6) (T := TX6) (N := 4) hx hb hts i_X6_store_X6 hown hK hP 2 rfl rfl 3 (by decide) k_2 (fun _ h9 => h9) rfl dX6_store_35 ?_
    obtain ⟨r_4, h_4, hf⟩ := x_bi hf
    have hPc := hP.sub (ws' := [(o5, .inr (5, [.ref o7, .ref a5_1, .int v5_2, .int v5_3, .int v5_4, .int v5_5, .int v5_6, .int v5_7, .int v5_8, .int v5_9])), (a5_1, .inl (cyI, 400, .inl g5_1))]) [0, 1] rfl
    have hDc := hD.sub (ws' := [(o5, .inr (5, [.ref o7, .ref a5_1, .int v5_2, .int v5_3, .int v5_4, .int v5_5, .int v5_6, .int v5_7, .int v5_8, .int v5_9])), (a5_1, .inl (cyI, 400, .inl g5_1))]) [0, 1] (by decide) rfl
    have hFc := va_free (wc := [(o5, .inr (5, [.ref o7, .ref a5_1, .int v5_2, .int v5_3, .int v5_4, .int v5_5, .int v5_6, .int v5_7, .int v5_8, .int v5_9])), (a5_1, .inl (cyI, 400, .inl g5_1))]) hD hS hA [0, 1] rfl
    refine va_calli (va_runV (As := []) (rest := []) ⟨hx, hb, hml, hown, hts⟩ (c_X5_pull l dC dI cyI cyZ cyJ H.size o5 o7 a5_1 v5_2 v5_3 v5_4 v5_5 v5_6 v5_7 v5_8 v5_9 g5_1 r_4 h_4) (cwV 0 hts gX6_store_X5_pull rfl rfl rfl (by decide +kernel) ⟨Nat.le_of_ble_eq_true rfl, Nat.le_of_ble_eq_true rfl⟩) (x_pVD hN hK hPc hDc (ci := 5) (q0 := 0) rfl rfl) rfl rfl hl.1 rfl (lv_room (Nat.le_of_ble_eq_true rfl)) dX6_store_38 ⟨Nat.le_of_ble_eq_true rfl, Nat.le_of_ble_eq_true rfl⟩) hS (fun q _ h => hFc q h) hFc (fun q_4 u t H1 locs ht hvm hw hB hz1 hk1 hS => ?_)
    obtain ⟨hP1, hK1, hD1⟩ := hB
    rw [ht] at hP1
    obtain ⟨hP, hD⟩ := va_join (wr := [(o6, .inr (6, [.ref o7, .ref o4, .ref o0, .ref o5]))]) (w1 := [(o5, .inr (5, [.ref o7, .ref a5_1, .int v5_2, .int (r_4.2.1), .int v5_4, .int v5_5, .int (r_4.2.2), .int v5_7, .int v5_8, .int v5_9])), (a5_1, .inl (cyI, 400, .inl g5_1))]) hP hD [0, 1] [2] rfl rfl (by decide) (by decide) hk1 hFc hP1 hD1
    clear hz1 hk1 hPc hDc hFc hP1 hK1 hD1 ht hvm t u
    generalize H1 = H at hP hS ⊢
    have hP : va_P (dC, dI) vwCl [(o6, .inr (6, [.ref o7, .ref o4, .ref o0, .ref o5])), (o5, .inr (5, [.ref o7, .ref a5_1, .int v5_2, .int (r_4.2.1), .int v5_4, .int v5_5, .int (r_4.2.2), .int v5_7, .int v5_8, .int v5_9])), (a5_1, .inl (cyI, 400, .inl g5_1))] H := hP
    have hD : va_D A [(o6, .inr (6, [.ref o7, .ref o4, .ref o0, .ref o5])), (o5, .inr (5, [.ref o7, .ref a5_1, .int v5_2, .int (r_4.2.1), .int v5_4, .int v5_5, .int (r_4.2.2), .int v5_7, .int v5_8, .int v5_9])), (a5_1, .inl (cyI, 400, .inl g5_1))] := hD
    obtain rfl := hw.symm
    refine lv_istore_n (lv' := [(3, .int (r_4.1)), (0, .ref o6), (1, .int p1), (2, .int p2)]) hx hb dX6_store_41 rfl hl (by decide) rfl (fun ls hl => ?_)
    refine lv_iload_n hx hb dX6_store_42 rfl (lv_at hl 0 rfl) ?_
    refine lv_bipush (v := 15) hx hb dX6_store_43 (by decide) ?_
    refine lv_iand hx hb dX6_store_45 ?_
    refine lv_bipush (v := 10) hx hb dX6_store_46 (by decide) ?_
    refine lv_icmp_eq (tgt := 66) hx hb dX6_store_48 (by decide) (fun c_5 => ?_) (fun c_5 => ?_)
    · replace hf := x_ip c_5 hf
      refine lv_aload_n hx hb dX6_store_66 rfl (lv_at hl 1 rfl) ?_
      refine va_get (D := (dC, dI)) (ci := 6) (v := .ref o5) (C := RX6) (T := TX6) (N := 4) hx hb hts i_X6_store_X6 hown hK hP 0 rfl rfl 3 (by decide) k_2 (fun _ h9 => h9) rfl dX6_store_67 ?_
      refine lv_iload_n hx hb dX6_store_70 rfl (lv_at hl 3 rfl) ?_
      refine lv_iload_n hx hb dX6_store_71 rfl (lv_at hl 0 rfl) ?_
      obtain ⟨r_6, h_6, hf⟩ := x_bi hf
      have hPc := hP.sub (ws' := [(o5, .inr (5, [.ref o7, .ref a5_1, .int v5_2, .int (r_4.2.1), .int v5_4, .int v5_5, .int (r_4.2.2), .int v5_7, .int v5_8, .int v5_9])), (a5_1, .inl (cyI, 400, .inl g5_1))]) [1, 2] rfl
      have hDc := hD.sub (ws' := [(o5, .inr (5, [.ref o7, .ref a5_1, .int v5_2, .int (r_4.2.1), .int v5_4, .int v5_5, .int (r_4.2.2), .int v5_7, .int v5_8, .int v5_9])), (a5_1, .inl (cyI, 400, .inl g5_1))]) [1, 2] (by decide) rfl
      have hFc := va_free (wc := [(o5, .inr (5, [.ref o7, .ref a5_1, .int v5_2, .int (r_4.2.1), .int v5_4, .int v5_5, .int (r_4.2.2), .int v5_7, .int v5_8, .int v5_9])), (a5_1, .inl (cyI, 400, .inl g5_1))]) hD hS hA [1, 2] rfl
      refine va_callv (va_runV (As := [.int p2, .int (r_4.1)]) (rest := []) ⟨hx, hb, hml, hown, hts⟩ (c_X5_setLocal l dC dI cyI cyZ cyJ H.size o5 o7 a5_1 v5_2 r_4.2.1 v5_4 v5_5 r_4.2.2 v5_7 v5_8 v5_9 g5_1 p2 r_4.1 r_6 h_6) (cwV 2 hts gX6_store_X5_setLocal rfl rfl rfl (by decide +kernel) ⟨Nat.le_of_ble_eq_true rfl, Nat.le_of_ble_eq_true rfl⟩) (x_pVD hN hK hPc hDc (ci := 5) (q0 := 0) rfl rfl) rfl rfl hl.1 rfl (lv_room (Nat.le_of_ble_eq_true rfl)) dX6_store_72 ⟨Nat.le_of_ble_eq_true rfl, Nat.le_of_ble_eq_true rfl⟩) hS (fun q _ h => hFc q h) hFc (fun u t H1 locs ht hvm hw hB hz1 hk1 hS => ?_)
      obtain ⟨hP1, hK1, hD1⟩ := hB
      rw [ht] at hP1
      obtain ⟨hP, hD⟩ := va_join (wr := [(o6, .inr (6, [.ref o7, .ref o4, .ref o0, .ref o5]))]) (w1 := [(o5, .inr (5, [.ref o7, .ref a5_1, .int v5_2, .int (r_4.2.1), .int v5_4, .int v5_5, .int (r_6.1), .int (r_6.2.1), .int v5_8, .int v5_9])), (a5_1, .inl (cyI, 400, .inl r_6.2.2))]) hP hD [1, 2] [0] rfl rfl (by decide) (by decide) hk1 hFc hP1 hD1
      clear hz1 hk1 hPc hDc hFc hP1 hK1 hD1 ht hvm t u
      generalize H1 = H at hP hS ⊢
      have hP : va_P (dC, dI) vwCl [(o6, .inr (6, [.ref o7, .ref o4, .ref o0, .ref o5])), (o5, .inr (5, [.ref o7, .ref a5_1, .int v5_2, .int (r_4.2.1), .int v5_4, .int v5_5, .int (r_6.1), .int (r_6.2.1), .int v5_8, .int v5_9])), (a5_1, .inl (cyI, 400, .inl r_6.2.2))] H := hP
      have hD : va_D A [(o6, .inr (6, [.ref o7, .ref o4, .ref o0, .ref o5])), (o5, .inr (5, [.ref o7, .ref a5_1, .int v5_2, .int (r_4.2.1), .int v5_4, .int v5_5, .int (r_6.1), .int (r_6.2.1), .int v5_8, .int v5_9])), (a5_1, .inl (cyI, 400, .inl r_6.2.2))] := hD
      obtain rfl := Option.some.inj hf
      have hP9 := hP.sub (ws' := [(o5, .inr (5, [.ref o7, .ref a5_1, .int v5_2, .int (r_4.2.1), .int v5_4, .int v5_5, .int (r_6.1), .int (r_6.2.1), .int v5_8, .int v5_9])), (a5_1, .inl (cyI, 400, .inl r_6.2.2)), (o6, .inr (6, [.ref o7, .ref o4, .ref o0, .ref o5]))]) [1, 2, 0] rfl
      have hD9 := hD.sub (ws' := [(o5, .inr (5, [.ref o7, .ref a5_1, .int v5_2, .int (r_4.2.1), .int v5_4, .int v5_5, .int (r_6.1), .int (r_6.2.1), .int v5_8, .int v5_9])), (a5_1, .inl (cyI, 400, .inl r_6.2.2)), (o6, .inr (6, [.ref o7, .ref o4, .ref o0, .ref o5]))]) [1, 2, 0] (by decide) rfl
      exact W.vret hx hb hr (fun t ht hW => ⟨⟨(), rfl, trivial, by rw [ht]; exact hP9, va_K.moved hW.alike hK, hD9⟩, hS.F ht⟩) hS.2.2 dX6_store_75
    · replace hf := x_in c_5 hf
      refine lv_iload_n hx hb dX6_store_51 rfl (lv_at hl 0 rfl) ?_
      obtain ⟨r_7, h_7, hf⟩ := x_bi hf
      have hPc := hP.sub (ws' := []) [] rfl
      refine va_calli (va_runSN (As := [.int (r_4.1)]) (rest := []) ⟨hx, hb, hml, hown, hts⟩ (c_X5_isAnyReference l dC dI cyI cyZ cyJ H.size r_4.1 r_7 h_7) ⟨va_cnB 1 hts gX6_store_X5_isAnyReference_n101 rfl rfl rfl (hN.2 (RX6, 101, yX5_isAnyReference) (List.mem_of_getElem? (i := 2) rfl)) k_3 (by decide +kernel) ⟨Nat.le_of_ble_eq_true rfl, Nat.le_of_ble_eq_true rfl⟩, ⟨k_4, trivial⟩⟩ (x_pS hN hK hPc) rfl rfl hl.1 rfl (lv_room (Nat.le_of_ble_eq_true rfl)) dX6_store_52 ⟨Nat.le_of_ble_eq_true rfl, Nat.le_of_ble_eq_true rfl⟩) hS x_nA (x_nf hA hS) (fun q_7 u t H1 locs ht hvm hw hB hz1 hk1 hS => ?_)
      have hP := x_kp hP hk1
      clear ht hvm hB hz1 hk1 t u hPc
      generalize H1 = H at hP hS ⊢
      obtain ⟨hw, b_7⟩ := hw
      obtain rfl := hw.symm
      refine lv_if_ne (tgt := 66) hx hb dX6_store_55 (by decide) (fun c_8 => ?_) (fun c_8 => ?_)
      · replace hf := x_in c_8 hf
        refine lv_aload_n hx hb dX6_store_66 rfl (lv_at hl 1 rfl) ?_
        refine va_get (D := (dC, dI)) (ci := 6) (v := .ref o5) (C := RX6) (T := TX6) (N := 4) hx hb hts i_X6_store_X6 hown hK hP 0 rfl rfl 3 (by decide) k_2 (fun _ h9 => h9) rfl dX6_store_67 ?_
        refine lv_iload_n hx hb dX6_store_70 rfl (lv_at hl 3 rfl) ?_
        refine lv_iload_n hx hb dX6_store_71 rfl (lv_at hl 0 rfl) ?_
        obtain ⟨r_9, h_9, hf⟩ := x_bi hf
        have hPc := hP.sub (ws' := [(o5, .inr (5, [.ref o7, .ref a5_1, .int v5_2, .int (r_4.2.1), .int v5_4, .int v5_5, .int (r_4.2.2), .int v5_7, .int v5_8, .int v5_9])), (a5_1, .inl (cyI, 400, .inl g5_1))]) [1, 2] rfl
        have hDc := hD.sub (ws' := [(o5, .inr (5, [.ref o7, .ref a5_1, .int v5_2, .int (r_4.2.1), .int v5_4, .int v5_5, .int (r_4.2.2), .int v5_7, .int v5_8, .int v5_9])), (a5_1, .inl (cyI, 400, .inl g5_1))]) [1, 2] (by decide) rfl
        have hFc := va_free (wc := [(o5, .inr (5, [.ref o7, .ref a5_1, .int v5_2, .int (r_4.2.1), .int v5_4, .int v5_5, .int (r_4.2.2), .int v5_7, .int v5_8, .int v5_9])), (a5_1, .inl (cyI, 400, .inl g5_1))]) hD hS hA [1, 2] rfl
        refine va_callv (va_runV (As := [.int p2, .int (r_4.1)]) (rest := []) ⟨hx, hb, hml, hown, hts⟩ (c_X5_setLocal l dC dI cyI cyZ cyJ H.size o5 o7 a5_1 v5_2 r_4.2.1 v5_4 v5_5 r_4.2.2 v5_7 v5_8 v5_9 g5_1 p2 r_4.1 r_9 h_9) (cwV 2 hts gX6_store_X5_setLocal rfl rfl rfl (by decide +kernel) ⟨Nat.le_of_ble_eq_true rfl, Nat.le_of_ble_eq_true rfl⟩) (x_pVD hN hK hPc hDc (ci := 5) (q0 := 0) rfl rfl) rfl rfl hl.1 rfl (lv_room (Nat.le_of_ble_eq_true rfl)) dX6_store_72 ⟨Nat.le_of_ble_eq_true rfl, Nat.le_of_ble_eq_true rfl⟩) hS (fun q _ h => hFc q h) hFc (fun u t H1 locs ht hvm hw hB hz1 hk1 hS => ?_)
        obtain ⟨hP1, hK1, hD1⟩ := hB
        rw [ht] at hP1
        obtain ⟨hP, hD⟩ := va_join (wr := [(o6, .inr (6, [.ref o7, .ref o4, .ref o0, .ref o5]))]) (w1 := [(o5, .inr (5, [.ref o7, .ref a5_1, .int v5_2, .int (r_4.2.1), .int v5_4, .int v5_5, .int (r_9.1), .int (r_9.2.1), .int v5_8, .int v5_9])), (a5_1, .inl (cyI, 400, .inl r_9.2.2))]) hP hD [1, 2] [0] rfl rfl (by decide) (by decide) hk1 hFc hP1 hD1
        clear hz1 hk1 hPc hDc hFc hP1 hK1 hD1 ht hvm t u
        generalize H1 = H at hP hS ⊢
        have hP : va_P (dC, dI) vwCl [(o6, .inr (6, [.ref o7, .ref o4, .ref o0, .ref o5])), (o5, .inr (5, [.ref o7, .ref a5_1, .int v5_2, .int (r_4.2.1), .int v5_4, .int v5_5, .int (r_9.1), .int (r_9.2.1), .int v5_8, .int v5_9])), (a5_1, .inl (cyI, 400, .inl r_9.2.2))] H := hP
        have hD : va_D A [(o6, .inr (6, [.ref o7, .ref o4, .ref o0, .ref o5])), (o5, .inr (5, [.ref o7, .ref a5_1, .int v5_2, .int (r_4.2.1), .int v5_4, .int v5_5, .int (r_9.1), .int (r_9.2.1), .int v5_8, .int v5_9])), (a5_1, .inl (cyI, 400, .inl r_9.2.2))] := hD
        obtain rfl := Option.some.inj hf
        have hP9 := hP.sub (ws' := [(o5, .inr (5, [.ref o7, .ref a5_1, .int v5_2, .int (r_4.2.1), .int v5_4, .int v5_5, .int (r_9.1), .int (r_9.2.1), .int v5_8, .int v5_9])), (a5_1, .inl (cyI, 400, .inl r_9.2.2)), (o6, .inr (6, [.ref o7, .ref o4, .ref o0, .ref o5]))]) [1, 2, 0] rfl
        have hD9 := hD.sub (ws' := [(o5, .inr (5, [.ref o7, .ref a5_1, .int v5_2, .int (r_4.2.1), .int v5_4, .int v5_5, .int (r_9.1), .int (r_9.2.1), .int v5_8, .int v5_9])), (a5_1, .inl (cyI, 400, .inl r_9.2.2)), (o6, .inr (6, [.ref o7, .ref o4, .ref o0, .ref o5]))]) [1, 2, 0] (by decide) rfl
        exact W.vret hx hb hr (fun t ht hW => ⟨⟨(), rfl, trivial, by rw [ht]; exact hP9, va_K.moved hW.alike hK, hD9⟩, hS.F ht⟩) hS.2.2 dX6_store_75
      · replace hf := x_ip c_8 hf
        refine lv_aload_n hx hb dX6_store_58 rfl (lv_at hl 1 rfl) ?_
        refine va_get (D := (dC, dI)) (ci := 6) (v := .ref o5) (C := RX6) (T := TX6) (N := 4) hx hb hts i_X6_store_X6 hown hK hP 0 rfl rfl 3 (by decide) k_2 (fun _ h9 => h9) rfl dX6_store_59 ?_
        refine lv_iconst (v := 1) hx hb dX6_store_62 (by decide) ?_
        refine va_putN (D := (dC, dI)) (ci := 5) (v := .int 1) (ty := .boolean) (C := RX5) (T := TX5) (N := 10) hx hb hts i_X6_store_X5 tyX5 tyX5_ok nmX5 hown hK hP hD hS 1 rfl rfl 6 (by decide) ((hN.1 ("FlowJudge$Steps", 105, "FlowJudge$Places", "refused", "Z") (List.mem_of_getElem? (i := 47) rfl)).use rfl) (fun _ h9 => h9) rfl (by decide +kernel) rfl rfl (Nat.le_of_ble_eq_true rfl) dX6_store_63 (fun H locs hP hD hS => ?_)
        have hP : va_P (dC, dI) vwCl [(o6, .inr (6, [.ref o7, .ref o4, .ref o0, .ref o5])), (o5, .inr (5, [.ref o7, .ref a5_1, .int v5_2, .int (r_4.2.1), .int v5_4, .int v5_5, .int 1, .int v5_7, .int v5_8, .int v5_9])), (a5_1, .inl (cyI, 400, .inl g5_1))] H := hP
        have hD : va_D A [(o6, .inr (6, [.ref o7, .ref o4, .ref o0, .ref o5])), (o5, .inr (5, [.ref o7, .ref a5_1, .int v5_2, .int (r_4.2.1), .int v5_4, .int v5_5, .int 1, .int v5_7, .int v5_8, .int v5_9])), (a5_1, .inl (cyI, 400, .inl g5_1))] := hD
        refine lv_aload_n hx hb dX6_store_66 rfl (lv_at hl 1 rfl) ?_
        refine va_get (D := (dC, dI)) (ci := 6) (v := .ref o5) (C := RX6) (T := TX6) (N := 4) hx hb hts i_X6_store_X6 hown hK hP 0 rfl rfl 3 (by decide) k_2 (fun _ h9 => h9) rfl dX6_store_67 ?_
        refine lv_iload_n hx hb dX6_store_70 rfl (lv_at hl 3 rfl) ?_
        refine lv_iload_n hx hb dX6_store_71 rfl (lv_at hl 0 rfl) ?_
        obtain ⟨r_10, h_10, hf⟩ := x_bi hf
        have hPc := hP.sub (ws' := [(o5, .inr (5, [.ref o7, .ref a5_1, .int v5_2, .int (r_4.2.1), .int v5_4, .int v5_5, .int 1, .int v5_7, .int v5_8, .int v5_9])), (a5_1, .inl (cyI, 400, .inl g5_1))]) [1, 2] rfl
        have hDc := hD.sub (ws' := [(o5, .inr (5, [.ref o7, .ref a5_1, .int v5_2, .int (r_4.2.1), .int v5_4, .int v5_5, .int 1, .int v5_7, .int v5_8, .int v5_9])), (a5_1, .inl (cyI, 400, .inl g5_1))]) [1, 2] (by decide) rfl
        have hFc := va_free (wc := [(o5, .inr (5, [.ref o7, .ref a5_1, .int v5_2, .int (r_4.2.1), .int v5_4, .int v5_5, .int 1, .int v5_7, .int v5_8, .int v5_9])), (a5_1, .inl (cyI, 400, .inl g5_1))]) hD hS hA [1, 2] rfl
        refine va_callv (va_runV (As := [.int p2, .int (r_4.1)]) (rest := []) ⟨hx, hb, hml, hown, hts⟩ (c_X5_setLocal l dC dI cyI cyZ cyJ H.size o5 o7 a5_1 v5_2 r_4.2.1 v5_4 v5_5 1 v5_7 v5_8 v5_9 g5_1 p2 r_4.1 r_10 h_10) (cwV 2 hts gX6_store_X5_setLocal rfl rfl rfl (by decide +kernel) ⟨Nat.le_of_ble_eq_true rfl, Nat.le_of_ble_eq_true rfl⟩) (x_pVD hN hK hPc hDc (ci := 5) (q0 := 0) rfl rfl) rfl rfl hl.1 rfl (lv_room (Nat.le_of_ble_eq_true rfl)) dX6_store_72 ⟨Nat.le_of_ble_eq_true rfl, Nat.le_of_ble_eq_true rfl⟩) hS (fun q _ h => hFc q h) hFc (fun u t H1 locs ht hvm hw hB hz1 hk1 hS => ?_)
        obtain ⟨hP1, hK1, hD1⟩ := hB
        rw [ht] at hP1
        obtain ⟨hP, hD⟩ := va_join (wr := [(o6, .inr (6, [.ref o7, .ref o4, .ref o0, .ref o5]))]) (w1 := [(o5, .inr (5, [.ref o7, .ref a5_1, .int v5_2, .int (r_4.2.1), .int v5_4, .int v5_5, .int (r_10.1), .int (r_10.2.1), .int v5_8, .int v5_9])), (a5_1, .inl (cyI, 400, .inl r_10.2.2))]) hP hD [1, 2] [0] rfl rfl (by decide) (by decide) hk1 hFc hP1 hD1
        clear hz1 hk1 hPc hDc hFc hP1 hK1 hD1 ht hvm t u
        generalize H1 = H at hP hS ⊢
        have hP : va_P (dC, dI) vwCl [(o6, .inr (6, [.ref o7, .ref o4, .ref o0, .ref o5])), (o5, .inr (5, [.ref o7, .ref a5_1, .int v5_2, .int (r_4.2.1), .int v5_4, .int v5_5, .int (r_10.1), .int (r_10.2.1), .int v5_8, .int v5_9])), (a5_1, .inl (cyI, 400, .inl r_10.2.2))] H := hP
        have hD : va_D A [(o6, .inr (6, [.ref o7, .ref o4, .ref o0, .ref o5])), (o5, .inr (5, [.ref o7, .ref a5_1, .int v5_2, .int (r_4.2.1), .int v5_4, .int v5_5, .int (r_10.1), .int (r_10.2.1), .int v5_8, .int v5_9])), (a5_1, .inl (cyI, 400, .inl r_10.2.2))] := hD
        obtain rfl := Option.some.inj hf
        have hP9 := hP.sub (ws' := [(o5, .inr (5, [.ref o7, .ref a5_1, .int v5_2, .int (r_4.2.1), .int v5_4, .int v5_5, .int (r_10.1), .int (r_10.2.1), .int v5_8, .int v5_9])), (a5_1, .inl (cyI, 400, .inl r_10.2.2)), (o6, .inr (6, [.ref o7, .ref o4, .ref o0, .ref o5]))]) [1, 2, 0] rfl
        have hD9 := hD.sub (ws' := [(o5, .inr (5, [.ref o7, .ref a5_1, .int v5_2, .int (r_4.2.1), .int v5_4, .int v5_5, .int (r_10.1), .int (r_10.2.1), .int v5_8, .int v5_9])), (a5_1, .inl (cyI, 400, .inl r_10.2.2)), (o6, .inr (6, [.ref o7, .ref o4, .ref o0, .ref o5]))]) [1, 2, 0] (by decide) rfl
        exact W.vret hx hb hr (fun t ht hW => ⟨⟨(), rfl, trivial, by rw [ht]; exact hP9, va_K.moved hW.alike hK, hD9⟩, hS.F ht⟩) hS.2.2 dX6_store_75
  · replace hf := x_in c_3 hf
    refine lv_aload_n hx hb dX6_store_8 rfl (lv_at hl 0 rfl) ?_
    refine va_get (D := (dC, dI)) (ci := 6) (v := .ref o5) (C := RX6) (T := TX6) (N := 4) hx hb hts i_X6_store_X6 hown hK hP 2 rfl rfl 3 (by decide) k_2 (fun _ h9 => h9) rfl dX6_store_9 ?_
    obtain ⟨b_11, hZ_11, hX_11, hb_11⟩ := hT _ (List.mem_of_getElem? (i := 3) rfl)
    refine va_gets hx hb (hZ_11.narrow hAb) hS hown k_1 (fun _ h9 => h9) dX6_store_12 ?_
    refine lv_iload_n hx hb dX6_store_15 rfl (lv_at hl 1 rfl) ?_
    obtain ⟨g_12, hf⟩ := x_gu hf
    refine va_sld hx hb hX_11 (Nat.lt_of_lt_of_le hb_11 hbz) (fun h9 => absurd (hAb _ h9) (Nat.not_le.mpr hb_11)) hS (x_gdin g_12) dX6_store_16 ?_
    obtain ⟨r_13, h_13, hf⟩ := x_bi hf
    have hPc := hP.sub (ws' := [(o5, .inr (5, [.ref o7, .ref a5_1, .int v5_2, .int v5_3, .int v5_4, .int v5_5, .int v5_6, .int v5_7, .int v5_8, .int v5_9])), (a5_1, .inl (cyI, 400, .inl g5_1))]) [0, 1] rfl
    have hDc := hD.sub (ws' := [(o5, .inr (5, [.ref o7, .ref a5_1, .int v5_2, .int v5_3, .int v5_4, .int v5_5, .int v5_6, .int v5_7, .int v5_8, .int v5_9])), (a5_1, .inl (cyI, 400, .inl g5_1))]) [0, 1] (by decide) rfl
    have hFc := va_free (wc := [(o5, .inr (5, [.ref o7, .ref a5_1, .int v5_2, .int v5_3, .int v5_4, .int v5_5, .int v5_6, .int v5_7, .int v5_8, .int v5_9])), (a5_1, .inl (cyI, 400, .inl g5_1))]) hD hS hA [0, 1] rfl
    refine va_callv (va_runV (As := [.int (x_st3 (Int32.toNatClampNeg p1))]) (rest := []) ⟨hx, hb, hml, hown, hts⟩ (c_X5_pullKind l dC dI cyI cyZ cyJ H.size o5 o7 a5_1 v5_2 v5_3 v5_4 v5_5 v5_6 v5_7 v5_8 v5_9 g5_1 (x_st3 (Int32.toNatClampNeg p1)) r_13 h_13) (cwV 1 hts gX6_store_X5_pullKind rfl rfl rfl (by decide +kernel) ⟨Nat.le_of_ble_eq_true rfl, Nat.le_of_ble_eq_true rfl⟩) (x_pVD hN hK hPc hDc (ci := 5) (q0 := 0) rfl rfl) rfl rfl hl.1 rfl (lv_room (Nat.le_of_ble_eq_true rfl)) dX6_store_17 ⟨Nat.le_of_ble_eq_true rfl, Nat.le_of_ble_eq_true rfl⟩) hS (fun q _ h => hFc q h) hFc (fun u t H1 locs ht hvm hw hB hz1 hk1 hS => ?_)
    obtain ⟨hP1, hK1, hD1⟩ := hB
    rw [ht] at hP1
    obtain ⟨hP, hD⟩ := va_join (wr := [(o6, .inr (6, [.ref o7, .ref o4, .ref o0, .ref o5]))]) (w1 := [(o5, .inr (5, [.ref o7, .ref a5_1, .int v5_2, .int (r_13.1), .int v5_4, .int v5_5, .int (r_13.2), .int v5_7, .int v5_8, .int v5_9])), (a5_1, .inl (cyI, 400, .inl g5_1))]) hP hD [0, 1] [2] rfl rfl (by decide) (by decide) hk1 hFc hP1 hD1
    clear hz1 hk1 hPc hDc hFc hP1 hK1 hD1 ht hvm t u
    generalize H1 = H at hP hS ⊢
    have hP : va_P (dC, dI) vwCl [(o6, .inr (6, [.ref o7, .ref o4, .ref o0, .ref o5])), (o5, .inr (5, [.ref o7, .ref a5_1, .int v5_2, .int (r_13.1), .int v5_4, .int v5_5, .int (r_13.2), .int v5_7, .int v5_8, .int v5_9])), (a5_1, .inl (cyI, 400, .inl g5_1))] H := hP
    have hD : va_D A [(o6, .inr (6, [.ref o7, .ref o4, .ref o0, .ref o5])), (o5, .inr (5, [.ref o7, .ref a5_1, .int v5_2, .int (r_13.1), .int v5_4, .int v5_5, .int (r_13.2), .int v5_7, .int v5_8, .int v5_9])), (a5_1, .inl (cyI, 400, .inl g5_1))] := hD
    refine lv_aload_n hx hb dX6_store_20 rfl (lv_at hl 0 rfl) ?_
    refine va_get (D := (dC, dI)) (ci := 6) (v := .ref o5) (C := RX6) (T := TX6) (N := 4) hx hb hts i_X6_store_X6 hown hK hP 0 rfl rfl 3 (by decide) k_2 (fun _ h9 => h9) rfl dX6_store_21 ?_
    refine lv_iload_n hx hb dX6_store_24 rfl (lv_at hl 2 rfl) ?_
    obtain ⟨b_14, hZ_14, hX_14, hb_14⟩ := hT _ (List.mem_of_getElem? (i := 3) rfl)
    refine va_gets hx hb (hZ_14.narrow hAb) hS hown k_1 (fun _ h9 => h9) dX6_store_25 ?_
    refine lv_iload_n hx hb dX6_store_28 rfl (lv_at hl 1 rfl) ?_
    obtain ⟨g_15, hf⟩ := x_gu hf
    refine va_sld hx hb hX_14 (Nat.lt_of_lt_of_le hb_14 hbz) (fun h9 => absurd (hAb _ h9) (Nat.not_le.mpr hb_14)) hS (x_gdin g_15) dX6_store_29 ?_
    obtain ⟨r_16, h_16, hf⟩ := x_bi hf
    have hPc := hP.sub (ws' := [(o5, .inr (5, [.ref o7, .ref a5_1, .int v5_2, .int (r_13.1), .int v5_4, .int v5_5, .int (r_13.2), .int v5_7, .int v5_8, .int v5_9])), (a5_1, .inl (cyI, 400, .inl g5_1))]) [1, 2] rfl
    have hDc := hD.sub (ws' := [(o5, .inr (5, [.ref o7, .ref a5_1, .int v5_2, .int (r_13.1), .int v5_4, .int v5_5, .int (r_13.2), .int v5_7, .int v5_8, .int v5_9])), (a5_1, .inl (cyI, 400, .inl g5_1))]) [1, 2] (by decide) rfl
    have hFc := va_free (wc := [(o5, .inr (5, [.ref o7, .ref a5_1, .int v5_2, .int (r_13.1), .int v5_4, .int v5_5, .int (r_13.2), .int v5_7, .int v5_8, .int v5_9])), (a5_1, .inl (cyI, 400, .inl g5_1))]) hD hS hA [1, 2] rfl
    refine va_callv (va_runV (As := [.int p2, .int (x_st3 (Int32.toNatClampNeg p1))]) (rest := []) ⟨hx, hb, hml, hown, hts⟩ (c_X5_setLocal l dC dI cyI cyZ cyJ H.size o5 o7 a5_1 v5_2 r_13.1 v5_4 v5_5 r_13.2 v5_7 v5_8 v5_9 g5_1 p2 (x_st3 (Int32.toNatClampNeg p1)) r_16 h_16) (cwV 2 hts gX6_store_X5_setLocal rfl rfl rfl (by decide +kernel) ⟨Nat.le_of_ble_eq_true rfl, Nat.le_of_ble_eq_true rfl⟩) (x_pVD hN hK hPc hDc (ci := 5) (q0 := 0) rfl rfl) rfl rfl hl.1 rfl (lv_room (Nat.le_of_ble_eq_true rfl)) dX6_store_30 ⟨Nat.le_of_ble_eq_true rfl, Nat.le_of_ble_eq_true rfl⟩) hS (fun q _ h => hFc q h) hFc (fun u t H1 locs ht hvm hw hB hz1 hk1 hS => ?_)
    obtain ⟨hP1, hK1, hD1⟩ := hB
    rw [ht] at hP1
    obtain ⟨hP, hD⟩ := va_join (wr := [(o6, .inr (6, [.ref o7, .ref o4, .ref o0, .ref o5]))]) (w1 := [(o5, .inr (5, [.ref o7, .ref a5_1, .int v5_2, .int (r_13.1), .int v5_4, .int v5_5, .int (r_16.1), .int (r_16.2.1), .int v5_8, .int v5_9])), (a5_1, .inl (cyI, 400, .inl r_16.2.2))]) hP hD [1, 2] [0] rfl rfl (by decide) (by decide) hk1 hFc hP1 hD1
    clear hz1 hk1 hPc hDc hFc hP1 hK1 hD1 ht hvm t u
    generalize H1 = H at hP hS ⊢
    have hP : va_P (dC, dI) vwCl [(o6, .inr (6, [.ref o7, .ref o4, .ref o0, .ref o5])), (o5, .inr (5, [.ref o7, .ref a5_1, .int v5_2, .int (r_13.1), .int v5_4, .int v5_5, .int (r_16.1), .int (r_16.2.1), .int v5_8, .int v5_9])), (a5_1, .inl (cyI, 400, .inl r_16.2.2))] H := hP
    have hD : va_D A [(o6, .inr (6, [.ref o7, .ref o4, .ref o0, .ref o5])), (o5, .inr (5, [.ref o7, .ref a5_1, .int v5_2, .int (r_13.1), .int v5_4, .int v5_5, .int (r_16.1), .int (r_16.2.1), .int v5_8, .int v5_9])), (a5_1, .inl (cyI, 400, .inl r_16.2.2))] := hD
    obtain rfl := Option.some.inj hf
    have hP9 := hP.sub (ws' := [(o5, .inr (5, [.ref o7, .ref a5_1, .int v5_2, .int (r_13.1), .int v5_4, .int v5_5, .int (r_16.1), .int (r_16.2.1), .int v5_8, .int v5_9])), (a5_1, .inl (cyI, 400, .inl r_16.2.2)), (o6, .inr (6, [.ref o7, .ref o4, .ref o0, .ref o5]))]) [1, 2, 0] rfl
    have hD9 := hD.sub (ws' := [(o5, .inr (5, [.ref o7, .ref a5_1, .int v5_2, .int (r_13.1), .int v5_4, .int v5_5, .int (r_16.1), .int (r_16.2.1), .int v5_8, .int v5_9])), (a5_1, .inl (cyI, 400, .inl r_16.2.2)), (o6, .inr (6, [.ref o7, .ref o4, .ref o0, .ref o5]))]) [1, 2, 0] (by decide) rfl
    exact W.vret hx hb hr (fun t ht hW => ⟨⟨(), rfl, trivial, by rw [ht]; exact hP9, va_K.moved hW.alike hK, hD9⟩, hS.F ht⟩) hS.2.2 dX6_store_33

def f_X6_increase (v5_2 : Int32) (v5_6 : Int32) (g5_1 : Nat → Int32) (p1 : Int32) : Option (Int32) := (f_X5_localAt v5_2 g5_1 p1) >>= (fun r_1 => if r_1 = (1 : Int32) then some v5_6 else some 1)
theorem i_X6_increase_X5 : ∀ w ∈ wsX50, w ∈ wsX6_increase := fun _ h => List.mem_cons_of_mem _ (List.mem_append_right _ h)
theorem i_X6_increase_X6 : ∀ w ∈ wsX60, w ∈ wsX6_increase := fun _ h => List.mem_cons_of_mem _ (List.mem_append_left _ (List.mem_append_right _ h))
set_option maxHeartbeats 4000000 in
set_option maxRecDepth 100000 in
theorem c_X6_increase (l : Launch) (dC : Nat → ClassId) (dI : Nat → Nat → Nat) (cyI cyZ cyJ : ClassId) (sz : Nat) (o5 : Nat) (o7 : Nat) (a5_1 : Nat) (v5_2 : Int32) (v5_3 : Int32) (v5_4 : Int32) (v5_5 : Int32) (v5_6 : Int32) (v5_7 : Int32) (v5_8 : Int32) (v5_9 : Int32) (g5_1 : Nat → Int32) (o6 : Nat) (o4 : Nat) (o0 : Nat) (p1 : Int32) (R : Int32) (hf : f_X6_increase v5_2 v5_6 g5_1 p1 = some R) : Met l yX6_increase wsX6_increase ({ frames := 1, cells := 0, slots := 0, locals := 21 }) (va_Pc [.ref o6, .int p1] (x_PreD (dC, dI) (x_T cyI cyZ cyJ) [(o5, .inr (5, [.ref o7, .ref a5_1, .int v5_2, .int v5_3, .int v5_4, .int v5_5, .int v5_6, .int v5_7, .int v5_8, .int v5_9])), (a5_1, .inl (cyI, 400, .inl g5_1)), (o6, .inr (6, [.ref o7, .ref o4, .ref o0, .ref o5]))] sz)) (va_Qv (fun _ : Unit => True) (fun (_ : Unit) (t : State) => va_P (dC, dI) vwCl [(o5, .inr (5, [.ref o7, .ref a5_1, .int v5_2, .int v5_3, .int v5_4, .int v5_5, .int R, .int v5_7, .int v5_8, .int v5_9])), (a5_1, .inl (cyI, 400, .inl g5_1)), (o6, .inr (6, [.ref o7, .ref o4, .ref o0, .ref o5]))] t.heap ∧ va_K (dC, dI) vwCl (x_T cyI cyZ cyJ) t ∧ va_D (va_A [(o5, .inr (5, [.ref o7, .ref a5_1, .int v5_2, .int v5_3, .int v5_4, .int v5_5, .int v5_6, .int v5_7, .int v5_8, .int v5_9])), (a5_1, .inl (cyI, 400, .inl g5_1)), (o6, .inr (6, [.ref o7, .ref o4, .ref o0, .ref o5]))] sz) [(o5, .inr (5, [.ref o7, .ref a5_1, .int v5_2, .int v5_3, .int v5_4, .int v5_5, .int R, .int v5_7, .int v5_8, .int v5_9])), (a5_1, .inl (cyI, 400, .inl g5_1)), (o6, .inr (6, [.ref o7, .ref o4, .ref o0, .ref o5]))]) (va_A [(o5, .inr (5, [.ref o7, .ref a5_1, .int v5_2, .int v5_3, .int v5_4, .int v5_5, .int v5_6, .int v5_7, .int v5_8, .int v5_9])), (a5_1, .inl (cyI, 400, .inl g5_1)), (o6, .inr (6, [.ref o7, .ref o4, .ref o0, .ref o5]))] sz)) 0 0 (va_A [(o5, .inr (5, [.ref o7, .ref a5_1, .int v5_2, .int v5_3, .int v5_4, .int v5_5, .int v5_6, .int v5_7, .int v5_8, .int v5_9])), (a5_1, .inl (cyI, 400, .inl g5_1)), (o6, .inr (6, [.ref o7, .ref o4, .ref o0, .ref o5]))] sz) := by
  refine Met.ofW (cc := cX6_increase) (maxL := 2) (ret := none) (by decide) rfl ?_
  intro p e s m args below meth c s₁ B hml hv
  obtain ⟨rfl, ⟨hsz, hP, hK, hN⟩, hD0⟩ := hv
  have hx := B.exec
  have hb := B.bytes
  have hr := B.returns
  have hts := atoms_spec (ws := wsX6_increase) B.pre
  have hown : s.vm.findClass RX6 = some m.cls := findClass_of_methodNamed B.named
  have k_1 := hts (.fieldLink RX6 23 "FlowJudge$Steps" "places" "LFlowJudge$Places;") (by decide +kernel)
  subst hsz
  have hD := hD0.self (sz := s.heap.size)
  generalize hAe : va_A [(o5, .inr (5, [.ref o7, .ref a5_1, .int v5_2, .int v5_3, .int v5_4, .int v5_5, .int v5_6, .int v5_7, .int v5_8, .int v5_9])), (a5_1, .inl (cyI, 400, .inl g5_1)), (o6, .inr (6, [.ref o7, .ref o4, .ref o0, .ref o5]))] s.heap.size = A at hD ⊢
  have hA : ∀ q : Nat, s.heap.size ≤ q → A q := fun q h => by rw [← hAe]; exact Or.inr h
  have hP : va_P (dC, dI) vwCl [(o5, .inr (5, [.ref o7, .ref a5_1, .int v5_2, .int v5_3, .int v5_4, .int v5_5, .int v5_6, .int v5_7, .int v5_8, .int v5_9])), (a5_1, .inl (cyI, 400, .inl g5_1)), (o6, .inr (6, [.ref o7, .ref o4, .ref o0, .ref o5]))] s.heap := hP
  have hl := lv_entry ([.ref o6, .int p1]) (n := 2) (Nat.le_of_ble_eq_true rfl)
  rw [lg_entry_eq]
  generalize (lg_sl ([.ref o6, .int p1]) ++ List.replicate (2 - (lg_sl ([.ref o6, .int p1])).length) Slot.unset).toArray = ls at hl ⊢
  have hl : lv_has ls 2 [(0, .ref o6), (1, .int p1)] := hl
  obtain ⟨H, hH⟩ : ∃ z, z = s.heap := ⟨_, rfl⟩
  refine x_here hH ?_
  have hP : va_P (dC, dI) vwCl [(o5, .inr (5, [.ref o7, .ref a5_1, .int v5_2, .int v5_3, .int v5_4, .int v5_5, .int v5_6, .int v5_7, .int v5_8, .int v5_9])), (a5_1, .inl (cyI, 400, .inl g5_1)), (o6, .inr (6, [.ref o7, .ref o4, .ref o0, .ref o5]))] H := by rw [hH]; exact hP
  have hS : va_S A s.heap H [] := by rw [hH]; exact va_S.rf
  clear hH
  obtain ⟨locs, hlo⟩ : ∃ z : List Loc, z = [] := ⟨_, rfl⟩
  refine x_herl hlo ?_
  have hS : va_S A s.heap H locs := by rw [hlo]; exact hS
  clear hlo
  unfold f_X6_increase at hf
  refine lv_aload_n hx hb dX6_increase_0 rfl (lv_at hl 0 rfl) ?_
  refine va_get (D := (dC, dI)) (ci := 6) (v := .ref o5) (C := RX6) (T := TX6) (N := 4) hx hb hts i_X6_increase_X6 hown hK hP 2 rfl rfl 3 (by decide) k_1 (fun _ h9 => h9) rfl dX6_increase_1 ?_
  refine lv_iload_n hx hb dX6_increase_4 rfl (lv_at hl 1 rfl) ?_
  obtain ⟨r_1, h_1, hf⟩ := x_bi hf
  have hPc := hP.sub (ws' := [(o5, .inr (5, [.ref o7, .ref a5_1, .int v5_2, .int v5_3, .int v5_4, .int v5_5, .int v5_6, .int v5_7, .int v5_8, .int v5_9])), (a5_1, .inl (cyI, 400, .inl g5_1))]) [0, 1] rfl
  refine va_calli (va_runV (As := [.int p1]) (rest := []) ⟨hx, hb, hml, hown, hts⟩ (c_X5_localAt l dC dI cyI cyZ cyJ H.size o5 o7 a5_1 v5_2 v5_3 v5_4 v5_5 v5_6 v5_7 v5_8 v5_9 g5_1 p1 r_1 h_1) (cwV 1 hts gX6_increase_X5_localAt rfl rfl rfl (by decide +kernel) ⟨Nat.le_of_ble_eq_true rfl, Nat.le_of_ble_eq_true rfl⟩) (x_pV hN hK hPc (ci := 5) (q0 := 0) rfl rfl) rfl rfl hl.1 rfl (lv_room (Nat.le_of_ble_eq_true rfl)) dX6_increase_5 ⟨Nat.le_of_ble_eq_true rfl, Nat.le_of_ble_eq_true rfl⟩) hS x_nA (x_nf hA hS) (fun q_1 u t H1 locs ht hvm hw hB hz1 hk1 hS => ?_)
  have hP := x_kp hP hk1
  clear ht hvm hB hz1 hk1 t u hPc
  generalize H1 = H at hP hS ⊢
  obtain rfl := hw.symm
  refine lv_iconst (v := 1) hx hb dX6_increase_8 (by decide) ?_
  refine lv_icmp_eq (tgt := 20) hx hb dX6_increase_9 (by decide) (fun c_2 => ?_) (fun c_2 => ?_)
  · replace hf := x_ip c_2 hf
    obtain rfl := Option.some.inj hf
    have hP9 := hP.sub (ws' := [(o5, .inr (5, [.ref o7, .ref a5_1, .int v5_2, .int v5_3, .int v5_4, .int v5_5, .int v5_6, .int v5_7, .int v5_8, .int v5_9])), (a5_1, .inl (cyI, 400, .inl g5_1)), (o6, .inr (6, [.ref o7, .ref o4, .ref o0, .ref o5]))]) [0, 1, 2] rfl
    have hD9 := hD.sub (ws' := [(o5, .inr (5, [.ref o7, .ref a5_1, .int v5_2, .int v5_3, .int v5_4, .int v5_5, .int v5_6, .int v5_7, .int v5_8, .int v5_9])), (a5_1, .inl (cyI, 400, .inl g5_1)), (o6, .inr (6, [.ref o7, .ref o4, .ref o0, .ref o5]))]) [0, 1, 2] (by decide) rfl
    exact W.vret hx hb hr (fun t ht hW => ⟨⟨(), rfl, trivial, by rw [ht]; exact hP9, va_K.moved hW.alike hK, hD9⟩, hS.F ht⟩) hS.2.2 dX6_increase_20
  · replace hf := x_in c_2 hf
    refine lv_aload_n hx hb dX6_increase_12 rfl (lv_at hl 0 rfl) ?_
    refine va_get (D := (dC, dI)) (ci := 6) (v := .ref o5) (C := RX6) (T := TX6) (N := 4) hx hb hts i_X6_increase_X6 hown hK hP 2 rfl rfl 3 (by decide) k_1 (fun _ h9 => h9) rfl dX6_increase_13 ?_
    refine lv_iconst (v := 1) hx hb dX6_increase_16 (by decide) ?_
    refine va_putN (D := (dC, dI)) (ci := 5) (v := .int 1) (ty := .boolean) (C := RX5) (T := TX5) (N := 10) hx hb hts i_X6_increase_X5 tyX5 tyX5_ok nmX5 hown hK hP hD hS 0 rfl rfl 6 (by decide) ((hN.1 ("FlowJudge$Steps", 105, "FlowJudge$Places", "refused", "Z") (List.mem_of_getElem? (i := 47) rfl)).use rfl) (fun _ h9 => h9) rfl (by decide +kernel) rfl rfl (Nat.le_of_ble_eq_true rfl) dX6_increase_17 (fun H locs hP hD hS => ?_)
    have hP : va_P (dC, dI) vwCl [(o5, .inr (5, [.ref o7, .ref a5_1, .int v5_2, .int v5_3, .int v5_4, .int v5_5, .int 1, .int v5_7, .int v5_8, .int v5_9])), (a5_1, .inl (cyI, 400, .inl g5_1)), (o6, .inr (6, [.ref o7, .ref o4, .ref o0, .ref o5]))] H := hP
    have hD : va_D A [(o5, .inr (5, [.ref o7, .ref a5_1, .int v5_2, .int v5_3, .int v5_4, .int v5_5, .int 1, .int v5_7, .int v5_8, .int v5_9])), (a5_1, .inl (cyI, 400, .inl g5_1)), (o6, .inr (6, [.ref o7, .ref o4, .ref o0, .ref o5]))] := hD
    obtain rfl := Option.some.inj hf
    have hP9 := hP.sub (ws' := [(o5, .inr (5, [.ref o7, .ref a5_1, .int v5_2, .int v5_3, .int v5_4, .int v5_5, .int 1, .int v5_7, .int v5_8, .int v5_9])), (a5_1, .inl (cyI, 400, .inl g5_1)), (o6, .inr (6, [.ref o7, .ref o4, .ref o0, .ref o5]))]) [0, 1, 2] rfl
    have hD9 := hD.sub (ws' := [(o5, .inr (5, [.ref o7, .ref a5_1, .int v5_2, .int v5_3, .int v5_4, .int v5_5, .int 1, .int v5_7, .int v5_8, .int v5_9])), (a5_1, .inl (cyI, 400, .inl g5_1)), (o6, .inr (6, [.ref o7, .ref o4, .ref o0, .ref o5]))]) [0, 1, 2] (by decide) rfl
    exact W.vret hx hb hr (fun t ht hW => ⟨⟨(), rfl, trivial, by rw [ht]; exact hP9, va_K.moved hW.alike hK, hD9⟩, hS.F ht⟩) hS.2.2 dX6_increase_20

def f_X6_lookAtArray (v5_6 : Int32) (p1 : Int32) (p2 : Int32) : Option (Int32) := if p1 < (0 : Int32) then if v5_6 = (0 : Int32) then some 0 else some 1 else if p1 = ((65536 : Int32) + p2) then if v5_6 = (0 : Int32) then some 0 else some 1 else if p2 = (65532 : Int32) then if p1 = (131064 : Int32) then if v5_6 = (0 : Int32) then some 0 else some 1 else if v5_6 = (0 : Int32) then some 1 else some 1 else if v5_6 = (0 : Int32) then some 1 else some 1
theorem i_X6_lookAtArray_X5 : ∀ w ∈ wsX50, w ∈ wsX6_lookAtArray := fun _ h => List.mem_cons_of_mem _ (List.mem_append_right _ h)
theorem i_X6_lookAtArray_X6 : ∀ w ∈ wsX60, w ∈ wsX6_lookAtArray := fun _ h => List.mem_cons_of_mem _ (List.mem_append_left _ (List.mem_append_right _ h))
set_option maxHeartbeats 4000000 in
set_option maxRecDepth 100000 in
theorem c_X6_lookAtArray (l : Launch) (dC : Nat → ClassId) (dI : Nat → Nat → Nat) (cyI cyZ cyJ : ClassId) (sz : Nat) (o5 : Nat) (o7 : Nat) (a5_1 : Nat) (v5_2 : Int32) (v5_3 : Int32) (v5_4 : Int32) (v5_5 : Int32) (v5_6 : Int32) (v5_7 : Int32) (v5_8 : Int32) (v5_9 : Int32) (o6 : Nat) (o4 : Nat) (o0 : Nat) (p1 : Int32) (p2 : Int32) (R : Int32) (hf : f_X6_lookAtArray v5_6 p1 p2 = some R) : Met l yX6_lookAtArray wsX6_lookAtArray ({ frames := 0, cells := 0, slots := 0, locals := 0 }) (va_Pc [.ref o6, .int p1, .int p2] (x_PreD (dC, dI) (x_T cyI cyZ cyJ) [(o5, .inr (5, [.ref o7, .ref a5_1, .int v5_2, .int v5_3, .int v5_4, .int v5_5, .int v5_6, .int v5_7, .int v5_8, .int v5_9])), (o6, .inr (6, [.ref o7, .ref o4, .ref o0, .ref o5]))] sz)) (va_Qv (fun _ : Unit => True) (fun (_ : Unit) (t : State) => va_P (dC, dI) vwCl [(o5, .inr (5, [.ref o7, .ref a5_1, .int v5_2, .int v5_3, .int v5_4, .int v5_5, .int R, .int v5_7, .int v5_8, .int v5_9])), (o6, .inr (6, [.ref o7, .ref o4, .ref o0, .ref o5]))] t.heap ∧ va_K (dC, dI) vwCl (x_T cyI cyZ cyJ) t ∧ va_D (va_A [(o5, .inr (5, [.ref o7, .ref a5_1, .int v5_2, .int v5_3, .int v5_4, .int v5_5, .int v5_6, .int v5_7, .int v5_8, .int v5_9])), (o6, .inr (6, [.ref o7, .ref o4, .ref o0, .ref o5]))] sz) [(o5, .inr (5, [.ref o7, .ref a5_1, .int v5_2, .int v5_3, .int v5_4, .int v5_5, .int R, .int v5_7, .int v5_8, .int v5_9])), (o6, .inr (6, [.ref o7, .ref o4, .ref o0, .ref o5]))]) (va_A [(o5, .inr (5, [.ref o7, .ref a5_1, .int v5_2, .int v5_3, .int v5_4, .int v5_5, .int v5_6, .int v5_7, .int v5_8, .int v5_9])), (o6, .inr (6, [.ref o7, .ref o4, .ref o0, .ref o5]))] sz)) 0 0 (va_A [(o5, .inr (5, [.ref o7, .ref a5_1, .int v5_2, .int v5_3, .int v5_4, .int v5_5, .int v5_6, .int v5_7, .int v5_8, .int v5_9])), (o6, .inr (6, [.ref o7, .ref o4, .ref o0, .ref o5]))] sz) := by
  refine Met.ofW (cc := cX6_lookAtArray) (maxL := 4) (ret := none) (by decide) rfl ?_
  intro p e s m args below meth c s₁ B hml hv
  obtain ⟨rfl, ⟨hsz, hP, hK, hN⟩, hD0⟩ := hv
  have hx := B.exec
  have hb := B.bytes
  have hr := B.returns
  have hts := atoms_spec (ws := wsX6_lookAtArray) B.pre
  have hown : s.vm.findClass RX6 = some m.cls := findClass_of_methodNamed B.named
  have k_1 := hts (.fieldLink RX6 23 "FlowJudge$Steps" "places" "LFlowJudge$Places;") (by decide +kernel)
  have k_2 := hts (.constant RX6 122 (65536)) (by decide +kernel)
  have k_3 := hts (.constant RX6 137 (65532)) (by decide +kernel)
  have k_4 := hts (.constant RX6 138 (131064)) (by decide +kernel)
  subst hsz
  have hD := hD0.self (sz := s.heap.size)
  generalize hAe : va_A [(o5, .inr (5, [.ref o7, .ref a5_1, .int v5_2, .int v5_3, .int v5_4, .int v5_5, .int v5_6, .int v5_7, .int v5_8, .int v5_9])), (o6, .inr (6, [.ref o7, .ref o4, .ref o0, .ref o5]))] s.heap.size = A at hD ⊢
  have hA : ∀ q : Nat, s.heap.size ≤ q → A q := fun q h => by rw [← hAe]; exact Or.inr h
  have hP : va_P (dC, dI) vwCl [(o5, .inr (5, [.ref o7, .ref a5_1, .int v5_2, .int v5_3, .int v5_4, .int v5_5, .int v5_6, .int v5_7, .int v5_8, .int v5_9])), (o6, .inr (6, [.ref o7, .ref o4, .ref o0, .ref o5]))] s.heap := hP
  have hl := lv_entry ([.ref o6, .int p1, .int p2]) (n := 4) (Nat.le_of_ble_eq_true rfl)
  rw [lg_entry_eq]
  generalize (lg_sl ([.ref o6, .int p1, .int p2]) ++ List.replicate (4 - (lg_sl ([.ref o6, .int p1, .int p2])).length) Slot.unset).toArray = ls at hl ⊢
  have hl : lv_has ls 4 [(0, .ref o6), (1, .int p1), (2, .int p2)] := hl
  obtain ⟨H, hH⟩ : ∃ z, z = s.heap := ⟨_, rfl⟩
  refine x_here hH ?_
  have hP : va_P (dC, dI) vwCl [(o5, .inr (5, [.ref o7, .ref a5_1, .int v5_2, .int v5_3, .int v5_4, .int v5_5, .int v5_6, .int v5_7, .int v5_8, .int v5_9])), (o6, .inr (6, [.ref o7, .ref o4, .ref o0, .ref o5]))] H := by rw [hH]; exact hP
  have hS : va_S A s.heap H [] := by rw [hH]; exact va_S.rf
  clear hH
  obtain ⟨locs, hlo⟩ : ∃ z : List Loc, z = [] := ⟨_, rfl⟩
  refine x_herl hlo ?_
  have hS : va_S A s.heap H locs := by rw [hlo]; exact hS
  clear hlo
  unfold f_X6_lookAtArray at hf
  refine lv_iload_n hx hb dX6_lookAtArray_0 rfl (lv_at hl 1 rfl) ?_
  refine lv_if_lt (tgt := 24) hx hb dX6_lookAtArray_1 (by decide) (fun c_1 => ?_) (fun c_1 => ?_)
  · replace hf := x_ip c_1 hf
    refine lv_iconst (v := 1) hx hb dX6_lookAtArray_24 (by decide) ?_
    refine lv_goto (tgt := 29) hx hb dX6_lookAtArray_25 (by decide) ?_
    refine lv_istore_n (lv' := [(3, .int 1), (0, .ref o6), (1, .int p1), (2, .int p2)]) hx hb dX6_lookAtArray_29 rfl hl (by decide) rfl (fun ls hl => ?_)
    refine lv_aload_n hx hb dX6_lookAtArray_30 rfl (lv_at hl 1 rfl) ?_
    refine va_get (D := (dC, dI)) (ci := 6) (v := .ref o5) (C := RX6) (T := TX6) (N := 4) hx hb hts i_X6_lookAtArray_X6 hown hK hP 1 rfl rfl 3 (by decide) k_1 (fun _ h9 => h9) rfl dX6_lookAtArray_31 ?_
    refine lv_aload_n hx hb dX6_lookAtArray_34 rfl (lv_at hl 1 rfl) ?_
    refine va_get (D := (dC, dI)) (ci := 6) (v := .ref o5) (C := RX6) (T := TX6) (N := 4) hx hb hts i_X6_lookAtArray_X6 hown hK hP 1 rfl rfl 3 (by decide) k_1 (fun _ h9 => h9) rfl dX6_lookAtArray_35 ?_
    refine va_getN (D := (dC, dI)) (ci := 5) (v := .int v5_6) (C := RX5) (T := TX5) (N := 10) hx hb hts i_X6_lookAtArray_X5 hown hK hP 0 rfl rfl 6 (by decide) ((hN.1 ("FlowJudge$Steps", 105, "FlowJudge$Places", "refused", "Z") (List.mem_of_getElem? (i := 47) rfl)).use rfl) (fun _ h9 => h9) rfl dX6_lookAtArray_38 ?_
    refine lv_if_ne (tgt := 48) hx hb dX6_lookAtArray_41 (by decide) (fun c_2 => ?_) (fun c_2 => ?_)
    · replace hf := x_in c_2 hf
      refine lv_iconst (v := 1) hx hb dX6_lookAtArray_48 (by decide) ?_
      refine lv_goto (tgt := 53) hx hb dX6_lookAtArray_49 (by decide) ?_
      refine va_putN (D := (dC, dI)) (ci := 5) (v := .int 1) (ty := .boolean) (C := RX5) (T := TX5) (N := 10) hx hb hts i_X6_lookAtArray_X5 tyX5 tyX5_ok nmX5 hown hK hP hD hS 0 rfl rfl 6 (by decide) ((hN.1 ("FlowJudge$Steps", 105, "FlowJudge$Places", "refused", "Z") (List.mem_of_getElem? (i := 47) rfl)).use rfl) (fun _ h9 => h9) rfl (by decide +kernel) rfl rfl (Nat.le_of_ble_eq_true rfl) dX6_lookAtArray_53 (fun H locs hP hD hS => ?_)
      have hP : va_P (dC, dI) vwCl [(o5, .inr (5, [.ref o7, .ref a5_1, .int v5_2, .int v5_3, .int v5_4, .int v5_5, .int 1, .int v5_7, .int v5_8, .int v5_9])), (o6, .inr (6, [.ref o7, .ref o4, .ref o0, .ref o5]))] H := hP
      have hD : va_D A [(o5, .inr (5, [.ref o7, .ref a5_1, .int v5_2, .int v5_3, .int v5_4, .int v5_5, .int 1, .int v5_7, .int v5_8, .int v5_9])), (o6, .inr (6, [.ref o7, .ref o4, .ref o0, .ref o5]))] := hD
      obtain rfl := Option.some.inj hf
      have hP9 := hP.sub (ws' := [(o5, .inr (5, [.ref o7, .ref a5_1, .int v5_2, .int v5_3, .int v5_4, .int v5_5, .int 1, .int v5_7, .int v5_8, .int v5_9])), (o6, .inr (6, [.ref o7, .ref o4, .ref o0, .ref o5]))]) [0, 1] rfl
      have hD9 := hD.sub (ws' := [(o5, .inr (5, [.ref o7, .ref a5_1, .int v5_2, .int v5_3, .int v5_4, .int v5_5, .int 1, .int v5_7, .int v5_8, .int v5_9])), (o6, .inr (6, [.ref o7, .ref o4, .ref o0, .ref o5]))]) [0, 1] (by decide) rfl
      exact W.vret hx hb hr (fun t ht hW => ⟨⟨(), rfl, trivial, by rw [ht]; exact hP9, va_K.moved hW.alike hK, hD9⟩, hS.F ht⟩) hS.2.2 dX6_lookAtArray_56
    · replace hf := x_ip c_2 hf
      refine lv_iload_n hx hb dX6_lookAtArray_44 rfl (lv_at hl 0 rfl) ?_
      refine lv_if_ne (tgt := 52) hx hb dX6_lookAtArray_45 (by decide) (fun _ => ?_) (fun c_3 => absurd c_3 (by decide))
      refine lv_iconst (v := 0) hx hb dX6_lookAtArray_52 (by decide) ?_
      refine va_putN (D := (dC, dI)) (ci := 5) (v := .int 0) (ty := .boolean) (C := RX5) (T := TX5) (N := 10) hx hb hts i_X6_lookAtArray_X5 tyX5 tyX5_ok nmX5 hown hK hP hD hS 0 rfl rfl 6 (by decide) ((hN.1 ("FlowJudge$Steps", 105, "FlowJudge$Places", "refused", "Z") (List.mem_of_getElem? (i := 47) rfl)).use rfl) (fun _ h9 => h9) rfl (by decide +kernel) rfl rfl (Nat.le_of_ble_eq_true rfl) dX6_lookAtArray_53 (fun H locs hP hD hS => ?_)
      have hP : va_P (dC, dI) vwCl [(o5, .inr (5, [.ref o7, .ref a5_1, .int v5_2, .int v5_3, .int v5_4, .int v5_5, .int 0, .int v5_7, .int v5_8, .int v5_9])), (o6, .inr (6, [.ref o7, .ref o4, .ref o0, .ref o5]))] H := hP
      have hD : va_D A [(o5, .inr (5, [.ref o7, .ref a5_1, .int v5_2, .int v5_3, .int v5_4, .int v5_5, .int 0, .int v5_7, .int v5_8, .int v5_9])), (o6, .inr (6, [.ref o7, .ref o4, .ref o0, .ref o5]))] := hD
      obtain rfl := Option.some.inj hf
      have hP9 := hP.sub (ws' := [(o5, .inr (5, [.ref o7, .ref a5_1, .int v5_2, .int v5_3, .int v5_4, .int v5_5, .int 0, .int v5_7, .int v5_8, .int v5_9])), (o6, .inr (6, [.ref o7, .ref o4, .ref o0, .ref o5]))]) [0, 1] rfl
      have hD9 := hD.sub (ws' := [(o5, .inr (5, [.ref o7, .ref a5_1, .int v5_2, .int v5_3, .int v5_4, .int v5_5, .int 0, .int v5_7, .int v5_8, .int v5_9])), (o6, .inr (6, [.ref o7, .ref o4, .ref o0, .ref o5]))]) [0, 1] (by decide) rfl
      exact W.vret hx hb hr (fun t ht hW => ⟨⟨(), rfl, trivial, by rw [ht]; exact hP9, va_K.moved hW.alike hK, hD9⟩, hS.F ht⟩) hS.2.2 dX6_lookAtArray_56
  · replace hf := x_in c_1 hf
    refine lv_iload_n hx hb dX6_lookAtArray_4 rfl (lv_at hl 1 rfl) ?_
    refine lv_ldc (v := 65536) hx hb hown k_2 dX6_lookAtArray_5 ?_
    refine lv_iload_n hx hb dX6_lookAtArray_7 rfl (lv_at hl 2 rfl) ?_
    refine lv_iadd hx hb dX6_lookAtArray_8 ?_
    refine lv_icmp_eq (tgt := 24) hx hb dX6_lookAtArray_9 (by decide) (fun c_4 => ?_) (fun c_4 => ?_)
    · replace hf := x_ip c_4 hf
      refine lv_iconst (v := 1) hx hb dX6_lookAtArray_24 (by decide) ?_
      refine lv_goto (tgt := 29) hx hb dX6_lookAtArray_25 (by decide) ?_
      refine lv_istore_n (lv' := [(3, .int 1), (0, .ref o6), (1, .int p1), (2, .int p2)]) hx hb dX6_lookAtArray_29 rfl hl (by decide) rfl (fun ls hl => ?_)
      refine lv_aload_n hx hb dX6_lookAtArray_30 rfl (lv_at hl 1 rfl) ?_
      refine va_get (D := (dC, dI)) (ci := 6) (v := .ref o5) (C := RX6) (T := TX6) (N := 4) hx hb hts i_X6_lookAtArray_X6 hown hK hP 1 rfl rfl 3 (by decide) k_1 (fun _ h9 => h9) rfl dX6_lookAtArray_31 ?_
      refine lv_aload_n hx hb dX6_lookAtArray_34 rfl (lv_at hl 1 rfl) ?_
      refine va_get (D := (dC, dI)) (ci := 6) (v := .ref o5) (C := RX6) (T := TX6) (N := 4) hx hb hts i_X6_lookAtArray_X6 hown hK hP 1 rfl rfl 3 (by decide) k_1 (fun _ h9 => h9) rfl dX6_lookAtArray_35 ?_
      refine va_getN (D := (dC, dI)) (ci := 5) (v := .int v5_6) (C := RX5) (T := TX5) (N := 10) hx hb hts i_X6_lookAtArray_X5 hown hK hP 0 rfl rfl 6 (by decide) ((hN.1 ("FlowJudge$Steps", 105, "FlowJudge$Places", "refused", "Z") (List.mem_of_getElem? (i := 47) rfl)).use rfl) (fun _ h9 => h9) rfl dX6_lookAtArray_38 ?_
      refine lv_if_ne (tgt := 48) hx hb dX6_lookAtArray_41 (by decide) (fun c_5 => ?_) (fun c_5 => ?_)
      · replace hf := x_in c_5 hf
        refine lv_iconst (v := 1) hx hb dX6_lookAtArray_48 (by decide) ?_
        refine lv_goto (tgt := 53) hx hb dX6_lookAtArray_49 (by decide) ?_
        refine va_putN (D := (dC, dI)) (ci := 5) (v := .int 1) (ty := .boolean) (C := RX5) (T := TX5) (N := 10) hx hb hts i_X6_lookAtArray_X5 tyX5 tyX5_ok nmX5 hown hK hP hD hS 0 rfl rfl 6 (by decide) ((hN.1 ("FlowJudge$Steps", 105, "FlowJudge$Places", "refused", "Z") (List.mem_of_getElem? (i := 47) rfl)).use rfl) (fun _ h9 => h9) rfl (by decide +kernel) rfl rfl (Nat.le_of_ble_eq_true rfl) dX6_lookAtArray_53 (fun H locs hP hD hS => ?_)
        have hP : va_P (dC, dI) vwCl [(o5, .inr (5, [.ref o7, .ref a5_1, .int v5_2, .int v5_3, .int v5_4, .int v5_5, .int 1, .int v5_7, .int v5_8, .int v5_9])), (o6, .inr (6, [.ref o7, .ref o4, .ref o0, .ref o5]))] H := hP
        have hD : va_D A [(o5, .inr (5, [.ref o7, .ref a5_1, .int v5_2, .int v5_3, .int v5_4, .int v5_5, .int 1, .int v5_7, .int v5_8, .int v5_9])), (o6, .inr (6, [.ref o7, .ref o4, .ref o0, .ref o5]))] := hD
        obtain rfl := Option.some.inj hf
        have hP9 := hP.sub (ws' := [(o5, .inr (5, [.ref o7, .ref a5_1, .int v5_2, .int v5_3, .int v5_4, .int v5_5, .int 1, .int v5_7, .int v5_8, .int v5_9])), (o6, .inr (6, [.ref o7, .ref o4, .ref o0, .ref o5]))]) [0, 1] rfl
        have hD9 := hD.sub (ws' := [(o5, .inr (5, [.ref o7, .ref a5_1, .int v5_2, .int v5_3, .int v5_4, .int v5_5, .int 1, .int v5_7, .int v5_8, .int v5_9])), (o6, .inr (6, [.ref o7, .ref o4, .ref o0, .ref o5]))]) [0, 1] (by decide) rfl
        exact W.vret hx hb hr (fun t ht hW => ⟨⟨(), rfl, trivial, by rw [ht]; exact hP9, va_K.moved hW.alike hK, hD9⟩, hS.F ht⟩) hS.2.2 dX6_lookAtArray_56
      · replace hf := x_ip c_5 hf
        refine lv_iload_n hx hb dX6_lookAtArray_44 rfl (lv_at hl 0 rfl) ?_
        refine lv_if_ne (tgt := 52) hx hb dX6_lookAtArray_45 (by decide) (fun _ => ?_) (fun c_6 => absurd c_6 (by decide))
        refine lv_iconst (v := 0) hx hb dX6_lookAtArray_52 (by decide) ?_
        refine va_putN (D := (dC, dI)) (ci := 5) (v := .int 0) (ty := .boolean) (C := RX5) (T := TX5) (N := 10) hx hb hts i_X6_lookAtArray_X5 tyX5 tyX5_ok nmX5 hown hK hP hD hS 0 rfl rfl 6 (by decide) ((hN.1 ("FlowJudge$Steps", 105, "FlowJudge$Places", "refused", "Z") (List.mem_of_getElem? (i := 47) rfl)).use rfl) (fun _ h9 => h9) rfl (by decide +kernel) rfl rfl (Nat.le_of_ble_eq_true rfl) dX6_lookAtArray_53 (fun H locs hP hD hS => ?_)
        have hP : va_P (dC, dI) vwCl [(o5, .inr (5, [.ref o7, .ref a5_1, .int v5_2, .int v5_3, .int v5_4, .int v5_5, .int 0, .int v5_7, .int v5_8, .int v5_9])), (o6, .inr (6, [.ref o7, .ref o4, .ref o0, .ref o5]))] H := hP
        have hD : va_D A [(o5, .inr (5, [.ref o7, .ref a5_1, .int v5_2, .int v5_3, .int v5_4, .int v5_5, .int 0, .int v5_7, .int v5_8, .int v5_9])), (o6, .inr (6, [.ref o7, .ref o4, .ref o0, .ref o5]))] := hD
        obtain rfl := Option.some.inj hf
        have hP9 := hP.sub (ws' := [(o5, .inr (5, [.ref o7, .ref a5_1, .int v5_2, .int v5_3, .int v5_4, .int v5_5, .int 0, .int v5_7, .int v5_8, .int v5_9])), (o6, .inr (6, [.ref o7, .ref o4, .ref o0, .ref o5]))]) [0, 1] rfl
        have hD9 := hD.sub (ws' := [(o5, .inr (5, [.ref o7, .ref a5_1, .int v5_2, .int v5_3, .int v5_4, .int v5_5, .int 0, .int v5_7, .int v5_8, .int v5_9])), (o6, .inr (6, [.ref o7, .ref o4, .ref o0, .ref o5]))]) [0, 1] (by decide) rfl
        exact W.vret hx hb hr (fun t ht hW => ⟨⟨(), rfl, trivial, by rw [ht]; exact hP9, va_K.moved hW.alike hK, hD9⟩, hS.F ht⟩) hS.2.2 dX6_lookAtArray_56
    · replace hf := x_in c_4 hf
      refine lv_iload_n hx hb dX6_lookAtArray_12 rfl (lv_at hl 2 rfl) ?_
      refine lv_ldc (v := 65532) hx hb hown k_3 dX6_lookAtArray_13 ?_
      refine lv_icmp_ne (tgt := 28) hx hb dX6_lookAtArray_15 (by decide) (fun c_7 => ?_) (fun c_7 => ?_)
      · replace hf := x_in c_7 hf
        refine lv_iconst (v := 0) hx hb dX6_lookAtArray_28 (by decide) ?_
        refine lv_istore_n (lv' := [(3, .int 0), (0, .ref o6), (1, .int p1), (2, .int p2)]) hx hb dX6_lookAtArray_29 rfl hl (by decide) rfl (fun ls hl => ?_)
        refine lv_aload_n hx hb dX6_lookAtArray_30 rfl (lv_at hl 1 rfl) ?_
        refine va_get (D := (dC, dI)) (ci := 6) (v := .ref o5) (C := RX6) (T := TX6) (N := 4) hx hb hts i_X6_lookAtArray_X6 hown hK hP 1 rfl rfl 3 (by decide) k_1 (fun _ h9 => h9) rfl dX6_lookAtArray_31 ?_
        refine lv_aload_n hx hb dX6_lookAtArray_34 rfl (lv_at hl 1 rfl) ?_
        refine va_get (D := (dC, dI)) (ci := 6) (v := .ref o5) (C := RX6) (T := TX6) (N := 4) hx hb hts i_X6_lookAtArray_X6 hown hK hP 1 rfl rfl 3 (by decide) k_1 (fun _ h9 => h9) rfl dX6_lookAtArray_35 ?_
        refine va_getN (D := (dC, dI)) (ci := 5) (v := .int v5_6) (C := RX5) (T := TX5) (N := 10) hx hb hts i_X6_lookAtArray_X5 hown hK hP 0 rfl rfl 6 (by decide) ((hN.1 ("FlowJudge$Steps", 105, "FlowJudge$Places", "refused", "Z") (List.mem_of_getElem? (i := 47) rfl)).use rfl) (fun _ h9 => h9) rfl dX6_lookAtArray_38 ?_
        refine lv_if_ne (tgt := 48) hx hb dX6_lookAtArray_41 (by decide) (fun c_8 => ?_) (fun c_8 => ?_)
        · replace hf := x_in c_8 hf
          refine lv_iconst (v := 1) hx hb dX6_lookAtArray_48 (by decide) ?_
          refine lv_goto (tgt := 53) hx hb dX6_lookAtArray_49 (by decide) ?_
          refine va_putN (D := (dC, dI)) (ci := 5) (v := .int 1) (ty := .boolean) (C := RX5) (T := TX5) (N := 10) hx hb hts i_X6_lookAtArray_X5 tyX5 tyX5_ok nmX5 hown hK hP hD hS 0 rfl rfl 6 (by decide) ((hN.1 ("FlowJudge$Steps", 105, "FlowJudge$Places", "refused", "Z") (List.mem_of_getElem? (i := 47) rfl)).use rfl) (fun _ h9 => h9) rfl (by decide +kernel) rfl rfl (Nat.le_of_ble_eq_true rfl) dX6_lookAtArray_53 (fun H locs hP hD hS => ?_)
          have hP : va_P (dC, dI) vwCl [(o5, .inr (5, [.ref o7, .ref a5_1, .int v5_2, .int v5_3, .int v5_4, .int v5_5, .int 1, .int v5_7, .int v5_8, .int v5_9])), (o6, .inr (6, [.ref o7, .ref o4, .ref o0, .ref o5]))] H := hP
          have hD : va_D A [(o5, .inr (5, [.ref o7, .ref a5_1, .int v5_2, .int v5_3, .int v5_4, .int v5_5, .int 1, .int v5_7, .int v5_8, .int v5_9])), (o6, .inr (6, [.ref o7, .ref o4, .ref o0, .ref o5]))] := hD
          obtain rfl := Option.some.inj hf
          have hP9 := hP.sub (ws' := [(o5, .inr (5, [.ref o7, .ref a5_1, .int v5_2, .int v5_3, .int v5_4, .int v5_5, .int 1, .int v5_7, .int v5_8, .int v5_9])), (o6, .inr (6, [.ref o7, .ref o4, .ref o0, .ref o5]))]) [0, 1] rfl
          have hD9 := hD.sub (ws' := [(o5, .inr (5, [.ref o7, .ref a5_1, .int v5_2, .int v5_3, .int v5_4, .int v5_5, .int 1, .int v5_7, .int v5_8, .int v5_9])), (o6, .inr (6, [.ref o7, .ref o4, .ref o0, .ref o5]))]) [0, 1] (by decide) rfl
          exact W.vret hx hb hr (fun t ht hW => ⟨⟨(), rfl, trivial, by rw [ht]; exact hP9, va_K.moved hW.alike hK, hD9⟩, hS.F ht⟩) hS.2.2 dX6_lookAtArray_56
        · replace hf := x_ip c_8 hf
          refine lv_iload_n hx hb dX6_lookAtArray_44 rfl (lv_at hl 0 rfl) ?_
          refine lv_if_ne (tgt := 52) hx hb dX6_lookAtArray_45 (by decide) (fun c_9 => absurd (by decide) c_9) (fun _ => ?_)
          refine lv_iconst (v := 1) hx hb dX6_lookAtArray_48 (by decide) ?_
          refine lv_goto (tgt := 53) hx hb dX6_lookAtArray_49 (by decide) ?_
          refine va_putN (D := (dC, dI)) (ci := 5) (v := .int 1) (ty := .boolean) (C := RX5) (T := TX5) (N := 10) hx hb hts i_X6_lookAtArray_X5 tyX5 tyX5_ok nmX5 hown hK hP hD hS 0 rfl rfl 6 (by decide) ((hN.1 ("FlowJudge$Steps", 105, "FlowJudge$Places", "refused", "Z") (List.mem_of_getElem? (i := 47) rfl)).use rfl) (fun _ h9 => h9) rfl (by decide +kernel) rfl rfl (Nat.le_of_ble_eq_true rfl) dX6_lookAtArray_53 (fun H locs hP hD hS => ?_)
          have hP : va_P (dC, dI) vwCl [(o5, .inr (5, [.ref o7, .ref a5_1, .int v5_2, .int v5_3, .int v5_4, .int v5_5, .int 1, .int v5_7, .int v5_8, .int v5_9])), (o6, .inr (6, [.ref o7, .ref o4, .ref o0, .ref o5]))] H := hP
          have hD : va_D A [(o5, .inr (5, [.ref o7, .ref a5_1, .int v5_2, .int v5_3, .int v5_4, .int v5_5, .int 1, .int v5_7, .int v5_8, .int v5_9])), (o6, .inr (6, [.ref o7, .ref o4, .ref o0, .ref o5]))] := hD
          obtain rfl := Option.some.inj hf
          have hP9 := hP.sub (ws' := [(o5, .inr (5, [.ref o7, .ref a5_1, .int v5_2, .int v5_3, .int v5_4, .int v5_5, .int 1, .int v5_7, .int v5_8, .int v5_9])), (o6, .inr (6, [.ref o7, .ref o4, .ref o0, .ref o5]))]) [0, 1] rfl
          have hD9 := hD.sub (ws' := [(o5, .inr (5, [.ref o7, .ref a5_1, .int v5_2, .int v5_3, .int v5_4, .int v5_5, .int 1, .int v5_7, .int v5_8, .int v5_9])), (o6, .inr (6, [.ref o7, .ref o4, .ref o0, .ref o5]))]) [0, 1] (by decide) rfl
          exact W.vret hx hb hr (fun t ht hW => ⟨⟨(), rfl, trivial, by rw [ht]; exact hP9, va_K.moved hW.alike hK, hD9⟩, hS.F ht⟩) hS.2.2 dX6_lookAtArray_56
      · replace hf := x_ip c_7 hf
        refine lv_iload_n hx hb dX6_lookAtArray_18 rfl (lv_at hl 1 rfl) ?_
        refine lv_ldc (v := 131064) hx hb hown k_4 dX6_lookAtArray_19 ?_
        refine lv_icmp_ne (tgt := 28) hx hb dX6_lookAtArray_21 (by decide) (fun c_10 => ?_) (fun c_10 => ?_)
        · replace hf := x_in c_10 hf
          refine lv_iconst (v := 0) hx hb dX6_lookAtArray_28 (by decide) ?_
          refine lv_istore_n (lv' := [(3, .int 0), (0, .ref o6), (1, .int p1), (2, .int p2)]) hx hb dX6_lookAtArray_29 rfl hl (by decide) rfl (fun ls hl => ?_)
          refine lv_aload_n hx hb dX6_lookAtArray_30 rfl (lv_at hl 1 rfl) ?_
          refine va_get (D := (dC, dI)) (ci := 6) (v := .ref o5) (C := RX6) (T := TX6) (N := 4) hx hb hts i_X6_lookAtArray_X6 hown hK hP 1 rfl rfl 3 (by decide) k_1 (fun _ h9 => h9) rfl dX6_lookAtArray_31 ?_
          refine lv_aload_n hx hb dX6_lookAtArray_34 rfl (lv_at hl 1 rfl) ?_
          refine va_get (D := (dC, dI)) (ci := 6) (v := .ref o5) (C := RX6) (T := TX6) (N := 4) hx hb hts i_X6_lookAtArray_X6 hown hK hP 1 rfl rfl 3 (by decide) k_1 (fun _ h9 => h9) rfl dX6_lookAtArray_35 ?_
          refine va_getN (D := (dC, dI)) (ci := 5) (v := .int v5_6) (C := RX5) (T := TX5) (N := 10) hx hb hts i_X6_lookAtArray_X5 hown hK hP 0 rfl rfl 6 (by decide) ((hN.1 ("FlowJudge$Steps", 105, "FlowJudge$Places", "refused", "Z") (List.mem_of_getElem? (i := 47) rfl)).use rfl) (fun _ h9 => h9) rfl dX6_lookAtArray_38 ?_
          refine lv_if_ne (tgt := 48) hx hb dX6_lookAtArray_41 (by decide) (fun c_11 => ?_) (fun c_11 => ?_)
          · replace hf := x_in c_11 hf
            refine lv_iconst (v := 1) hx hb dX6_lookAtArray_48 (by decide) ?_
            refine lv_goto (tgt := 53) hx hb dX6_lookAtArray_49 (by decide) ?_
            refine va_putN (D := (dC, dI)) (ci := 5) (v := .int 1) (ty := .boolean) (C := RX5) (T := TX5) (N := 10) hx hb hts i_X6_lookAtArray_X5 tyX5 tyX5_ok nmX5 hown hK hP hD hS 0 rfl rfl 6 (by decide) ((hN.1 ("FlowJudge$Steps", 105, "FlowJudge$Places", "refused", "Z") (List.mem_of_getElem? (i := 47) rfl)).use rfl) (fun _ h9 => h9) rfl (by decide +kernel) rfl rfl (Nat.le_of_ble_eq_true rfl) dX6_lookAtArray_53 (fun H locs hP hD hS => ?_)
            have hP : va_P (dC, dI) vwCl [(o5, .inr (5, [.ref o7, .ref a5_1, .int v5_2, .int v5_3, .int v5_4, .int v5_5, .int 1, .int v5_7, .int v5_8, .int v5_9])), (o6, .inr (6, [.ref o7, .ref o4, .ref o0, .ref o5]))] H := hP
            have hD : va_D A [(o5, .inr (5, [.ref o7, .ref a5_1, .int v5_2, .int v5_3, .int v5_4, .int v5_5, .int 1, .int v5_7, .int v5_8, .int v5_9])), (o6, .inr (6, [.ref o7, .ref o4, .ref o0, .ref o5]))] := hD
            obtain rfl := Option.some.inj hf
            have hP9 := hP.sub (ws' := [(o5, .inr (5, [.ref o7, .ref a5_1, .int v5_2, .int v5_3, .int v5_4, .int v5_5, .int 1, .int v5_7, .int v5_8, .int v5_9])), (o6, .inr (6, [.ref o7, .ref o4, .ref o0, .ref o5]))]) [0, 1] rfl
            have hD9 := hD.sub (ws' := [(o5, .inr (5, [.ref o7, .ref a5_1, .int v5_2, .int v5_3, .int v5_4, .int v5_5, .int 1, .int v5_7, .int v5_8, .int v5_9])), (o6, .inr (6, [.ref o7, .ref o4, .ref o0, .ref o5]))]) [0, 1] (by decide) rfl
            exact W.vret hx hb hr (fun t ht hW => ⟨⟨(), rfl, trivial, by rw [ht]; exact hP9, va_K.moved hW.alike hK, hD9⟩, hS.F ht⟩) hS.2.2 dX6_lookAtArray_56
          · replace hf := x_ip c_11 hf
            refine lv_iload_n hx hb dX6_lookAtArray_44 rfl (lv_at hl 0 rfl) ?_
            refine lv_if_ne (tgt := 52) hx hb dX6_lookAtArray_45 (by decide) (fun c_12 => absurd (by decide) c_12) (fun _ => ?_)
            refine lv_iconst (v := 1) hx hb dX6_lookAtArray_48 (by decide) ?_
            refine lv_goto (tgt := 53) hx hb dX6_lookAtArray_49 (by decide) ?_
            refine va_putN (D := (dC, dI)) (ci := 5) (v := .int 1) (ty := .boolean) (C := RX5) (T := TX5) (N := 10) hx hb hts i_X6_lookAtArray_X5 tyX5 tyX5_ok nmX5 hown hK hP hD hS 0 rfl rfl 6 (by decide) ((hN.1 ("FlowJudge$Steps", 105, "FlowJudge$Places", "refused", "Z") (List.mem_of_getElem? (i := 47) rfl)).use rfl) (fun _ h9 => h9) rfl (by decide +kernel) rfl rfl (Nat.le_of_ble_eq_true rfl) dX6_lookAtArray_53 (fun H locs hP hD hS => ?_)
            have hP : va_P (dC, dI) vwCl [(o5, .inr (5, [.ref o7, .ref a5_1, .int v5_2, .int v5_3, .int v5_4, .int v5_5, .int 1, .int v5_7, .int v5_8, .int v5_9])), (o6, .inr (6, [.ref o7, .ref o4, .ref o0, .ref o5]))] H := hP
            have hD : va_D A [(o5, .inr (5, [.ref o7, .ref a5_1, .int v5_2, .int v5_3, .int v5_4, .int v5_5, .int 1, .int v5_7, .int v5_8, .int v5_9])), (o6, .inr (6, [.ref o7, .ref o4, .ref o0, .ref o5]))] := hD
            obtain rfl := Option.some.inj hf
            have hP9 := hP.sub (ws' := [(o5, .inr (5, [.ref o7, .ref a5_1, .int v5_2, .int v5_3, .int v5_4, .int v5_5, .int 1, .int v5_7, .int v5_8, .int v5_9])), (o6, .inr (6, [.ref o7, .ref o4, .ref o0, .ref o5]))]) [0, 1] rfl
            have hD9 := hD.sub (ws' := [(o5, .inr (5, [.ref o7, .ref a5_1, .int v5_2, .int v5_3, .int v5_4, .int v5_5, .int 1, .int v5_7, .int v5_8, .int v5_9])), (o6, .inr (6, [.ref o7, .ref o4, .ref o0, .ref o5]))]) [0, 1] (by decide) rfl
            exact W.vret hx hb hr (fun t ht hW => ⟨⟨(), rfl, trivial, by rw [ht]; exact hP9, va_K.moved hW.alike hK, hD9⟩, hS.F ht⟩) hS.2.2 dX6_lookAtArray_56
        · replace hf := x_ip c_10 hf
          refine lv_iconst (v := 1) hx hb dX6_lookAtArray_24 (by decide) ?_
          refine lv_goto (tgt := 29) hx hb dX6_lookAtArray_25 (by decide) ?_
          refine lv_istore_n (lv' := [(3, .int 1), (0, .ref o6), (1, .int p1), (2, .int p2)]) hx hb dX6_lookAtArray_29 rfl hl (by decide) rfl (fun ls hl => ?_)
          refine lv_aload_n hx hb dX6_lookAtArray_30 rfl (lv_at hl 1 rfl) ?_
          refine va_get (D := (dC, dI)) (ci := 6) (v := .ref o5) (C := RX6) (T := TX6) (N := 4) hx hb hts i_X6_lookAtArray_X6 hown hK hP 1 rfl rfl 3 (by decide) k_1 (fun _ h9 => h9) rfl dX6_lookAtArray_31 ?_
          refine lv_aload_n hx hb dX6_lookAtArray_34 rfl (lv_at hl 1 rfl) ?_
          refine va_get (D := (dC, dI)) (ci := 6) (v := .ref o5) (C := RX6) (T := TX6) (N := 4) hx hb hts i_X6_lookAtArray_X6 hown hK hP 1 rfl rfl 3 (by decide) k_1 (fun _ h9 => h9) rfl dX6_lookAtArray_35 ?_
          refine va_getN (D := (dC, dI)) (ci := 5) (v := .int v5_6) (C := RX5) (T := TX5) (N := 10) hx hb hts i_X6_lookAtArray_X5 hown hK hP 0 rfl rfl 6 (by decide) ((hN.1 ("FlowJudge$Steps", 105, "FlowJudge$Places", "refused", "Z") (List.mem_of_getElem? (i := 47) rfl)).use rfl) (fun _ h9 => h9) rfl dX6_lookAtArray_38 ?_
          refine lv_if_ne (tgt := 48) hx hb dX6_lookAtArray_41 (by decide) (fun c_13 => ?_) (fun c_13 => ?_)
          · replace hf := x_in c_13 hf
            refine lv_iconst (v := 1) hx hb dX6_lookAtArray_48 (by decide) ?_
            refine lv_goto (tgt := 53) hx hb dX6_lookAtArray_49 (by decide) ?_
            refine va_putN (D := (dC, dI)) (ci := 5) (v := .int 1) (ty := .boolean) (C := RX5) (T := TX5) (N := 10) hx hb hts i_X6_lookAtArray_X5 tyX5 tyX5_ok nmX5 hown hK hP hD hS 0 rfl rfl 6 (by decide) ((hN.1 ("FlowJudge$Steps", 105, "FlowJudge$Places", "refused", "Z") (List.mem_of_getElem? (i := 47) rfl)).use rfl) (fun _ h9 => h9) rfl (by decide +kernel) rfl rfl (Nat.le_of_ble_eq_true rfl) dX6_lookAtArray_53 (fun H locs hP hD hS => ?_)
            have hP : va_P (dC, dI) vwCl [(o5, .inr (5, [.ref o7, .ref a5_1, .int v5_2, .int v5_3, .int v5_4, .int v5_5, .int 1, .int v5_7, .int v5_8, .int v5_9])), (o6, .inr (6, [.ref o7, .ref o4, .ref o0, .ref o5]))] H := hP
            have hD : va_D A [(o5, .inr (5, [.ref o7, .ref a5_1, .int v5_2, .int v5_3, .int v5_4, .int v5_5, .int 1, .int v5_7, .int v5_8, .int v5_9])), (o6, .inr (6, [.ref o7, .ref o4, .ref o0, .ref o5]))] := hD
            obtain rfl := Option.some.inj hf
            have hP9 := hP.sub (ws' := [(o5, .inr (5, [.ref o7, .ref a5_1, .int v5_2, .int v5_3, .int v5_4, .int v5_5, .int 1, .int v5_7, .int v5_8, .int v5_9])), (o6, .inr (6, [.ref o7, .ref o4, .ref o0, .ref o5]))]) [0, 1] rfl
            have hD9 := hD.sub (ws' := [(o5, .inr (5, [.ref o7, .ref a5_1, .int v5_2, .int v5_3, .int v5_4, .int v5_5, .int 1, .int v5_7, .int v5_8, .int v5_9])), (o6, .inr (6, [.ref o7, .ref o4, .ref o0, .ref o5]))]) [0, 1] (by decide) rfl
            exact W.vret hx hb hr (fun t ht hW => ⟨⟨(), rfl, trivial, by rw [ht]; exact hP9, va_K.moved hW.alike hK, hD9⟩, hS.F ht⟩) hS.2.2 dX6_lookAtArray_56
          · replace hf := x_ip c_13 hf
            refine lv_iload_n hx hb dX6_lookAtArray_44 rfl (lv_at hl 0 rfl) ?_
            refine lv_if_ne (tgt := 52) hx hb dX6_lookAtArray_45 (by decide) (fun _ => ?_) (fun c_14 => absurd c_14 (by decide))
            refine lv_iconst (v := 0) hx hb dX6_lookAtArray_52 (by decide) ?_
            refine va_putN (D := (dC, dI)) (ci := 5) (v := .int 0) (ty := .boolean) (C := RX5) (T := TX5) (N := 10) hx hb hts i_X6_lookAtArray_X5 tyX5 tyX5_ok nmX5 hown hK hP hD hS 0 rfl rfl 6 (by decide) ((hN.1 ("FlowJudge$Steps", 105, "FlowJudge$Places", "refused", "Z") (List.mem_of_getElem? (i := 47) rfl)).use rfl) (fun _ h9 => h9) rfl (by decide +kernel) rfl rfl (Nat.le_of_ble_eq_true rfl) dX6_lookAtArray_53 (fun H locs hP hD hS => ?_)
            have hP : va_P (dC, dI) vwCl [(o5, .inr (5, [.ref o7, .ref a5_1, .int v5_2, .int v5_3, .int v5_4, .int v5_5, .int 0, .int v5_7, .int v5_8, .int v5_9])), (o6, .inr (6, [.ref o7, .ref o4, .ref o0, .ref o5]))] H := hP
            have hD : va_D A [(o5, .inr (5, [.ref o7, .ref a5_1, .int v5_2, .int v5_3, .int v5_4, .int v5_5, .int 0, .int v5_7, .int v5_8, .int v5_9])), (o6, .inr (6, [.ref o7, .ref o4, .ref o0, .ref o5]))] := hD
            obtain rfl := Option.some.inj hf
            have hP9 := hP.sub (ws' := [(o5, .inr (5, [.ref o7, .ref a5_1, .int v5_2, .int v5_3, .int v5_4, .int v5_5, .int 0, .int v5_7, .int v5_8, .int v5_9])), (o6, .inr (6, [.ref o7, .ref o4, .ref o0, .ref o5]))]) [0, 1] rfl
            have hD9 := hD.sub (ws' := [(o5, .inr (5, [.ref o7, .ref a5_1, .int v5_2, .int v5_3, .int v5_4, .int v5_5, .int 0, .int v5_7, .int v5_8, .int v5_9])), (o6, .inr (6, [.ref o7, .ref o4, .ref o0, .ref o5]))]) [0, 1] (by decide) rfl
            exact W.vret hx hb hr (fun t ht hW => ⟨⟨(), rfl, trivial, by rw [ht]; exact hP9, va_K.moved hW.alike hK, hD9⟩, hS.F ht⟩) hS.2.2 dX6_lookAtArray_56

def f_X6_loadElement (v5_2 : Int32) (v5_3 : Int32) (v5_4 : Int32) (v5_6 : Int32) (g5_1 : Nat → Int32) (p1 : Int32) : Option (Int32 × Int32 × (Nat → Int32)) := (f_X5_pullKind v5_2 v5_3 v5_6 g5_1 1) >>= (fun r_1 => (f_X5_pullArray v5_2 r_1.1 r_1.2 g5_1) >>= (fun r_2 => if x_gd p1 8 = true then if (x_st4 (Int32.toNatClampNeg p1)) = (0 : Int32) then if (0 : Int32) ≤ r_2.1 then (f_X7_isPrimitive (r_2.1 - (65536 : Int32))) >>= (fun r_7 => if r_7 = (0 : Int32) then (f_X5_pushType r_2.2.1 v5_4 r_2.2.2 g5_1 (r_2.1 - (65536 : Int32))) >>= (fun r_9 => some (r_9.1, r_9.2.1, r_9.2.2)) else some (r_2.2.1, 1, g5_1)) else (f_X5_push r_2.2.1 v5_4 r_2.2.2 g5_1 5) >>= (fun r_10 => some (r_10.1, r_10.2.1, r_10.2.2)) else if x_gd p1 8 = true then (f_X6_lookAtArray r_2.2.2 r_2.1 (x_st4 (Int32.toNatClampNeg p1))) >>= (fun r_13 => if x_gd p1 8 = true then (f_X5_pushType r_2.2.1 v5_4 r_13 g5_1 (x_st4 (Int32.toNatClampNeg p1))) >>= (fun r_16 => some (r_16.1, r_16.2.1, r_16.2.2)) else none) else none else none))
theorem i_X6_loadElement_X5 : ∀ w ∈ wsX50, w ∈ wsX6_loadElement := fun _ h => List.mem_cons_of_mem _ (List.mem_append_right _ h)
theorem i_X6_loadElement_X6 : ∀ w ∈ wsX60, w ∈ wsX6_loadElement := fun _ h => List.mem_cons_of_mem _ (List.mem_append_left _ (List.mem_append_right _ h))
set_option maxHeartbeats 4000000 in
set_option maxRecDepth 100000 in
theorem c_X6_loadElement (l : Launch) (dC : Nat → ClassId) (dI : Nat → Nat → Nat) (cyI cyZ cyJ : ClassId) (sz : Nat) (base : Nat) (o5 : Nat) (o7 : Nat) (a5_1 : Nat) (v5_2 : Int32) (v5_3 : Int32) (v5_4 : Int32) (v5_5 : Int32) (v5_6 : Int32) (v5_7 : Int32) (v5_8 : Int32) (v5_9 : Int32) (g5_1 : Nat → Int32) (o6 : Nat) (o4 : Nat) (o0 : Nat) (p1 : Int32) (R : Int32 × Int32 × (Nat → Int32)) (hf : f_X6_loadElement v5_2 v5_3 v5_4 v5_6 g5_1 p1 = some R) : Met l yX6_loadElement wsX6_loadElement ({ frames := 3, cells := 0, slots := 0, locals := 63 }) (va_Pc [.ref o6, .int p1] (x_PreT (dC, dI) (x_T cyI cyZ cyJ) [(o5, .inr (5, [.ref o7, .ref a5_1, .int v5_2, .int v5_3, .int v5_4, .int v5_5, .int v5_6, .int v5_7, .int v5_8, .int v5_9])), (a5_1, .inl (cyI, 400, .inl g5_1)), (o6, .inr (6, [.ref o7, .ref o4, .ref o0, .ref o5]))] base sz)) (va_Qv (fun _ : Unit => True) (fun (_ : Unit) (t : State) => va_P (dC, dI) vwCl [(o5, .inr (5, [.ref o7, .ref a5_1, .int v5_2, .int (R.1), .int v5_4, .int v5_5, .int (R.2.1), .int v5_7, .int v5_8, .int v5_9])), (a5_1, .inl (cyI, 400, .inl R.2.2)), (o6, .inr (6, [.ref o7, .ref o4, .ref o0, .ref o5]))] t.heap ∧ va_K (dC, dI) vwCl (x_T cyI cyZ cyJ) t ∧ va_D (va_A [(o5, .inr (5, [.ref o7, .ref a5_1, .int v5_2, .int v5_3, .int v5_4, .int v5_5, .int v5_6, .int v5_7, .int v5_8, .int v5_9])), (a5_1, .inl (cyI, 400, .inl g5_1)), (o6, .inr (6, [.ref o7, .ref o4, .ref o0, .ref o5]))] sz) [(o5, .inr (5, [.ref o7, .ref a5_1, .int v5_2, .int (R.1), .int v5_4, .int v5_5, .int (R.2.1), .int v5_7, .int v5_8, .int v5_9])), (a5_1, .inl (cyI, 400, .inl R.2.2)), (o6, .inr (6, [.ref o7, .ref o4, .ref o0, .ref o5]))]) (va_A [(o5, .inr (5, [.ref o7, .ref a5_1, .int v5_2, .int v5_3, .int v5_4, .int v5_5, .int v5_6, .int v5_7, .int v5_8, .int v5_9])), (a5_1, .inl (cyI, 400, .inl g5_1)), (o6, .inr (6, [.ref o7, .ref o4, .ref o0, .ref o5]))] sz)) 0 0 (va_A [(o5, .inr (5, [.ref o7, .ref a5_1, .int v5_2, .int v5_3, .int v5_4, .int v5_5, .int v5_6, .int v5_7, .int v5_8, .int v5_9])), (a5_1, .inl (cyI, 400, .inl g5_1)), (o6, .inr (6, [.ref o7, .ref o4, .ref o0, .ref o5]))] sz) := by
  refine Met.ofW (cc := cX6_loadElement) (maxL := 4) (ret := none) (by decide) rfl ?_
  intro p e s m args below meth c s₁ B hml hv
  obtain ⟨rfl, ⟨⟨hsz, hP, hK, hN⟩, hD0⟩, hDb, hbz, hT⟩ := hv
  have hx := B.exec
  have hb := B.bytes
  have hr := B.returns
  have hts := atoms_spec (ws := wsX6_loadElement) B.pre
  have hown : s.vm.findClass RX6 = some m.cls := findClass_of_methodNamed B.named
  have k_1 := hts (.fieldLink RX6 23 "FlowJudge$Steps" "places" "LFlowJudge$Places;") (by decide +kernel)
  have k_2 := hts (.constant RX6 122 (65536)) (by decide +kernel)
  have k_3 := hts (.fieldLink RX6 123 "FlowJudge$Steps" "ELEMENTS" "[I") (by decide +kernel)
  subst hsz
  have hAb : ∀ q, va_A [(o5, .inr (5, [.ref o7, .ref a5_1, .int v5_2, .int v5_3, .int v5_4, .int v5_5, .int v5_6, .int v5_7, .int v5_8, .int v5_9])), (a5_1, .inl (cyI, 400, .inl g5_1)), (o6, .inr (6, [.ref o7, .ref o4, .ref o0, .ref o5]))] s.heap.size q → x_new base q := x_Ab hDb hbz
  have hD := hD0.self (sz := s.heap.size)
  generalize hAe : va_A [(o5, .inr (5, [.ref o7, .ref a5_1, .int v5_2, .int v5_3, .int v5_4, .int v5_5, .int v5_6, .int v5_7, .int v5_8, .int v5_9])), (a5_1, .inl (cyI, 400, .inl g5_1)), (o6, .inr (6, [.ref o7, .ref o4, .ref o0, .ref o5]))] s.heap.size = A at hD hAb ⊢
  have hA : ∀ q : Nat, s.heap.size ≤ q → A q := fun q h => by rw [← hAe]; exact Or.inr h
  have hP : va_P (dC, dI) vwCl [(o5, .inr (5, [.ref o7, .ref a5_1, .int v5_2, .int v5_3, .int v5_4, .int v5_5, .int v5_6, .int v5_7, .int v5_8, .int v5_9])), (a5_1, .inl (cyI, 400, .inl g5_1)), (o6, .inr (6, [.ref o7, .ref o4, .ref o0, .ref o5]))] s.heap := hP
  have hl := lv_entry ([.ref o6, .int p1]) (n := 4) (Nat.le_of_ble_eq_true rfl)
  rw [lg_entry_eq]
  generalize (lg_sl ([.ref o6, .int p1]) ++ List.replicate (4 - (lg_sl ([.ref o6, .int p1])).length) Slot.unset).toArray = ls at hl ⊢
  have hl : lv_has ls 4 [(0, .ref o6), (1, .int p1)] := hl
  obtain ⟨H, hH⟩ : ∃ z, z = s.heap := ⟨_, rfl⟩
  refine x_here hH ?_
  have hP : va_P (dC, dI) vwCl [(o5, .inr (5, [.ref o7, .ref a5_1, .int v5_2, .int v5_3, .int v5_4, .int v5_5, .int v5_6, .int v5_7, .int v5_8, .int v5_9])), (a5_1, .inl (cyI, 400, .inl g5_1)), (o6, .inr (6, [.ref o7, .ref o4, .ref o0, .ref o5]))] H := by rw [hH]; exact hP
  have hS : va_S A s.heap H [] := by rw [hH]; exact va_S.rf
  clear hH
  obtain ⟨locs, hlo⟩ : ∃ z : List Loc, z = [] := ⟨_, rfl⟩
  refine x_herl hlo ?_
  have hS : va_S A s.heap H locs := by rw [hlo]; exact hS
  clear hlo
  unfold f_X6_loadElement at hf
  refine lv_aload_n hx hb dX6_loadElement_0 rfl (lv_at hl 0 rfl) ?_
  refine va_get (D := (dC, dI)) (ci := 6) (v := .ref o5) (C := RX6) (T := TX6) (N := 4) hx hb hts i_X6_loadElement_X6 hown hK hP 2 rfl rfl 3 (by decide) k_1 (fun _ h9 => h9) rfl dX6_loadElement_1 ?_
  refine lv_iconst (v := 1) hx hb dX6_loadElement_4 (by decide) ?_
  obtain ⟨r_1, h_1, hf⟩ := x_bi hf
  have hPc := hP.sub (ws' := [(o5, .inr (5, [.ref o7, .ref a5_1, .int v5_2, .int v5_3, .int v5_4, .int v5_5, .int v5_6, .int v5_7, .int v5_8, .int v5_9])), (a5_1, .inl (cyI, 400, .inl g5_1))]) [0, 1] rfl
  have hDc := hD.sub (ws' := [(o5, .inr (5, [.ref o7, .ref a5_1, .int v5_2, .int v5_3, .int v5_4, .int v5_5, .int v5_6, .int v5_7, .int v5_8, .int v5_9])), (a5_1, .inl (cyI, 400, .inl g5_1))]) [0, 1] (by decide) rfl
  have hFc := va_free (wc := [(o5, .inr (5, [.ref o7, .ref a5_1, .int v5_2, .int v5_3, .int v5_4, .int v5_5, .int v5_6, .int v5_7, .int v5_8, .int v5_9])), (a5_1, .inl (cyI, 400, .inl g5_1))]) hD hS hA [0, 1] rfl
  refine va_callv (va_runV (As := [.int 1]) (rest := []) ⟨hx, hb, hml, hown, hts⟩ (c_X5_pullKind l dC dI cyI cyZ cyJ H.size o5 o7 a5_1 v5_2 v5_3 v5_4 v5_5 v5_6 v5_7 v5_8 v5_9 g5_1 1 r_1 h_1) (cwV 1 hts gX6_loadElement_X5_pullKind rfl rfl rfl (by decide +kernel) ⟨Nat.le_of_ble_eq_true rfl, Nat.le_of_ble_eq_true rfl⟩) (x_pVD hN hK hPc hDc (ci := 5) (q0 := 0) rfl rfl) rfl rfl hl.1 rfl (lv_room (Nat.le_of_ble_eq_true rfl)) dX6_loadElement_5 ⟨Nat.le_of_ble_eq_true rfl, Nat.le_of_ble_eq_true rfl⟩) hS (fun q _ h => hFc q h) hFc (fun u t H1 locs ht hvm hw hB hz1 hk1 hS => ?_)
  obtain ⟨hP1, hK1, hD1⟩ := hB
  rw [ht] at hP1
  obtain ⟨hP, hD⟩ := va_join (wr := [(o6, .inr (6, [.ref o7, .ref o4, .ref o0, .ref o5]))]) (w1 := [(o5, .inr (5, [.ref o7, .ref a5_1, .int v5_2, .int (r_1.1), .int v5_4, .int v5_5, .int (r_1.2), .int v5_7, .int v5_8, .int v5_9])), (a5_1, .inl (cyI, 400, .inl g5_1))]) hP hD [0, 1] [2] rfl rfl (by decide) (by decide) hk1 hFc hP1 hD1
  clear hz1 hk1 hPc hDc hFc hP1 hK1 hD1 ht hvm t u
  generalize H1 = H at hP hS ⊢
  have hP : va_P (dC, dI) vwCl [(o6, .inr (6, [.ref o7, .ref o4, .ref o0, .ref o5])), (o5, .inr (5, [.ref o7, .ref a5_1, .int v5_2, .int (r_1.1), .int v5_4, .int v5_5, .int (r_1.2), .int v5_7, .int v5_8, .int v5_9])), (a5_1, .inl (cyI, 400, .inl g5_1))] H := hP
  have hD : va_D A [(o6, .inr (6, [.ref o7, .ref o4, .ref o0, .ref o5])), (o5, .inr (5, [.ref o7, .ref a5_1, .int v5_2, .int (r_1.1), .int v5_4, .int v5_5, .int (r_1.2), .int v5_7, .int v5_8, .int v5_9])), (a5_1, .inl (cyI, 400, .inl g5_1))] := hD
  refine lv_aload_n hx hb dX6_loadElement_8 rfl (lv_at hl 0 rfl) ?_
  refine va_get (D := (dC, dI)) (ci := 6) (v := .ref o5) (C := RX6) (T := TX6) (N := 4) hx hb hts i_X6_loadElement_X6 hown hK hP 0 rfl rfl 3 (by decide) k_1 (fun _ h9 => h9) rfl dX6_loadElement_9 ?_
  obtain ⟨r_2, h_2, hf⟩ := x_bi hf
  have hPc := hP.sub (ws' := [(o5, .inr (5, [.ref o7, .ref a5_1, .int v5_2, .int (r_1.1), .int v5_4, .int v5_5, .int (r_1.2), .int v5_7, .int v5_8, .int v5_9])), (a5_1, .inl (cyI, 400, .inl g5_1))]) [1, 2] rfl
  have hDc := hD.sub (ws' := [(o5, .inr (5, [.ref o7, .ref a5_1, .int v5_2, .int (r_1.1), .int v5_4, .int v5_5, .int (r_1.2), .int v5_7, .int v5_8, .int v5_9])), (a5_1, .inl (cyI, 400, .inl g5_1))]) [1, 2] (by decide) rfl
  have hFc := va_free (wc := [(o5, .inr (5, [.ref o7, .ref a5_1, .int v5_2, .int (r_1.1), .int v5_4, .int v5_5, .int (r_1.2), .int v5_7, .int v5_8, .int v5_9])), (a5_1, .inl (cyI, 400, .inl g5_1))]) hD hS hA [1, 2] rfl
  refine va_calli (va_runV (As := []) (rest := []) ⟨hx, hb, hml, hown, hts⟩ (c_X5_pullArray l dC dI cyI cyZ cyJ H.size o5 o7 a5_1 v5_2 r_1.1 v5_4 v5_5 r_1.2 v5_7 v5_8 v5_9 g5_1 r_2 h_2) (cwV 0 hts gX6_loadElement_X5_pullArray rfl rfl rfl (by decide +kernel) ⟨Nat.le_of_ble_eq_true rfl, Nat.le_of_ble_eq_true rfl⟩) (x_pVD hN hK hPc hDc (ci := 5) (q0 := 0) rfl rfl) rfl rfl hl.1 rfl (lv_room (Nat.le_of_ble_eq_true rfl)) dX6_loadElement_12 ⟨Nat.le_of_ble_eq_true rfl, Nat.le_of_ble_eq_true rfl⟩) hS (fun q _ h => hFc q h) hFc (fun q_2 u t H1 locs ht hvm hw hB hz1 hk1 hS => ?_)
  obtain ⟨hP1, hK1, hD1⟩ := hB
  rw [ht] at hP1
  obtain ⟨hP, hD⟩ := va_join (wr := [(o6, .inr (6, [.ref o7, .ref o4, .ref o0, .ref o5]))]) (w1 := [(o5, .inr (5, [.ref o7, .ref a5_1, .int v5_2, .int (r_2.2.1), .int v5_4, .int v5_5, .int (r_2.2.2), .int v5_7, .int v5_8, .int v5_9])), (a5_1, .inl (cyI, 400, .inl g5_1))]) hP hD [1, 2] [0] rfl rfl (by decide) (by decide) hk1 hFc hP1 hD1
  clear hz1 hk1 hPc hDc hFc hP1 hK1 hD1 ht hvm t u
  generalize H1 = H at hP hS ⊢
  have hP : va_P (dC, dI) vwCl [(o6, .inr (6, [.ref o7, .ref o4, .ref o0, .ref o5])), (o5, .inr (5, [.ref o7, .ref a5_1, .int v5_2, .int (r_2.2.1), .int v5_4, .int v5_5, .int (r_2.2.2), .int v5_7, .int v5_8, .int v5_9])), (a5_1, .inl (cyI, 400, .inl g5_1))] H := hP
  have hD : va_D A [(o6, .inr (6, [.ref o7, .ref o4, .ref o0, .ref o5])), (o5, .inr (5, [.ref o7, .ref a5_1, .int v5_2, .int (r_2.2.1), .int v5_4, .int v5_5, .int (r_2.2.2), .int v5_7, .int v5_8, .int v5_9])), (a5_1, .inl (cyI, 400, .inl g5_1))] := hD
  obtain rfl := hw.symm
  refine lv_istore_n (lv' := [(2, .int (r_2.1)), (0, .ref o6), (1, .int p1)]) hx hb dX6_loadElement_15 rfl hl (by decide) rfl (fun ls hl => ?_)
  refine lv_iload_n hx hb dX6_loadElement_16 rfl (lv_at hl 0 rfl) ?_
  refine lv_ldc (v := 65536) hx hb hown k_2 dX6_loadElement_17 ?_
  refine lv_isub hx hb dX6_loadElement_19 ?_
  refine lv_istore_n (lv' := [(3, .int (r_2.1 - (65536 : Int32))), (2, .int (r_2.1)), (0, .ref o6), (1, .int p1)]) hx hb dX6_loadElement_20 rfl hl (by decide) rfl (fun ls hl => ?_)
  obtain ⟨b_3, hZ_3, hX_3, hb_3⟩ := hT _ (List.mem_of_getElem? (i := 4) rfl)
  refine va_gets hx hb (hZ_3.narrow hAb) hS hown k_3 (fun _ h9 => h9) dX6_loadElement_21 ?_
  refine lv_iload_n hx hb dX6_loadElement_24 rfl (lv_at hl 3 rfl) ?_
  obtain ⟨g_4, hf⟩ := x_gu hf
  refine va_sld hx hb hX_3 (Nat.lt_of_lt_of_le hb_3 hbz) (fun h9 => absurd (hAb _ h9) (Nat.not_le.mpr hb_3)) hS (x_gdin g_4) dX6_loadElement_25 ?_
  refine lv_if_eq (tgt := 54) hx hb dX6_loadElement_26 (by decide) (fun c_5 => ?_) (fun c_5 => ?_)
  · replace hf := x_ip c_5 hf
    refine lv_iload_n hx hb dX6_loadElement_54 rfl (lv_at hl 1 rfl) ?_
    refine lv_if_ge (tgt := 69) hx hb dX6_loadElement_55 (by decide) (fun c_6 => ?_) (fun c_6 => ?_)
    · replace hf := x_ip c_6 hf
      refine lv_iload_n hx hb dX6_loadElement_69 rfl (lv_at hl 0 rfl) ?_
      obtain ⟨r_7, h_7, hf⟩ := x_bi hf
      have hPc := hP.sub (ws' := []) [] rfl
      refine va_calli (va_runS (As := [.int (r_2.1 - (65536 : Int32))]) (rest := []) ⟨hx, hb, hml, hown, hts⟩ (c_X7_isPrimitive l dC dI cyI cyZ cyJ H.size (r_2.1 - (65536 : Int32)) r_7 h_7) (va_cwS 1 hts gX6_loadElement_X7_isPrimitive rfl rfl rfl (by decide +kernel) ⟨Nat.le_of_ble_eq_true rfl, Nat.le_of_ble_eq_true rfl⟩) (x_pS hN hK hPc) rfl rfl hl.1 rfl (lv_room (Nat.le_of_ble_eq_true rfl)) dX6_loadElement_70 ⟨Nat.le_of_ble_eq_true rfl, Nat.le_of_ble_eq_true rfl⟩) hS x_nA (x_nf hA hS) (fun q_7 u t H1 locs ht hvm hw hB hz1 hk1 hS => ?_)
      have hP := x_kp hP hk1
      clear ht hvm hB hz1 hk1 t u hPc
      generalize H1 = H at hP hS ⊢
      obtain ⟨hw, b_7⟩ := hw
      obtain rfl := hw.symm
      refine lv_if_eq (tgt := 87) hx hb dX6_loadElement_73 (by decide) (fun c_8 => ?_) (fun c_8 => ?_)
      · replace hf := x_ip c_8 hf
        refine lv_aload_n hx hb dX6_loadElement_87 rfl (lv_at hl 2 rfl) ?_
        refine va_get (D := (dC, dI)) (ci := 6) (v := .ref o5) (C := RX6) (T := TX6) (N := 4) hx hb hts i_X6_loadElement_X6 hown hK hP 0 rfl rfl 3 (by decide) k_1 (fun _ h9 => h9) rfl dX6_loadElement_88 ?_
        refine lv_iload_n hx hb dX6_loadElement_91 rfl (lv_at hl 0 rfl) ?_
        obtain ⟨r_9, h_9, hf⟩ := x_bi hf
        have hPc := hP.sub (ws' := [(o5, .inr (5, [.ref o7, .ref a5_1, .int v5_2, .int (r_2.2.1), .int v5_4, .int v5_5, .int (r_2.2.2), .int v5_7, .int v5_8, .int v5_9])), (a5_1, .inl (cyI, 400, .inl g5_1))]) [1, 2] rfl
        have hDc := hD.sub (ws' := [(o5, .inr (5, [.ref o7, .ref a5_1, .int v5_2, .int (r_2.2.1), .int v5_4, .int v5_5, .int (r_2.2.2), .int v5_7, .int v5_8, .int v5_9])), (a5_1, .inl (cyI, 400, .inl g5_1))]) [1, 2] (by decide) rfl
        have hFc := va_free (wc := [(o5, .inr (5, [.ref o7, .ref a5_1, .int v5_2, .int (r_2.2.1), .int v5_4, .int v5_5, .int (r_2.2.2), .int v5_7, .int v5_8, .int v5_9])), (a5_1, .inl (cyI, 400, .inl g5_1))]) hD hS hA [1, 2] rfl
        refine va_callv (va_runV (As := [.int (r_2.1 - (65536 : Int32))]) (rest := []) ⟨hx, hb, hml, hown, hts⟩ (c_X5_pushType l dC dI cyI cyZ cyJ H.size o5 o7 a5_1 v5_2 r_2.2.1 v5_4 v5_5 r_2.2.2 v5_7 v5_8 v5_9 g5_1 (r_2.1 - (65536 : Int32)) r_9 h_9) (cwV 1 hts gX6_loadElement_X5_pushType rfl rfl rfl (by decide +kernel) ⟨Nat.le_of_ble_eq_true rfl, Nat.le_of_ble_eq_true rfl⟩) (x_pVD hN hK hPc hDc (ci := 5) (q0 := 0) rfl rfl) rfl rfl hl.1 rfl (lv_room (Nat.le_of_ble_eq_true rfl)) dX6_loadElement_92 ⟨Nat.le_of_ble_eq_true rfl, Nat.le_of_ble_eq_true rfl⟩) hS (fun q _ h => hFc q h) hFc (fun u t H1 locs ht hvm hw hB hz1 hk1 hS => ?_)
        obtain ⟨hP1, hK1, hD1⟩ := hB
        rw [ht] at hP1
        obtain ⟨hP, hD⟩ := va_join (wr := [(o6, .inr (6, [.ref o7, .ref o4, .ref o0, .ref o5]))]) (w1 := [(o5, .inr (5, [.ref o7, .ref a5_1, .int v5_2, .int (r_9.1), .int v5_4, .int v5_5, .int (r_9.2.1), .int v5_7, .int v5_8, .int v5_9])), (a5_1, .inl (cyI, 400, .inl r_9.2.2))]) hP hD [1, 2] [0] rfl rfl (by decide) (by decide) hk1 hFc hP1 hD1
        clear hz1 hk1 hPc hDc hFc hP1 hK1 hD1 ht hvm t u
        generalize H1 = H at hP hS ⊢
        have hP : va_P (dC, dI) vwCl [(o6, .inr (6, [.ref o7, .ref o4, .ref o0, .ref o5])), (o5, .inr (5, [.ref o7, .ref a5_1, .int v5_2, .int (r_9.1), .int v5_4, .int v5_5, .int (r_9.2.1), .int v5_7, .int v5_8, .int v5_9])), (a5_1, .inl (cyI, 400, .inl r_9.2.2))] H := hP
        have hD : va_D A [(o6, .inr (6, [.ref o7, .ref o4, .ref o0, .ref o5])), (o5, .inr (5, [.ref o7, .ref a5_1, .int v5_2, .int (r_9.1), .int v5_4, .int v5_5, .int (r_9.2.1), .int v5_7, .int v5_8, .int v5_9])), (a5_1, .inl (cyI, 400, .inl r_9.2.2))] := hD
        obtain rfl := Option.some.inj hf
        have hP9 := hP.sub (ws' := [(o5, .inr (5, [.ref o7, .ref a5_1, .int v5_2, .int (r_9.1), .int v5_4, .int v5_5, .int (r_9.2.1), .int v5_7, .int v5_8, .int v5_9])), (a5_1, .inl (cyI, 400, .inl r_9.2.2)), (o6, .inr (6, [.ref o7, .ref o4, .ref o0, .ref o5]))]) [1, 2, 0] rfl
        have hD9 := hD.sub (ws' := [(o5, .inr (5, [.ref o7, .ref a5_1, .int v5_2, .int (r_9.1), .int v5_4, .int v5_5, .int (r_9.2.1), .int v5_7, .int v5_8, .int v5_9])), (a5_1, .inl (cyI, 400, .inl r_9.2.2)), (o6, .inr (6, [.ref o7, .ref o4, .ref o0, .ref o5]))]) [1, 2, 0] (by decide) rfl
        exact W.vret hx hb hr (fun t ht hW => ⟨⟨(), rfl, trivial, by rw [ht]; exact hP9, va_K.moved hW.alike hK, hD9⟩, hS.F ht⟩) hS.2.2 dX6_loadElement_95
      · replace hf := x_in c_8 hf
        refine lv_aload_n hx hb dX6_loadElement_76 rfl (lv_at hl 2 rfl) ?_
        refine va_get (D := (dC, dI)) (ci := 6) (v := .ref o5) (C := RX6) (T := TX6) (N := 4) hx hb hts i_X6_loadElement_X6 hown hK hP 0 rfl rfl 3 (by decide) k_1 (fun _ h9 => h9) rfl dX6_loadElement_77 ?_
        refine lv_iconst (v := 1) hx hb dX6_loadElement_80 (by decide) ?_
        refine va_putN (D := (dC, dI)) (ci := 5) (v := .int 1) (ty := .boolean) (C := RX5) (T := TX5) (N := 10) hx hb hts i_X6_loadElement_X5 tyX5 tyX5_ok nmX5 hown hK hP hD hS 1 rfl rfl 6 (by decide) ((hN.1 ("FlowJudge$Steps", 105, "FlowJudge$Places", "refused", "Z") (List.mem_of_getElem? (i := 47) rfl)).use rfl) (fun _ h9 => h9) rfl (by decide +kernel) rfl rfl (Nat.le_of_ble_eq_true rfl) dX6_loadElement_81 (fun H locs hP hD hS => ?_)
        have hP : va_P (dC, dI) vwCl [(o6, .inr (6, [.ref o7, .ref o4, .ref o0, .ref o5])), (o5, .inr (5, [.ref o7, .ref a5_1, .int v5_2, .int (r_2.2.1), .int v5_4, .int v5_5, .int 1, .int v5_7, .int v5_8, .int v5_9])), (a5_1, .inl (cyI, 400, .inl g5_1))] H := hP
        have hD : va_D A [(o6, .inr (6, [.ref o7, .ref o4, .ref o0, .ref o5])), (o5, .inr (5, [.ref o7, .ref a5_1, .int v5_2, .int (r_2.2.1), .int v5_4, .int v5_5, .int 1, .int v5_7, .int v5_8, .int v5_9])), (a5_1, .inl (cyI, 400, .inl g5_1))] := hD
        refine lv_goto (tgt := 95) hx hb dX6_loadElement_84 (by decide) ?_
        obtain rfl := Option.some.inj hf
        have hP9 := hP.sub (ws' := [(o5, .inr (5, [.ref o7, .ref a5_1, .int v5_2, .int (r_2.2.1), .int v5_4, .int v5_5, .int 1, .int v5_7, .int v5_8, .int v5_9])), (a5_1, .inl (cyI, 400, .inl g5_1)), (o6, .inr (6, [.ref o7, .ref o4, .ref o0, .ref o5]))]) [1, 2, 0] rfl
        have hD9 := hD.sub (ws' := [(o5, .inr (5, [.ref o7, .ref a5_1, .int v5_2, .int (r_2.2.1), .int v5_4, .int v5_5, .int 1, .int v5_7, .int v5_8, .int v5_9])), (a5_1, .inl (cyI, 400, .inl g5_1)), (o6, .inr (6, [.ref o7, .ref o4, .ref o0, .ref o5]))]) [1, 2, 0] (by decide) rfl
        exact W.vret hx hb hr (fun t ht hW => ⟨⟨(), rfl, trivial, by rw [ht]; exact hP9, va_K.moved hW.alike hK, hD9⟩, hS.F ht⟩) hS.2.2 dX6_loadElement_95
    · replace hf := x_in c_6 hf
      refine lv_aload_n hx hb dX6_loadElement_58 rfl (lv_at hl 2 rfl) ?_
      refine va_get (D := (dC, dI)) (ci := 6) (v := .ref o5) (C := RX6) (T := TX6) (N := 4) hx hb hts i_X6_loadElement_X6 hown hK hP 0 rfl rfl 3 (by decide) k_1 (fun _ h9 => h9) rfl dX6_loadElement_59 ?_
      refine lv_iconst (v := 5) hx hb dX6_loadElement_62 (by decide) ?_
      obtain ⟨r_10, h_10, hf⟩ := x_bi hf
      have hPc := hP.sub (ws' := [(o5, .inr (5, [.ref o7, .ref a5_1, .int v5_2, .int (r_2.2.1), .int v5_4, .int v5_5, .int (r_2.2.2), .int v5_7, .int v5_8, .int v5_9])), (a5_1, .inl (cyI, 400, .inl g5_1))]) [1, 2] rfl
      have hDc := hD.sub (ws' := [(o5, .inr (5, [.ref o7, .ref a5_1, .int v5_2, .int (r_2.2.1), .int v5_4, .int v5_5, .int (r_2.2.2), .int v5_7, .int v5_8, .int v5_9])), (a5_1, .inl (cyI, 400, .inl g5_1))]) [1, 2] (by decide) rfl
      have hFc := va_free (wc := [(o5, .inr (5, [.ref o7, .ref a5_1, .int v5_2, .int (r_2.2.1), .int v5_4, .int v5_5, .int (r_2.2.2), .int v5_7, .int v5_8, .int v5_9])), (a5_1, .inl (cyI, 400, .inl g5_1))]) hD hS hA [1, 2] rfl
      refine va_callv (va_runV (As := [.int 5]) (rest := []) ⟨hx, hb, hml, hown, hts⟩ (c_X5_push l dC dI cyI cyZ cyJ H.size o5 o7 a5_1 v5_2 r_2.2.1 v5_4 v5_5 r_2.2.2 v5_7 v5_8 v5_9 g5_1 5 r_10 h_10) (cwV 1 hts gX6_loadElement_X5_push rfl rfl rfl (by decide +kernel) ⟨Nat.le_of_ble_eq_true rfl, Nat.le_of_ble_eq_true rfl⟩) (x_pVD hN hK hPc hDc (ci := 5) (q0 := 0) rfl rfl) rfl rfl hl.1 rfl (lv_room (Nat.le_of_ble_eq_true rfl)) dX6_loadElement_63 ⟨Nat.le_of_ble_eq_true rfl, Nat.le_of_ble_eq_true rfl⟩) hS (fun q _ h => hFc q h) hFc (fun u t H1 locs ht hvm hw hB hz1 hk1 hS => ?_)
      obtain ⟨hP1, hK1, hD1⟩ := hB
      rw [ht] at hP1
      obtain ⟨hP, hD⟩ := va_join (wr := [(o6, .inr (6, [.ref o7, .ref o4, .ref o0, .ref o5]))]) (w1 := [(o5, .inr (5, [.ref o7, .ref a5_1, .int v5_2, .int (r_10.1), .int v5_4, .int v5_5, .int (r_10.2.1), .int v5_7, .int v5_8, .int v5_9])), (a5_1, .inl (cyI, 400, .inl r_10.2.2))]) hP hD [1, 2] [0] rfl rfl (by decide) (by decide) hk1 hFc hP1 hD1
      clear hz1 hk1 hPc hDc hFc hP1 hK1 hD1 ht hvm t u
      generalize H1 = H at hP hS ⊢
      have hP : va_P (dC, dI) vwCl [(o6, .inr (6, [.ref o7, .ref o4, .ref o0, .ref o5])), (o5, .inr (5, [.ref o7, .ref a5_1, .int v5_2, .int (r_10.1), .int v5_4, .int v5_5, .int (r_10.2.1), .int v5_7, .int v5_8, .int v5_9])), (a5_1, .inl (cyI, 400, .inl r_10.2.2))] H := hP
      have hD : va_D A [(o6, .inr (6, [.ref o7, .ref o4, .ref o0, .ref o5])), (o5, .inr (5, [.ref o7, .ref a5_1, .int v5_2, .int (r_10.1), .int v5_4, .int v5_5, .int (r_10.2.1), .int v5_7, .int v5_8, .int v5_9])), (a5_1, .inl (cyI, 400, .inl r_10.2.2))] := hD
      refine lv_goto (tgt := 95) hx hb dX6_loadElement_66 (by decide) ?_
      obtain rfl := Option.some.inj hf
      have hP9 := hP.sub (ws' := [(o5, .inr (5, [.ref o7, .ref a5_1, .int v5_2, .int (r_10.1), .int v5_4, .int v5_5, .int (r_10.2.1), .int v5_7, .int v5_8, .int v5_9])), (a5_1, .inl (cyI, 400, .inl r_10.2.2)), (o6, .inr (6, [.ref o7, .ref o4, .ref o0, .ref o5]))]) [1, 2, 0] rfl
      have hD9 := hD.sub (ws' := [(o5, .inr (5, [.ref o7, .ref a5_1, .int v5_2, .int (r_10.1), .int v5_4, .int v5_5, .int (r_10.2.1), .int v5_7, .int v5_8, .int v5_9])), (a5_1, .inl (cyI, 400, .inl r_10.2.2)), (o6, .inr (6, [.ref o7, .ref o4, .ref o0, .ref o5]))]) [1, 2, 0] (by decide) rfl
      exact W.vret hx hb hr (fun t ht hW => ⟨⟨(), rfl, trivial, by rw [ht]; exact hP9, va_K.moved hW.alike hK, hD9⟩, hS.F ht⟩) hS.2.2 dX6_loadElement_95
  · replace hf := x_in c_5 hf
    refine lv_aload_n hx hb dX6_loadElement_29 rfl (lv_at hl 2 rfl) ?_
    refine lv_iload_n hx hb dX6_loadElement_30 rfl (lv_at hl 1 rfl) ?_
    obtain ⟨b_11, hZ_11, hX_11, hb_11⟩ := hT _ (List.mem_of_getElem? (i := 4) rfl)
    refine va_gets hx hb (hZ_11.narrow hAb) hS hown k_3 (fun _ h9 => h9) dX6_loadElement_31 ?_
    refine lv_iload_n hx hb dX6_loadElement_34 rfl (lv_at hl 3 rfl) ?_
    obtain ⟨g_12, hf⟩ := x_gu hf
    refine va_sld hx hb hX_11 (Nat.lt_of_lt_of_le hb_11 hbz) (fun h9 => absurd (hAb _ h9) (Nat.not_le.mpr hb_11)) hS (x_gdin g_12) dX6_loadElement_35 ?_
    obtain ⟨r_13, h_13, hf⟩ := x_bi hf
    have hPc := hP.sub (ws' := [(o5, .inr (5, [.ref o7, .ref a5_1, .int v5_2, .int (r_2.2.1), .int v5_4, .int v5_5, .int (r_2.2.2), .int v5_7, .int v5_8, .int v5_9])), (o6, .inr (6, [.ref o7, .ref o4, .ref o0, .ref o5]))]) [1, 0] rfl
    have hDc := hD.sub (ws' := [(o5, .inr (5, [.ref o7, .ref a5_1, .int v5_2, .int (r_2.2.1), .int v5_4, .int v5_5, .int (r_2.2.2), .int v5_7, .int v5_8, .int v5_9])), (o6, .inr (6, [.ref o7, .ref o4, .ref o0, .ref o5]))]) [1, 0] (by decide) rfl
    have hFc := va_free (wc := [(o5, .inr (5, [.ref o7, .ref a5_1, .int v5_2, .int (r_2.2.1), .int v5_4, .int v5_5, .int (r_2.2.2), .int v5_7, .int v5_8, .int v5_9])), (o6, .inr (6, [.ref o7, .ref o4, .ref o0, .ref o5]))]) hD hS hA [1, 0] rfl
    refine va_callv (va_runV (As := [.int (r_2.1), .int (x_st4 (Int32.toNatClampNeg p1))]) (rest := []) ⟨hx, hb, hml, hown, hts⟩ (c_X6_lookAtArray l dC dI cyI cyZ cyJ H.size o5 o7 a5_1 v5_2 r_2.2.1 v5_4 v5_5 r_2.2.2 v5_7 v5_8 v5_9 o6 o4 o0 r_2.1 (x_st4 (Int32.toNatClampNeg p1)) r_13 h_13) (cwV 2 hts gX6_loadElement_X6_lookAtArray rfl rfl rfl (by decide +kernel) ⟨Nat.le_of_ble_eq_true rfl, Nat.le_of_ble_eq_true rfl⟩) (x_pVD hN hK hPc hDc (ci := 6) (q0 := 1) rfl rfl) rfl rfl hl.1 rfl (lv_room (Nat.le_of_ble_eq_true rfl)) dX6_loadElement_36 ⟨Nat.le_of_ble_eq_true rfl, Nat.le_of_ble_eq_true rfl⟩) hS (fun q _ h => hFc q h) hFc (fun u t H1 locs ht hvm hw hB hz1 hk1 hS => ?_)
    obtain ⟨hP1, hK1, hD1⟩ := hB
    rw [ht] at hP1
    obtain ⟨hP, hD⟩ := va_join (wr := [(a5_1, .inl (cyI, 400, .inl g5_1))]) (w1 := [(o5, .inr (5, [.ref o7, .ref a5_1, .int v5_2, .int (r_2.2.1), .int v5_4, .int v5_5, .int r_13, .int v5_7, .int v5_8, .int v5_9])), (o6, .inr (6, [.ref o7, .ref o4, .ref o0, .ref o5]))]) hP hD [1, 0] [2] rfl rfl (by decide) (by decide) hk1 hFc hP1 hD1
    clear hz1 hk1 hPc hDc hFc hP1 hK1 hD1 ht hvm t u
    generalize H1 = H at hP hS ⊢
    have hP : va_P (dC, dI) vwCl [(a5_1, .inl (cyI, 400, .inl g5_1)), (o5, .inr (5, [.ref o7, .ref a5_1, .int v5_2, .int (r_2.2.1), .int v5_4, .int v5_5, .int r_13, .int v5_7, .int v5_8, .int v5_9])), (o6, .inr (6, [.ref o7, .ref o4, .ref o0, .ref o5]))] H := hP
    have hD : va_D A [(a5_1, .inl (cyI, 400, .inl g5_1)), (o5, .inr (5, [.ref o7, .ref a5_1, .int v5_2, .int (r_2.2.1), .int v5_4, .int v5_5, .int r_13, .int v5_7, .int v5_8, .int v5_9])), (o6, .inr (6, [.ref o7, .ref o4, .ref o0, .ref o5]))] := hD
    refine lv_aload_n hx hb dX6_loadElement_39 rfl (lv_at hl 2 rfl) ?_
    refine va_get (D := (dC, dI)) (ci := 6) (v := .ref o5) (C := RX6) (T := TX6) (N := 4) hx hb hts i_X6_loadElement_X6 hown hK hP 2 rfl rfl 3 (by decide) k_1 (fun _ h9 => h9) rfl dX6_loadElement_40 ?_
    obtain ⟨b_14, hZ_14, hX_14, hb_14⟩ := hT _ (List.mem_of_getElem? (i := 4) rfl)
    refine va_gets hx hb (hZ_14.narrow hAb) hS hown k_3 (fun _ h9 => h9) dX6_loadElement_43 ?_
    refine lv_iload_n hx hb dX6_loadElement_46 rfl (lv_at hl 3 rfl) ?_
    obtain ⟨g_15, hf⟩ := x_gu hf
    refine va_sld hx hb hX_14 (Nat.lt_of_lt_of_le hb_14 hbz) (fun h9 => absurd (hAb _ h9) (Nat.not_le.mpr hb_14)) hS (x_gdin g_15) dX6_loadElement_47 ?_
    obtain ⟨r_16, h_16, hf⟩ := x_bi hf
    have hPc := hP.sub (ws' := [(o5, .inr (5, [.ref o7, .ref a5_1, .int v5_2, .int (r_2.2.1), .int v5_4, .int v5_5, .int r_13, .int v5_7, .int v5_8, .int v5_9])), (a5_1, .inl (cyI, 400, .inl g5_1))]) [1, 0] rfl
    have hDc := hD.sub (ws' := [(o5, .inr (5, [.ref o7, .ref a5_1, .int v5_2, .int (r_2.2.1), .int v5_4, .int v5_5, .int r_13, .int v5_7, .int v5_8, .int v5_9])), (a5_1, .inl (cyI, 400, .inl g5_1))]) [1, 0] (by decide) rfl
    have hFc := va_free (wc := [(o5, .inr (5, [.ref o7, .ref a5_1, .int v5_2, .int (r_2.2.1), .int v5_4, .int v5_5, .int r_13, .int v5_7, .int v5_8, .int v5_9])), (a5_1, .inl (cyI, 400, .inl g5_1))]) hD hS hA [1, 0] rfl
    refine va_callv (va_runV (As := [.int (x_st4 (Int32.toNatClampNeg p1))]) (rest := []) ⟨hx, hb, hml, hown, hts⟩ (c_X5_pushType l dC dI cyI cyZ cyJ H.size o5 o7 a5_1 v5_2 r_2.2.1 v5_4 v5_5 r_13 v5_7 v5_8 v5_9 g5_1 (x_st4 (Int32.toNatClampNeg p1)) r_16 h_16) (cwV 1 hts gX6_loadElement_X5_pushType rfl rfl rfl (by decide +kernel) ⟨Nat.le_of_ble_eq_true rfl, Nat.le_of_ble_eq_true rfl⟩) (x_pVD hN hK hPc hDc (ci := 5) (q0 := 0) rfl rfl) rfl rfl hl.1 rfl (lv_room (Nat.le_of_ble_eq_true rfl)) dX6_loadElement_48 ⟨Nat.le_of_ble_eq_true rfl, Nat.le_of_ble_eq_true rfl⟩) hS (fun q _ h => hFc q h) hFc (fun u t H1 locs ht hvm hw hB hz1 hk1 hS => ?_)
    obtain ⟨hP1, hK1, hD1⟩ := hB
    rw [ht] at hP1
    obtain ⟨hP, hD⟩ := va_join (wr := [(o6, .inr (6, [.ref o7, .ref o4, .ref o0, .ref o5]))]) (w1 := [(o5, .inr (5, [.ref o7, .ref a5_1, .int v5_2, .int (r_16.1), .int v5_4, .int v5_5, .int (r_16.2.1), .int v5_7, .int v5_8, .int v5_9])), (a5_1, .inl (cyI, 400, .inl r_16.2.2))]) hP hD [1, 0] [2] rfl rfl (by decide) (by decide) hk1 hFc hP1 hD1
    clear hz1 hk1 hPc hDc hFc hP1 hK1 hD1 ht hvm t u
    generalize H1 = H at hP hS ⊢
    have hP : va_P (dC, dI) vwCl [(o6, .inr (6, [.ref o7, .ref o4, .ref o0, .ref o5])), (o5, .inr (5, [.ref o7, .ref a5_1, .int v5_2, .int (r_16.1), .int v5_4, .int v5_5, .int (r_16.2.1), .int v5_7, .int v5_8, .int v5_9])), (a5_1, .inl (cyI, 400, .inl r_16.2.2))] H := hP
    have hD : va_D A [(o6, .inr (6, [.ref o7, .ref o4, .ref o0, .ref o5])), (o5, .inr (5, [.ref o7, .ref a5_1, .int v5_2, .int (r_16.1), .int v5_4, .int v5_5, .int (r_16.2.1), .int v5_7, .int v5_8, .int v5_9])), (a5_1, .inl (cyI, 400, .inl r_16.2.2))] := hD
    refine lv_goto (tgt := 95) hx hb dX6_loadElement_51 (by decide) ?_
    obtain rfl := Option.some.inj hf
    have hP9 := hP.sub (ws' := [(o5, .inr (5, [.ref o7, .ref a5_1, .int v5_2, .int (r_16.1), .int v5_4, .int v5_5, .int (r_16.2.1), .int v5_7, .int v5_8, .int v5_9])), (a5_1, .inl (cyI, 400, .inl r_16.2.2)), (o6, .inr (6, [.ref o7, .ref o4, .ref o0, .ref o5]))]) [1, 2, 0] rfl
    have hD9 := hD.sub (ws' := [(o5, .inr (5, [.ref o7, .ref a5_1, .int v5_2, .int (r_16.1), .int v5_4, .int v5_5, .int (r_16.2.1), .int v5_7, .int v5_8, .int v5_9])), (a5_1, .inl (cyI, 400, .inl r_16.2.2)), (o6, .inr (6, [.ref o7, .ref o4, .ref o0, .ref o5]))]) [1, 2, 0] (by decide) rfl
    exact W.vret hx hb hr (fun t ht hW => ⟨⟨(), rfl, trivial, by rw [ht]; exact hP9, va_K.moved hW.alike hK, hD9⟩, hS.F ht⟩) hS.2.2 dX6_loadElement_95

