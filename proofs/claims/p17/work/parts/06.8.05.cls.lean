def f_X3_arrange_L (g1_0 : Nat → Int32) (n1_0 : Nat) (g1_1 : Nat → Int32) (n1_1 : Nat) (g1_2 : Nat → Int32) (n1_2 : Nat) (v3_4 : Int32) (g3_6 : Nat → Int32) (n3_6 : Nat) (g3_7 : Nat → Int32) (n3_7 : Nat) (z : Nat × Int32 × Int32 × (Nat → Int32) × Nat × (Nat → Int32) × Nat) : Option ((Nat → Int32) × Nat × (Nat → Int32) × Nat × Nat × Nat) := match z with
  | (q, l1, l2, g3_15, n3_15, g3_16, n3_16) => if q = 0 then if v3_4 ≤ l1 then (f_X3_arrange_L g1_0 n1_0 g1_1 n1_1 g1_2 n1_2 v3_4 g3_6 n3_6 g3_7 n3_7 (1, 1, 0, g3_15, n3_15, g3_16, n3_16)) else if x_gd l1 n3_15 = true then (f_X3_arrange_L g1_0 n1_0 g1_1 n1_1 g1_2 n1_2 v3_4 g3_6 n3_6 g3_7 n3_7 (0, l1 + 1, 0, upd g3_15 (Int32.toNatClampNeg l1) l1, n3_15, g3_16, n3_16)) else none else if q = 1 then if v3_4 ≤ l1 then some (g3_15, n3_15, g3_16, n3_16, 0, 0) else (f_X3_arrange_L g1_0 n1_0 g1_1 n1_1 g1_2 n1_2 v3_4 g3_6 n3_6 g3_7 n3_7 (2, l1, 0, g3_15, n3_15, g3_16, n3_16)) else if q = 2 then if v3_4 ≤ l2 then (f_X3_arrange_L g1_0 n1_0 g1_1 n1_1 g1_2 n1_2 v3_4 g3_6 n3_6 g3_7 n3_7 (1, l1 * (2 : Int32), 0, g3_16, n3_16, g3_15, n3_15)) else (f_X3_mergeRuns g1_0 n1_0 g1_1 n1_1 g1_2 n1_2 v3_4 g3_6 n3_6 g3_7 n3_7 g3_15 n3_15 g3_16 n3_16 l2 l1) >>= (fun r_5 => (f_X3_arrange_L g1_0 n1_0 g1_1 n1_1 g1_2 n1_2 v3_4 g3_6 n3_6 g3_7 n3_7 (2, l1, l2 + ((2 : Int32) * l1), g3_15, n3_15, r_5, n3_16))) else none
partial_fixpoint
def f_X3_arrange (g1_0 : Nat → Int32) (n1_0 : Nat) (g1_1 : Nat → Int32) (n1_1 : Nat) (g1_2 : Nat → Int32) (n1_2 : Nat) (v3_4 : Int32) (g3_6 : Nat → Int32) (n3_6 : Nat) (g3_7 : Nat → Int32) (n3_7 : Nat) (g3_15 : Nat → Int32) (n3_15 : Nat) (g3_16 : Nat → Int32) (n3_16 : Nat) : Option ((Nat → Int32) × Nat × (Nat → Int32) × Nat × Nat × Nat) := if v3_4 ≤ (Int32.ofNat n3_15) then (f_X3_arrange_L g1_0 n1_0 g1_1 n1_1 g1_2 n1_2 v3_4 g3_6 n3_6 g3_7 n3_7 (0, 0, 0, g3_15, n3_15, g3_16, n3_16)) else if x_ng0 (Int32.ofNat n3_6) = true then (if x_ng0 (Int32.ofNat n3_6) = true then ((f_X3_arrange_L g1_0 n1_0 g1_1 n1_1 g1_2 n1_2 v3_4 g3_6 n3_6 g3_7 n3_7 (0, 0, 0, x_z0, Int32.toNatClampNeg (Int32.ofNat n3_6), x_z0, Int32.toNatClampNeg (Int32.ofNat n3_6)))) >>= (fun Z_11 => some (Z_11.1, Z_11.2.1, Z_11.2.2.1, Z_11.2.2.2.1, Z_11.2.2.2.2.1 + 1, Z_11.2.2.2.2.2 + (Int32.toNatClampNeg (Int32.ofNat n3_6)))) else none) >>= (fun Z_8 => some (Z_8.1, Z_8.2.1, Z_8.2.2.1, Z_8.2.2.2.1, Z_8.2.2.2.2.1 + 1, Z_8.2.2.2.2.2 + (Int32.toNatClampNeg (Int32.ofNat n3_6)))) else none
theorem i_X3_arrange_X3 : ∀ w ∈ wsX30, w ∈ wsX3_arrange := fun _ h => List.mem_cons_of_mem _ (List.mem_append_left _ (List.mem_append_right _ h))
set_option maxHeartbeats 40000000 in
set_option maxRecDepth 100000 in
theorem c_X3_arrange (l : Launch) (dC : Nat → ClassId) (dI : Nat → Nat → Nat) (cyI cyZ cyJ : ClassId) (sz : Nat) (o1 : Nat) (a1_0 : Nat) (a1_1 : Nat) (a1_2 : Nat) (a1_3 : Nat) (a1_4 : Nat) (v1_5 : Int32) (g1_0 : Nat → Int32) (n1_0 : Nat) (g1_1 : Nat → Int32) (n1_1 : Nat) (g1_2 : Nat → Int32) (n1_2 : Nat) (o3 : Nat) (o7 : Nat) (v3_2 : Int32) (v3_3 : Int32) (v3_4 : Int32) (a3_5 : Nat) (a3_6 : Nat) (a3_7 : Nat) (a3_8 : Nat) (a3_9 : Nat) (a3_10 : Nat) (a3_11 : Nat) (a3_12 : Nat) (v3_13 : Int32) (v3_14 : Int32) (a3_15 : Nat) (a3_16 : Nat) (g3_6 : Nat → Int32) (n3_6 : Nat) (g3_7 : Nat → Int32) (n3_7 : Nat) (g3_15 : Nat → Int32) (n3_15 : Nat) (g3_16 : Nat → Int32) (n3_16 : Nat) (R : (Nat → Int32) × Nat × (Nat → Int32) × Nat × Nat × Nat) (hf : f_X3_arrange g1_0 n1_0 g1_1 n1_1 g1_2 n1_2 v3_4 g3_6 n3_6 g3_7 n3_7 g3_15 n3_15 g3_16 n3_16 = some R) : Met l yX3_arrange wsX3_arrange ({ frames := 3, cells := R.2.2.2.2.1, slots := R.2.2.2.2.2, locals := 75 }) (va_Pc [.ref o3] (x_PreD (dC, dI) (x_T cyI cyZ cyJ) [(o1, .inr (1, [.ref a1_0, .ref a1_1, .ref a1_2, .ref a1_3, .ref a1_4, .int v1_5])), (a1_0, .inl (cyI, n1_0, .inl g1_0)), (a1_1, .inl (cyI, n1_1, .inl g1_1)), (a1_2, .inl (cyI, n1_2, .inl g1_2)), (o3, .inr (3, [.ref o7, .ref o1, .int v3_2, .int v3_3, .int v3_4, .ref a3_5, .ref a3_6, .ref a3_7, .ref a3_8, .ref a3_9, .ref a3_10, .ref a3_11, .ref a3_12, .int v3_13, .int v3_14, .ref a3_15, .ref a3_16])), (a3_6, .inl (cyI, n3_6, .inl g3_6)), (a3_7, .inl (cyI, n3_7, .inl g3_7)), (a3_15, .inl (cyI, n3_15, .inl g3_15)), (a3_16, .inl (cyI, n3_16, .inl g3_16))] sz)) (va_Qv (fun _ : Unit => True) (fun (_ : Unit) (t : State) => ∃ (a3_15_9 a3_16_9 : Nat), va_P (dC, dI) vwCl [(o1, .inr (1, [.ref a1_0, .ref a1_1, .ref a1_2, .ref a1_3, .ref a1_4, .int v1_5])), (a1_0, .inl (cyI, n1_0, .inl g1_0)), (a1_1, .inl (cyI, n1_1, .inl g1_1)), (a1_2, .inl (cyI, n1_2, .inl g1_2)), (o3, .inr (3, [.ref o7, .ref o1, .int v3_2, .int v3_3, .int v3_4, .ref a3_5, .ref a3_6, .ref a3_7, .ref a3_8, .ref a3_9, .ref a3_10, .ref a3_11, .ref a3_12, .int v3_13, .int v3_14, .ref a3_15_9, .ref a3_16_9])), (a3_6, .inl (cyI, n3_6, .inl g3_6)), (a3_7, .inl (cyI, n3_7, .inl g3_7)), (a3_15_9, .inl (cyI, R.2.1, .inl R.1)), (a3_16_9, .inl (cyI, R.2.2.2.1, .inl R.2.2.1))] t.heap ∧ va_K (dC, dI) vwCl (x_T cyI cyZ cyJ) t ∧ va_D (va_A [(o1, .inr (1, [.ref a1_0, .ref a1_1, .ref a1_2, .ref a1_3, .ref a1_4, .int v1_5])), (a1_0, .inl (cyI, n1_0, .inl g1_0)), (a1_1, .inl (cyI, n1_1, .inl g1_1)), (a1_2, .inl (cyI, n1_2, .inl g1_2)), (o3, .inr (3, [.ref o7, .ref o1, .int v3_2, .int v3_3, .int v3_4, .ref a3_5, .ref a3_6, .ref a3_7, .ref a3_8, .ref a3_9, .ref a3_10, .ref a3_11, .ref a3_12, .int v3_13, .int v3_14, .ref a3_15, .ref a3_16])), (a3_6, .inl (cyI, n3_6, .inl g3_6)), (a3_7, .inl (cyI, n3_7, .inl g3_7)), (a3_15, .inl (cyI, n3_15, .inl g3_15)), (a3_16, .inl (cyI, n3_16, .inl g3_16))] sz) [(o1, .inr (1, [.ref a1_0, .ref a1_1, .ref a1_2, .ref a1_3, .ref a1_4, .int v1_5])), (a1_0, .inl (cyI, n1_0, .inl g1_0)), (a1_1, .inl (cyI, n1_1, .inl g1_1)), (a1_2, .inl (cyI, n1_2, .inl g1_2)), (o3, .inr (3, [.ref o7, .ref o1, .int v3_2, .int v3_3, .int v3_4, .ref a3_5, .ref a3_6, .ref a3_7, .ref a3_8, .ref a3_9, .ref a3_10, .ref a3_11, .ref a3_12, .int v3_13, .int v3_14, .ref a3_15_9, .ref a3_16_9])), (a3_6, .inl (cyI, n3_6, .inl g3_6)), (a3_7, .inl (cyI, n3_7, .inl g3_7)), (a3_15_9, .inl (cyI, R.2.1, .inl R.1)), (a3_16_9, .inl (cyI, R.2.2.2.1, .inl R.2.2.1))]) (va_A [(o1, .inr (1, [.ref a1_0, .ref a1_1, .ref a1_2, .ref a1_3, .ref a1_4, .int v1_5])), (a1_0, .inl (cyI, n1_0, .inl g1_0)), (a1_1, .inl (cyI, n1_1, .inl g1_1)), (a1_2, .inl (cyI, n1_2, .inl g1_2)), (o3, .inr (3, [.ref o7, .ref o1, .int v3_2, .int v3_3, .int v3_4, .ref a3_5, .ref a3_6, .ref a3_7, .ref a3_8, .ref a3_9, .ref a3_10, .ref a3_11, .ref a3_12, .int v3_13, .int v3_14, .ref a3_15, .ref a3_16])), (a3_6, .inl (cyI, n3_6, .inl g3_6)), (a3_7, .inl (cyI, n3_7, .inl g3_7)), (a3_15, .inl (cyI, n3_15, .inl g3_15)), (a3_16, .inl (cyI, n3_16, .inl g3_16))] sz)) (R.2.2.2.2.1) (R.2.2.2.2.2) (va_A [(o1, .inr (1, [.ref a1_0, .ref a1_1, .ref a1_2, .ref a1_3, .ref a1_4, .int v1_5])), (a1_0, .inl (cyI, n1_0, .inl g1_0)), (a1_1, .inl (cyI, n1_1, .inl g1_1)), (a1_2, .inl (cyI, n1_2, .inl g1_2)), (o3, .inr (3, [.ref o7, .ref o1, .int v3_2, .int v3_3, .int v3_4, .ref a3_5, .ref a3_6, .ref a3_7, .ref a3_8, .ref a3_9, .ref a3_10, .ref a3_11, .ref a3_12, .int v3_13, .int v3_14, .ref a3_15, .ref a3_16])), (a3_6, .inl (cyI, n3_6, .inl g3_6)), (a3_7, .inl (cyI, n3_7, .inl g3_7)), (a3_15, .inl (cyI, n3_15, .inl g3_15)), (a3_16, .inl (cyI, n3_16, .inl g3_16))] sz) := by
  refine Met.ofW (cc := cX3_arrange) (maxL := 3) (ret := none) (by decide) rfl ?_
  intro p e s m args below meth c s₁ B hml hv
  obtain ⟨rfl, ⟨hsz, hP, hK, hN⟩, hD0⟩ := hv
  have hx := B.exec
  have hb := B.bytes
  have hr := B.returns
  have hts := atoms_spec (ws := wsX3_arrange) B.pre
  have hown : s.vm.findClass RX3 = some m.cls := findClass_of_methodNamed B.named
  have k_1 := hts (.fieldLink RX3 69 "FlowJudge$Frames" "count" "I") (by decide +kernel)
  have k_2 := hts (.fieldLink RX3 43 "FlowJudge$Frames" "order" "[I") (by decide +kernel)
  have k_3 := hts (.fieldLink RX3 46 "FlowJudge$Frames" "otherOrder" "[I") (by decide +kernel)
  have k_4 := hts (.fieldLink RX3 15 "FlowJudge$Frames" "targets" "[I") (by decide +kernel)
  have k_5 := hts (.arrayClass .int) (by decide +kernel)
  subst hsz
  have hD := hD0.self (sz := s.heap.size)
  generalize hAe : va_A [(o1, .inr (1, [.ref a1_0, .ref a1_1, .ref a1_2, .ref a1_3, .ref a1_4, .int v1_5])), (a1_0, .inl (cyI, n1_0, .inl g1_0)), (a1_1, .inl (cyI, n1_1, .inl g1_1)), (a1_2, .inl (cyI, n1_2, .inl g1_2)), (o3, .inr (3, [.ref o7, .ref o1, .int v3_2, .int v3_3, .int v3_4, .ref a3_5, .ref a3_6, .ref a3_7, .ref a3_8, .ref a3_9, .ref a3_10, .ref a3_11, .ref a3_12, .int v3_13, .int v3_14, .ref a3_15, .ref a3_16])), (a3_6, .inl (cyI, n3_6, .inl g3_6)), (a3_7, .inl (cyI, n3_7, .inl g3_7)), (a3_15, .inl (cyI, n3_15, .inl g3_15)), (a3_16, .inl (cyI, n3_16, .inl g3_16))] s.heap.size = A at hD ⊢
  have hA : ∀ q : Nat, s.heap.size ≤ q → A q := fun q h => by rw [← hAe]; exact Or.inr h
  have hP : va_P (dC, dI) vwCl [(o1, .inr (1, [.ref a1_0, .ref a1_1, .ref a1_2, .ref a1_3, .ref a1_4, .int v1_5])), (a1_0, .inl (cyI, n1_0, .inl g1_0)), (a1_1, .inl (cyI, n1_1, .inl g1_1)), (a1_2, .inl (cyI, n1_2, .inl g1_2)), (o3, .inr (3, [.ref o7, .ref o1, .int v3_2, .int v3_3, .int v3_4, .ref a3_5, .ref a3_6, .ref a3_7, .ref a3_8, .ref a3_9, .ref a3_10, .ref a3_11, .ref a3_12, .int v3_13, .int v3_14, .ref a3_15, .ref a3_16])), (a3_6, .inl (cyI, n3_6, .inl g3_6)), (a3_7, .inl (cyI, n3_7, .inl g3_7)), (a3_15, .inl (cyI, n3_15, .inl g3_15)), (a3_16, .inl (cyI, n3_16, .inl g3_16))] s.heap := hP
  have hl := lv_entry ([.ref o3]) (n := 3) (Nat.le_of_ble_eq_true rfl)
  rw [lg_entry_eq]
  generalize (lg_sl ([.ref o3]) ++ List.replicate (3 - (lg_sl ([.ref o3])).length) Slot.unset).toArray = ls at hl ⊢
  have hl : lv_has ls 3 [(0, .ref o3)] := hl
  obtain ⟨H, hH⟩ : ∃ z, z = s.heap := ⟨_, rfl⟩
  refine x_here hH ?_
  have hP : va_P (dC, dI) vwCl [(o1, .inr (1, [.ref a1_0, .ref a1_1, .ref a1_2, .ref a1_3, .ref a1_4, .int v1_5])), (a1_0, .inl (cyI, n1_0, .inl g1_0)), (a1_1, .inl (cyI, n1_1, .inl g1_1)), (a1_2, .inl (cyI, n1_2, .inl g1_2)), (o3, .inr (3, [.ref o7, .ref o1, .int v3_2, .int v3_3, .int v3_4, .ref a3_5, .ref a3_6, .ref a3_7, .ref a3_8, .ref a3_9, .ref a3_10, .ref a3_11, .ref a3_12, .int v3_13, .int v3_14, .ref a3_15, .ref a3_16])), (a3_6, .inl (cyI, n3_6, .inl g3_6)), (a3_7, .inl (cyI, n3_7, .inl g3_7)), (a3_15, .inl (cyI, n3_15, .inl g3_15)), (a3_16, .inl (cyI, n3_16, .inl g3_16))] H := by rw [hH]; exact hP
  have hS : va_S A s.heap H [] := by rw [hH]; exact va_S.rf
  clear hH
  obtain ⟨locs, hlo⟩ : ∃ z : List Loc, z = [] := ⟨_, rfl⟩
  refine x_herl hlo ?_
  have hS : va_S A s.heap H locs := by rw [hlo]; exact hS
  clear hlo
  unfold f_X3_arrange at hf
  refine x_wn (fun WW hWW => ?_)
  have J := f_X3_arrange_L.partial_correctness g1_0 n1_0 g1_1 n1_1 g1_2 n1_2 v3_4 g3_6 n3_6 g3_7 n3_7 (fun (z : Nat × Int32 × Int32 × (Nat → Int32) × Nat × (Nat → Int32) × Nat) (r : (Nat → Int32) × Nat × (Nat → Int32) × Nat × Nat × Nat) => ∀ zc zs : Nat, R = (r.1, r.2.1, r.2.2.1, r.2.2.2.1, r.2.2.2.2.1 + zc, r.2.2.2.2.2 + zs) → ∀ (q : Nat) (l1 : Int32) (l2 : Int32) (g3_15 : Nat → Int32) (n3_15 : Nat) (g3_16 : Nat → Int32) (n3_16 : Nat), z = (q, l1, l2, g3_15, n3_15, g3_16, n3_16) → ((q = 0 → ∀ (a3_15 a3_16 : Nat) (H : Heap) (locs : List Loc) (ls : Array Slot), va_P (dC, dI) vwCl [(o1, .inr (1, [.ref a1_0, .ref a1_1, .ref a1_2, .ref a1_3, .ref a1_4, .int v1_5])), (a1_0, .inl (cyI, n1_0, .inl g1_0)), (a1_1, .inl (cyI, n1_1, .inl g1_1)), (a1_2, .inl (cyI, n1_2, .inl g1_2)), (o3, .inr (3, [.ref o7, .ref o1, .int v3_2, .int v3_3, .int v3_4, .ref a3_5, .ref a3_6, .ref a3_7, .ref a3_8, .ref a3_9, .ref a3_10, .ref a3_11, .ref a3_12, .int v3_13, .int v3_14, .ref a3_15, .ref a3_16])), (a3_6, .inl (cyI, n3_6, .inl g3_6)), (a3_7, .inl (cyI, n3_7, .inl g3_7)), (a3_15, .inl (cyI, n3_15, .inl g3_15)), (a3_16, .inl (cyI, n3_16, .inl g3_16))] H → va_D A [(o1, .inr (1, [.ref a1_0, .ref a1_1, .ref a1_2, .ref a1_3, .ref a1_4, .int v1_5])), (a1_0, .inl (cyI, n1_0, .inl g1_0)), (a1_1, .inl (cyI, n1_1, .inl g1_1)), (a1_2, .inl (cyI, n1_2, .inl g1_2)), (o3, .inr (3, [.ref o7, .ref o1, .int v3_2, .int v3_3, .int v3_4, .ref a3_5, .ref a3_6, .ref a3_7, .ref a3_8, .ref a3_9, .ref a3_10, .ref a3_11, .ref a3_12, .int v3_13, .int v3_14, .ref a3_15, .ref a3_16])), (a3_6, .inl (cyI, n3_6, .inl g3_6)), (a3_7, .inl (cyI, n3_7, .inl g3_7)), (a3_15, .inl (cyI, n3_15, .inl g3_15)), (a3_16, .inl (cyI, n3_16, .inl g3_16))] → va_S A s.heap H locs → lv_has ls 3 [(0, .ref o3), (1, .int l1)] → WW H locs zc zs (F0 m 36 ls [])) ∧ (q = 1 → ∀ (a3_15 a3_16 : Nat) (H : Heap) (locs : List Loc) (ls : Array Slot), va_P (dC, dI) vwCl [(o1, .inr (1, [.ref a1_0, .ref a1_1, .ref a1_2, .ref a1_3, .ref a1_4, .int v1_5])), (a1_0, .inl (cyI, n1_0, .inl g1_0)), (a1_1, .inl (cyI, n1_1, .inl g1_1)), (a1_2, .inl (cyI, n1_2, .inl g1_2)), (o3, .inr (3, [.ref o7, .ref o1, .int v3_2, .int v3_3, .int v3_4, .ref a3_5, .ref a3_6, .ref a3_7, .ref a3_8, .ref a3_9, .ref a3_10, .ref a3_11, .ref a3_12, .int v3_13, .int v3_14, .ref a3_15, .ref a3_16])), (a3_6, .inl (cyI, n3_6, .inl g3_6)), (a3_7, .inl (cyI, n3_7, .inl g3_7)), (a3_15, .inl (cyI, n3_15, .inl g3_15)), (a3_16, .inl (cyI, n3_16, .inl g3_16))] H → va_D A [(o1, .inr (1, [.ref a1_0, .ref a1_1, .ref a1_2, .ref a1_3, .ref a1_4, .int v1_5])), (a1_0, .inl (cyI, n1_0, .inl g1_0)), (a1_1, .inl (cyI, n1_1, .inl g1_1)), (a1_2, .inl (cyI, n1_2, .inl g1_2)), (o3, .inr (3, [.ref o7, .ref o1, .int v3_2, .int v3_3, .int v3_4, .ref a3_5, .ref a3_6, .ref a3_7, .ref a3_8, .ref a3_9, .ref a3_10, .ref a3_11, .ref a3_12, .int v3_13, .int v3_14, .ref a3_15, .ref a3_16])), (a3_6, .inl (cyI, n3_6, .inl g3_6)), (a3_7, .inl (cyI, n3_7, .inl g3_7)), (a3_15, .inl (cyI, n3_15, .inl g3_15)), (a3_16, .inl (cyI, n3_16, .inl g3_16))] → va_S A s.heap H locs → lv_has ls 3 [(0, .ref o3), (1, .int l1)] → WW H locs zc zs (F0 m 59 ls [])) ∧ (q = 2 → ∀ (a3_15 a3_16 : Nat) (H : Heap) (locs : List Loc) (ls : Array Slot), va_P (dC, dI) vwCl [(o1, .inr (1, [.ref a1_0, .ref a1_1, .ref a1_2, .ref a1_3, .ref a1_4, .int v1_5])), (a1_0, .inl (cyI, n1_0, .inl g1_0)), (a1_1, .inl (cyI, n1_1, .inl g1_1)), (a1_2, .inl (cyI, n1_2, .inl g1_2)), (o3, .inr (3, [.ref o7, .ref o1, .int v3_2, .int v3_3, .int v3_4, .ref a3_5, .ref a3_6, .ref a3_7, .ref a3_8, .ref a3_9, .ref a3_10, .ref a3_11, .ref a3_12, .int v3_13, .int v3_14, .ref a3_15, .ref a3_16])), (a3_6, .inl (cyI, n3_6, .inl g3_6)), (a3_7, .inl (cyI, n3_7, .inl g3_7)), (a3_15, .inl (cyI, n3_15, .inl g3_15)), (a3_16, .inl (cyI, n3_16, .inl g3_16))] H → va_D A [(o1, .inr (1, [.ref a1_0, .ref a1_1, .ref a1_2, .ref a1_3, .ref a1_4, .int v1_5])), (a1_0, .inl (cyI, n1_0, .inl g1_0)), (a1_1, .inl (cyI, n1_1, .inl g1_1)), (a1_2, .inl (cyI, n1_2, .inl g1_2)), (o3, .inr (3, [.ref o7, .ref o1, .int v3_2, .int v3_3, .int v3_4, .ref a3_5, .ref a3_6, .ref a3_7, .ref a3_8, .ref a3_9, .ref a3_10, .ref a3_11, .ref a3_12, .int v3_13, .int v3_14, .ref a3_15, .ref a3_16])), (a3_6, .inl (cyI, n3_6, .inl g3_6)), (a3_7, .inl (cyI, n3_7, .inl g3_7)), (a3_15, .inl (cyI, n3_15, .inl g3_15)), (a3_16, .inl (cyI, n3_16, .inl g3_16))] → va_S A s.heap H locs → lv_has ls 3 [(0, .ref o3), (1, .int l1), (2, .int l2)] → WW H locs zc zs (F0 m 69 ls [])))) (by
    intro F ih z r hf zc zs hr q l1 l2 g3_15 n3_15 g3_16 n3_16 hz
    subst hz
    have hR := hr
    clear hr
    have hRc := congrArg (fun z => z.2.2.2.2.1) hR
    have hRs := congrArg (fun z => z.2.2.2.2.2) hR
    dsimp only at hRc hRs
    refine ⟨?_, ?_, ?_⟩
    · intro hq a3_15 a3_16 H locs ls hP hD hS hl
      subst hq
      refine (hWW _ _ _ _ _).mp ?_
      replace hf := x_ip rfl hf
      refine lv_iload_n hx hb dX3_arrange_36 rfl (lv_at hl 1 rfl) ?_
      refine lv_aload_n hx hb dX3_arrange_37 rfl (lv_at hl 0 rfl) ?_
      refine va_get (D := (dC, dI)) (ci := 3) (v := .int v3_4) (C := RX3) (T := TX3) (N := 17) hx hb hts i_X3_arrange_X3 hown hK hP 4 rfl rfl 4 (by decide) k_1 (fun _ h9 => h9) rfl dX3_arrange_38 ?_
      refine lv_icmp_ge (tgt := 57) hx hb dX3_arrange_41 (by decide) (fun c_1 => ?_) (fun c_1 => ?_)
      · replace hf := x_ip c_1 hf
        refine lv_iconst (v := 1) hx hb dX3_arrange_57 (by decide) ?_
        refine lv_istore_n (lv' := [(1, .int 1), (0, .ref o3)]) hx hb dX3_arrange_58 rfl hl (by decide) rfl (fun ls hl => ?_)
        exact (hWW _ _ _ _ _).mpr ((ih (1, 1, 0, g3_15, n3_15, g3_16, n3_16) _ hf zc zs (hR.trans (by first | rfl | simp only [Nat.add_assoc, Nat.add_comm, Nat.add_left_comm, Nat.add_zero, Nat.zero_add])) _ _ _ _ _ _ _ rfl).2.1 rfl a3_15 a3_16 H locs ls hP hD hS (lv_sub hl [1, 0] rfl))
      · replace hf := x_in c_1 hf
        refine lv_aload_n hx hb dX3_arrange_44 rfl (lv_at hl 0 rfl) ?_
        refine va_get (D := (dC, dI)) (ci := 3) (v := .ref a3_15) (C := RX3) (T := TX3) (N := 17) hx hb hts i_X3_arrange_X3 hown hK hP 4 rfl rfl 15 (by decide) k_2 (fun _ h9 => h9) rfl dX3_arrange_45 ?_
        refine lv_iload_n hx hb dX3_arrange_48 rfl (lv_at hl 1 rfl) ?_
        refine lv_iload_n hx hb dX3_arrange_49 rfl (lv_at hl 1 rfl) ?_
        replace hf := x_gu hf
        obtain ⟨g_2, hf⟩ := hf
        refine va_iast hx hb hK hP hD hS 7 0 rfl rfl (x_gdin g_2) dX3_arrange_50 (fun H locs hP hD hS => ?_)
        have hP : va_P (dC, dI) vwCl [(o1, .inr (1, [.ref a1_0, .ref a1_1, .ref a1_2, .ref a1_3, .ref a1_4, .int v1_5])), (a1_0, .inl (cyI, n1_0, .inl g1_0)), (a1_1, .inl (cyI, n1_1, .inl g1_1)), (a1_2, .inl (cyI, n1_2, .inl g1_2)), (o3, .inr (3, [.ref o7, .ref o1, .int v3_2, .int v3_3, .int v3_4, .ref a3_5, .ref a3_6, .ref a3_7, .ref a3_8, .ref a3_9, .ref a3_10, .ref a3_11, .ref a3_12, .int v3_13, .int v3_14, .ref a3_15, .ref a3_16])), (a3_6, .inl (cyI, n3_6, .inl g3_6)), (a3_7, .inl (cyI, n3_7, .inl g3_7)), (a3_15, .inl (cyI, n3_15, .inl (upd g3_15 (Int32.toNatClampNeg l1) l1))), (a3_16, .inl (cyI, n3_16, .inl g3_16))] H := hP
        have hD : va_D A [(o1, .inr (1, [.ref a1_0, .ref a1_1, .ref a1_2, .ref a1_3, .ref a1_4, .int v1_5])), (a1_0, .inl (cyI, n1_0, .inl g1_0)), (a1_1, .inl (cyI, n1_1, .inl g1_1)), (a1_2, .inl (cyI, n1_2, .inl g1_2)), (o3, .inr (3, [.ref o7, .ref o1, .int v3_2, .int v3_3, .int v3_4, .ref a3_5, .ref a3_6, .ref a3_7, .ref a3_8, .ref a3_9, .ref a3_10, .ref a3_11, .ref a3_12, .int v3_13, .int v3_14, .ref a3_15, .ref a3_16])), (a3_6, .inl (cyI, n3_6, .inl g3_6)), (a3_7, .inl (cyI, n3_7, .inl g3_7)), (a3_15, .inl (cyI, n3_15, .inl (upd g3_15 (Int32.toNatClampNeg l1) l1))), (a3_16, .inl (cyI, n3_16, .inl g3_16))] := hD
        refine lv_iinc (v := (l1 + 1)) (lv' := [(1, .int (l1 + 1)), (0, .ref o3)]) hx hb dX3_arrange_51 hl (k := 1) rfl rfl (by decide) rfl (fun ls hl => ?_)
        refine lv_goto (tgt := 36) hx hb dX3_arrange_54 (by decide) ?_
        exact (hWW _ _ _ _ _).mpr ((ih (0, l1 + 1, 0, upd g3_15 (Int32.toNatClampNeg l1) l1, n3_15, g3_16, n3_16) _ hf zc zs (hR.trans (by first | rfl | simp only [Nat.add_assoc, Nat.add_comm, Nat.add_left_comm, Nat.add_zero, Nat.zero_add])) _ _ _ _ _ _ _ rfl).1 rfl a3_15 a3_16 H locs ls hP hD hS (lv_sub hl [1, 0] rfl))
    · intro hq a3_15 a3_16 H locs ls hP hD hS hl
      subst hq
      refine (hWW _ _ _ _ _).mp ?_
      replace hf := x_ip rfl (x_in (by decide) hf)
      refine lv_iload_n hx hb dX3_arrange_59 rfl (lv_at hl 1 rfl) ?_
      refine lv_aload_n hx hb dX3_arrange_60 rfl (lv_at hl 0 rfl) ?_
      refine va_get (D := (dC, dI)) (ci := 3) (v := .int v3_4) (C := RX3) (T := TX3) (N := 17) hx hb hts i_X3_arrange_X3 hown hK hP 4 rfl rfl 4 (by decide) k_1 (fun _ h9 => h9) rfl dX3_arrange_61 ?_
      refine lv_icmp_ge (tgt := 117) hx hb dX3_arrange_64 (by decide) (fun c_3 => ?_) (fun c_3 => ?_)
      · replace hf := x_ip c_3 hf
        obtain rfl := Option.some.inj hf
        dsimp only at hR
        clear hRc hRs
        subst hR
        have hP9 := hP.sub (ws' := [(o1, .inr (1, [.ref a1_0, .ref a1_1, .ref a1_2, .ref a1_3, .ref a1_4, .int v1_5])), (a1_0, .inl (cyI, n1_0, .inl g1_0)), (a1_1, .inl (cyI, n1_1, .inl g1_1)), (a1_2, .inl (cyI, n1_2, .inl g1_2)), (o3, .inr (3, [.ref o7, .ref o1, .int v3_2, .int v3_3, .int v3_4, .ref a3_5, .ref a3_6, .ref a3_7, .ref a3_8, .ref a3_9, .ref a3_10, .ref a3_11, .ref a3_12, .int v3_13, .int v3_14, .ref a3_15, .ref a3_16])), (a3_6, .inl (cyI, n3_6, .inl g3_6)), (a3_7, .inl (cyI, n3_7, .inl g3_7)), (a3_15, .inl (cyI, n3_15, .inl g3_15)), (a3_16, .inl (cyI, n3_16, .inl g3_16))]) [0, 1, 2, 3, 4, 5, 6, 7, 8] rfl
        have hD9 := hD.sub (ws' := [(o1, .inr (1, [.ref a1_0, .ref a1_1, .ref a1_2, .ref a1_3, .ref a1_4, .int v1_5])), (a1_0, .inl (cyI, n1_0, .inl g1_0)), (a1_1, .inl (cyI, n1_1, .inl g1_1)), (a1_2, .inl (cyI, n1_2, .inl g1_2)), (o3, .inr (3, [.ref o7, .ref o1, .int v3_2, .int v3_3, .int v3_4, .ref a3_5, .ref a3_6, .ref a3_7, .ref a3_8, .ref a3_9, .ref a3_10, .ref a3_11, .ref a3_12, .int v3_13, .int v3_14, .ref a3_15, .ref a3_16])), (a3_6, .inl (cyI, n3_6, .inl g3_6)), (a3_7, .inl (cyI, n3_7, .inl g3_7)), (a3_15, .inl (cyI, n3_15, .inl g3_15)), (a3_16, .inl (cyI, n3_16, .inl g3_16))]) [0, 1, 2, 3, 4, 5, 6, 7, 8] (by decide) rfl
        refine W.widen (k := 0 + zc) (n := 0 + zs) (by omega) (by omega) ?_
        exact W.vret hx hb hr (fun t ht hW => ⟨⟨(), rfl, trivial, a3_15, a3_16, by rw [ht]; exact hP9, va_K.moved hW.alike hK, hD9⟩, hS.F ht⟩) hS.2.2 dX3_arrange_117
      · replace hf := x_in c_3 hf
        refine lv_iconst (v := 0) hx hb dX3_arrange_67 (by decide) ?_
        refine lv_istore_n (lv' := [(2, .int 0), (0, .ref o3), (1, .int l1)]) hx hb dX3_arrange_68 rfl hl (by decide) rfl (fun ls hl => ?_)
        exact (hWW _ _ _ _ _).mpr ((ih (2, l1, 0, g3_15, n3_15, g3_16, n3_16) _ hf zc zs (hR.trans (by first | rfl | simp only [Nat.add_assoc, Nat.add_comm, Nat.add_left_comm, Nat.add_zero, Nat.zero_add])) _ _ _ _ _ _ _ rfl).2.2 rfl a3_15 a3_16 H locs ls hP hD hS (lv_sub hl [1, 2, 0] rfl))
    · intro hq a3_15 a3_16 H locs ls hP hD hS hl
      subst hq
      refine (hWW _ _ _ _ _).mp ?_
      replace hf := x_ip rfl (x_in (by decide) (x_in (by decide) hf))
      refine lv_iload_n hx hb dX3_arrange_69 rfl (lv_at hl 2 rfl) ?_
      refine lv_aload_n hx hb dX3_arrange_70 rfl (lv_at hl 0 rfl) ?_
      refine va_get (D := (dC, dI)) (ci := 3) (v := .int v3_4) (C := RX3) (T := TX3) (N := 17) hx hb hts i_X3_arrange_X3 hown hK hP 4 rfl rfl 4 (by decide) k_1 (fun _ h9 => h9) rfl dX3_arrange_71 ?_
      refine lv_icmp_ge (tgt := 92) hx hb dX3_arrange_74 (by decide) (fun c_4 => ?_) (fun c_4 => ?_)
      · replace hf := x_ip c_4 hf
        refine lv_aload_n hx hb dX3_arrange_92 rfl (lv_at hl 0 rfl) ?_
        refine va_get (D := (dC, dI)) (ci := 3) (v := .ref a3_16) (C := RX3) (T := TX3) (N := 17) hx hb hts i_X3_arrange_X3 hown hK hP 4 rfl rfl 16 (by decide) k_3 (fun _ h9 => h9) rfl dX3_arrange_93 ?_
        refine lv_astore_n (lv' := [(2, .ref a3_16), (0, .ref o3), (1, .int l1)]) hx hb dX3_arrange_96 rfl hl (by decide) rfl (fun ls hl => ?_)
        refine lv_aload_n hx hb dX3_arrange_97 rfl (lv_at hl 1 rfl) ?_
        refine lv_aload_n hx hb dX3_arrange_98 rfl (lv_at hl 1 rfl) ?_
        refine va_get (D := (dC, dI)) (ci := 3) (v := .ref a3_15) (C := RX3) (T := TX3) (N := 17) hx hb hts i_X3_arrange_X3 hown hK hP 4 rfl rfl 15 (by decide) k_2 (fun _ h9 => h9) rfl dX3_arrange_99 ?_
        refine va_put (D := (dC, dI)) (ci := 3) (v := .ref a3_15) (ty := .array .int) (C := RX3) (T := TX3) (N := 17) hx hb hts i_X3_arrange_X3 tyX3 tyX3_ok nmX3 hown hK hP hD hS 4 rfl rfl 16 (by decide) k_3 (fun _ h9 => h9) rfl (by decide +kernel) rfl rfl (Nat.le_of_ble_eq_true rfl) dX3_arrange_102 (fun H locs hP hD hS => ?_)
        have hP : va_P (dC, dI) vwCl [(o1, .inr (1, [.ref a1_0, .ref a1_1, .ref a1_2, .ref a1_3, .ref a1_4, .int v1_5])), (a1_0, .inl (cyI, n1_0, .inl g1_0)), (a1_1, .inl (cyI, n1_1, .inl g1_1)), (a1_2, .inl (cyI, n1_2, .inl g1_2)), (o3, .inr (3, [.ref o7, .ref o1, .int v3_2, .int v3_3, .int v3_4, .ref a3_5, .ref a3_6, .ref a3_7, .ref a3_8, .ref a3_9, .ref a3_10, .ref a3_11, .ref a3_12, .int v3_13, .int v3_14, .ref a3_15, .ref a3_15])), (a3_6, .inl (cyI, n3_6, .inl g3_6)), (a3_7, .inl (cyI, n3_7, .inl g3_7)), (a3_15, .inl (cyI, n3_15, .inl g3_15)), (a3_16, .inl (cyI, n3_16, .inl g3_16))] H := hP
        have hD : va_D A [(o1, .inr (1, [.ref a1_0, .ref a1_1, .ref a1_2, .ref a1_3, .ref a1_4, .int v1_5])), (a1_0, .inl (cyI, n1_0, .inl g1_0)), (a1_1, .inl (cyI, n1_1, .inl g1_1)), (a1_2, .inl (cyI, n1_2, .inl g1_2)), (o3, .inr (3, [.ref o7, .ref o1, .int v3_2, .int v3_3, .int v3_4, .ref a3_5, .ref a3_6, .ref a3_7, .ref a3_8, .ref a3_9, .ref a3_10, .ref a3_11, .ref a3_12, .int v3_13, .int v3_14, .ref a3_15, .ref a3_15])), (a3_6, .inl (cyI, n3_6, .inl g3_6)), (a3_7, .inl (cyI, n3_7, .inl g3_7)), (a3_15, .inl (cyI, n3_15, .inl g3_15)), (a3_16, .inl (cyI, n3_16, .inl g3_16))] := hD
        refine lv_aload_n hx hb dX3_arrange_105 rfl (lv_at hl 1 rfl) ?_
        refine lv_aload_n hx hb dX3_arrange_106 rfl (lv_at hl 0 rfl) ?_
        refine va_put (D := (dC, dI)) (ci := 3) (v := .ref a3_16) (ty := .array .int) (C := RX3) (T := TX3) (N := 17) hx hb hts i_X3_arrange_X3 tyX3 tyX3_ok nmX3 hown hK hP hD hS 4 rfl rfl 15 (by decide) k_2 (fun _ h9 => h9) rfl (by decide +kernel) rfl rfl (Nat.le_of_ble_eq_true rfl) dX3_arrange_107 (fun H locs hP hD hS => ?_)
        have hP : va_P (dC, dI) vwCl [(o1, .inr (1, [.ref a1_0, .ref a1_1, .ref a1_2, .ref a1_3, .ref a1_4, .int v1_5])), (a1_0, .inl (cyI, n1_0, .inl g1_0)), (a1_1, .inl (cyI, n1_1, .inl g1_1)), (a1_2, .inl (cyI, n1_2, .inl g1_2)), (o3, .inr (3, [.ref o7, .ref o1, .int v3_2, .int v3_3, .int v3_4, .ref a3_5, .ref a3_6, .ref a3_7, .ref a3_8, .ref a3_9, .ref a3_10, .ref a3_11, .ref a3_12, .int v3_13, .int v3_14, .ref a3_16, .ref a3_15])), (a3_6, .inl (cyI, n3_6, .inl g3_6)), (a3_7, .inl (cyI, n3_7, .inl g3_7)), (a3_15, .inl (cyI, n3_15, .inl g3_15)), (a3_16, .inl (cyI, n3_16, .inl g3_16))] H := hP
        have hD : va_D A [(o1, .inr (1, [.ref a1_0, .ref a1_1, .ref a1_2, .ref a1_3, .ref a1_4, .int v1_5])), (a1_0, .inl (cyI, n1_0, .inl g1_0)), (a1_1, .inl (cyI, n1_1, .inl g1_1)), (a1_2, .inl (cyI, n1_2, .inl g1_2)), (o3, .inr (3, [.ref o7, .ref o1, .int v3_2, .int v3_3, .int v3_4, .ref a3_5, .ref a3_6, .ref a3_7, .ref a3_8, .ref a3_9, .ref a3_10, .ref a3_11, .ref a3_12, .int v3_13, .int v3_14, .ref a3_16, .ref a3_15])), (a3_6, .inl (cyI, n3_6, .inl g3_6)), (a3_7, .inl (cyI, n3_7, .inl g3_7)), (a3_15, .inl (cyI, n3_15, .inl g3_15)), (a3_16, .inl (cyI, n3_16, .inl g3_16))] := hD
        refine lv_iload_n hx hb dX3_arrange_110 rfl (lv_at hl 2 rfl) ?_
        refine lv_iconst (v := 2) hx hb dX3_arrange_111 (by decide) ?_
        refine lv_imul hx hb dX3_arrange_112 ?_
        refine lv_istore_n (lv' := [(1, .int (l1 * (2 : Int32))), (2, .ref a3_16), (0, .ref o3)]) hx hb dX3_arrange_113 rfl hl (by decide) rfl (fun ls hl => ?_)
        refine lv_goto (tgt := 59) hx hb dX3_arrange_114 (by decide) ?_
        exact (hWW _ _ _ _ _).mpr ((ih (1, l1 * (2 : Int32), 0, g3_16, n3_16, g3_15, n3_15) _ hf zc zs (hR.trans (by first | rfl | simp only [Nat.add_assoc, Nat.add_comm, Nat.add_left_comm, Nat.add_zero, Nat.zero_add])) _ _ _ _ _ _ _ rfl).2.1 rfl a3_16 a3_15 H locs ls (hP.sub (ws' := [(o1, .inr (1, [.ref a1_0, .ref a1_1, .ref a1_2, .ref a1_3, .ref a1_4, .int v1_5])), (a1_0, .inl (cyI, n1_0, .inl g1_0)), (a1_1, .inl (cyI, n1_1, .inl g1_1)), (a1_2, .inl (cyI, n1_2, .inl g1_2)), (o3, .inr (3, [.ref o7, .ref o1, .int v3_2, .int v3_3, .int v3_4, .ref a3_5, .ref a3_6, .ref a3_7, .ref a3_8, .ref a3_9, .ref a3_10, .ref a3_11, .ref a3_12, .int v3_13, .int v3_14, .ref a3_16, .ref a3_15])), (a3_6, .inl (cyI, n3_6, .inl g3_6)), (a3_7, .inl (cyI, n3_7, .inl g3_7)), (a3_16, .inl (cyI, n3_16, .inl g3_16)), (a3_15, .inl (cyI, n3_15, .inl g3_15))]) [0, 1, 2, 3, 4, 5, 6, 8, 7] rfl) (hD.sub (ws' := [(o1, .inr (1, [.ref a1_0, .ref a1_1, .ref a1_2, .ref a1_3, .ref a1_4, .int v1_5])), (a1_0, .inl (cyI, n1_0, .inl g1_0)), (a1_1, .inl (cyI, n1_1, .inl g1_1)), (a1_2, .inl (cyI, n1_2, .inl g1_2)), (o3, .inr (3, [.ref o7, .ref o1, .int v3_2, .int v3_3, .int v3_4, .ref a3_5, .ref a3_6, .ref a3_7, .ref a3_8, .ref a3_9, .ref a3_10, .ref a3_11, .ref a3_12, .int v3_13, .int v3_14, .ref a3_16, .ref a3_15])), (a3_6, .inl (cyI, n3_6, .inl g3_6)), (a3_7, .inl (cyI, n3_7, .inl g3_7)), (a3_16, .inl (cyI, n3_16, .inl g3_16)), (a3_15, .inl (cyI, n3_15, .inl g3_15))]) [0, 1, 2, 3, 4, 5, 6, 8, 7] (by decide) rfl) hS (lv_sub hl [2, 0] rfl))
      · replace hf := x_in c_4 hf
        refine lv_aload_n hx hb dX3_arrange_77 rfl (lv_at hl 0 rfl) ?_
        refine lv_iload_n hx hb dX3_arrange_78 rfl (lv_at hl 2 rfl) ?_
        refine lv_iload_n hx hb dX3_arrange_79 rfl (lv_at hl 1 rfl) ?_
        replace hf := x_bi hf
        obtain ⟨r_5, h_5, hf⟩ := hf
        have hPc := hP.sub (ws' := [(o1, .inr (1, [.ref a1_0, .ref a1_1, .ref a1_2, .ref a1_3, .ref a1_4, .int v1_5])), (a1_0, .inl (cyI, n1_0, .inl g1_0)), (a1_1, .inl (cyI, n1_1, .inl g1_1)), (a1_2, .inl (cyI, n1_2, .inl g1_2)), (o3, .inr (3, [.ref o7, .ref o1, .int v3_2, .int v3_3, .int v3_4, .ref a3_5, .ref a3_6, .ref a3_7, .ref a3_8, .ref a3_9, .ref a3_10, .ref a3_11, .ref a3_12, .int v3_13, .int v3_14, .ref a3_15, .ref a3_16])), (a3_6, .inl (cyI, n3_6, .inl g3_6)), (a3_7, .inl (cyI, n3_7, .inl g3_7)), (a3_15, .inl (cyI, n3_15, .inl g3_15)), (a3_16, .inl (cyI, n3_16, .inl g3_16))]) [0, 1, 2, 3, 4, 5, 6, 7, 8] rfl
        have hDc := hD.sub (ws' := [(o1, .inr (1, [.ref a1_0, .ref a1_1, .ref a1_2, .ref a1_3, .ref a1_4, .int v1_5])), (a1_0, .inl (cyI, n1_0, .inl g1_0)), (a1_1, .inl (cyI, n1_1, .inl g1_1)), (a1_2, .inl (cyI, n1_2, .inl g1_2)), (o3, .inr (3, [.ref o7, .ref o1, .int v3_2, .int v3_3, .int v3_4, .ref a3_5, .ref a3_6, .ref a3_7, .ref a3_8, .ref a3_9, .ref a3_10, .ref a3_11, .ref a3_12, .int v3_13, .int v3_14, .ref a3_15, .ref a3_16])), (a3_6, .inl (cyI, n3_6, .inl g3_6)), (a3_7, .inl (cyI, n3_7, .inl g3_7)), (a3_15, .inl (cyI, n3_15, .inl g3_15)), (a3_16, .inl (cyI, n3_16, .inl g3_16))]) [0, 1, 2, 3, 4, 5, 6, 7, 8] (by decide) rfl
        have hFc := va_free (wc := [(o1, .inr (1, [.ref a1_0, .ref a1_1, .ref a1_2, .ref a1_3, .ref a1_4, .int v1_5])), (a1_0, .inl (cyI, n1_0, .inl g1_0)), (a1_1, .inl (cyI, n1_1, .inl g1_1)), (a1_2, .inl (cyI, n1_2, .inl g1_2)), (o3, .inr (3, [.ref o7, .ref o1, .int v3_2, .int v3_3, .int v3_4, .ref a3_5, .ref a3_6, .ref a3_7, .ref a3_8, .ref a3_9, .ref a3_10, .ref a3_11, .ref a3_12, .int v3_13, .int v3_14, .ref a3_15, .ref a3_16])), (a3_6, .inl (cyI, n3_6, .inl g3_6)), (a3_7, .inl (cyI, n3_7, .inl g3_7)), (a3_15, .inl (cyI, n3_15, .inl g3_15)), (a3_16, .inl (cyI, n3_16, .inl g3_16))]) hD hS hA [0, 1, 2, 3, 4, 5, 6, 7, 8] rfl
        refine va_callv (va_runV (As := [.int l2, .int l1]) (rest := []) ⟨hx, hb, hml, hown, hts⟩ (c_X3_mergeRuns l dC dI cyI cyZ cyJ H.size o1 a1_0 a1_1 a1_2 a1_3 a1_4 v1_5 g1_0 n1_0 g1_1 n1_1 g1_2 n1_2 o3 o7 v3_2 v3_3 v3_4 a3_5 a3_6 a3_7 a3_8 a3_9 a3_10 a3_11 a3_12 v3_13 v3_14 a3_15 a3_16 g3_6 n3_6 g3_7 n3_7 g3_15 n3_15 g3_16 n3_16 l2 l1 r_5 h_5) (cwV 2 hts gX3_arrange_X3_mergeRuns rfl rfl rfl (by decide +kernel) ⟨Nat.le_of_ble_eq_true rfl, Nat.le_of_ble_eq_true rfl⟩) (x_pVD hN hK hPc hDc (ci := 3) (q0 := 4) rfl rfl) rfl rfl hl.1 rfl (lv_room (Nat.le_of_ble_eq_true rfl)) dX3_arrange_80 ⟨by dsimp only [headSpec]; omega, by dsimp only [headSpec]; omega⟩) hS (fun q _ h => hFc q h) hFc (fun u t H1 locs ht hvm hw hB hz1 hk1 hS => ?_)
        obtain ⟨hP1, hK1, hD1⟩ := hB
        rw [ht] at hP1
        obtain ⟨hP, hD⟩ := va_join (wr := []) (w1 := [(o1, .inr (1, [.ref a1_0, .ref a1_1, .ref a1_2, .ref a1_3, .ref a1_4, .int v1_5])), (a1_0, .inl (cyI, n1_0, .inl g1_0)), (a1_1, .inl (cyI, n1_1, .inl g1_1)), (a1_2, .inl (cyI, n1_2, .inl g1_2)), (o3, .inr (3, [.ref o7, .ref o1, .int v3_2, .int v3_3, .int v3_4, .ref a3_5, .ref a3_6, .ref a3_7, .ref a3_8, .ref a3_9, .ref a3_10, .ref a3_11, .ref a3_12, .int v3_13, .int v3_14, .ref a3_15, .ref a3_16])), (a3_6, .inl (cyI, n3_6, .inl g3_6)), (a3_7, .inl (cyI, n3_7, .inl g3_7)), (a3_15, .inl (cyI, n3_15, .inl g3_15)), (a3_16, .inl (cyI, n3_16, .inl r_5))]) hP hD [0, 1, 2, 3, 4, 5, 6, 7, 8] [] rfl rfl (by decide) (by decide) hk1 hFc hP1 hD1
        clear hz1 hk1 hPc hDc hFc hP1 hK1 hD1 ht hvm t u
        generalize H1 = H at hP hS ⊢
        have hP : va_P (dC, dI) vwCl [(o1, .inr (1, [.ref a1_0, .ref a1_1, .ref a1_2, .ref a1_3, .ref a1_4, .int v1_5])), (a1_0, .inl (cyI, n1_0, .inl g1_0)), (a1_1, .inl (cyI, n1_1, .inl g1_1)), (a1_2, .inl (cyI, n1_2, .inl g1_2)), (o3, .inr (3, [.ref o7, .ref o1, .int v3_2, .int v3_3, .int v3_4, .ref a3_5, .ref a3_6, .ref a3_7, .ref a3_8, .ref a3_9, .ref a3_10, .ref a3_11, .ref a3_12, .int v3_13, .int v3_14, .ref a3_15, .ref a3_16])), (a3_6, .inl (cyI, n3_6, .inl g3_6)), (a3_7, .inl (cyI, n3_7, .inl g3_7)), (a3_15, .inl (cyI, n3_15, .inl g3_15)), (a3_16, .inl (cyI, n3_16, .inl r_5))] H := hP
        have hD : va_D A [(o1, .inr (1, [.ref a1_0, .ref a1_1, .ref a1_2, .ref a1_3, .ref a1_4, .int v1_5])), (a1_0, .inl (cyI, n1_0, .inl g1_0)), (a1_1, .inl (cyI, n1_1, .inl g1_1)), (a1_2, .inl (cyI, n1_2, .inl g1_2)), (o3, .inr (3, [.ref o7, .ref o1, .int v3_2, .int v3_3, .int v3_4, .ref a3_5, .ref a3_6, .ref a3_7, .ref a3_8, .ref a3_9, .ref a3_10, .ref a3_11, .ref a3_12, .int v3_13, .int v3_14, .ref a3_15, .ref a3_16])), (a3_6, .inl (cyI, n3_6, .inl g3_6)), (a3_7, .inl (cyI, n3_7, .inl g3_7)), (a3_15, .inl (cyI, n3_15, .inl g3_15)), (a3_16, .inl (cyI, n3_16, .inl r_5))] := hD
        refine lv_iload_n hx hb dX3_arrange_83 rfl (lv_at hl 2 rfl) ?_
        refine lv_iconst (v := 2) hx hb dX3_arrange_84 (by decide) ?_
        refine lv_iload_n hx hb dX3_arrange_85 rfl (lv_at hl 1 rfl) ?_
        refine lv_imul hx hb dX3_arrange_86 ?_
        refine lv_iadd hx hb dX3_arrange_87 ?_
        refine lv_istore_n (lv' := [(2, .int (l2 + ((2 : Int32) * l1))), (0, .ref o3), (1, .int l1)]) hx hb dX3_arrange_88 rfl hl (by decide) rfl (fun ls hl => ?_)
        refine lv_goto (tgt := 69) hx hb dX3_arrange_89 (by decide) ?_
        exact (hWW _ _ _ _ _).mpr ((ih (2, l1, l2 + ((2 : Int32) * l1), g3_15, n3_15, r_5, n3_16) _ hf zc zs (hR.trans (by first | rfl | simp only [Nat.add_assoc, Nat.add_comm, Nat.add_left_comm, Nat.add_zero, Nat.zero_add])) _ _ _ _ _ _ _ rfl).2.2 rfl a3_15 a3_16 H locs ls hP hD hS (lv_sub hl [1, 2, 0] rfl)))
  obtain ⟨Z_0, hZ0⟩ : ∃ z, z = R := ⟨_, rfl⟩
  rw [← hZ0] at hf
  have hR : R = (Z_0.1, Z_0.2.1, Z_0.2.2.1, Z_0.2.2.2.1, Z_0.2.2.2.2.1 + 0, Z_0.2.2.2.2.2 + 0) := by subst hZ0; rfl
  clear hZ0
  have hRc := congrArg (fun z => z.2.2.2.2.1) hR
  have hRs := congrArg (fun z => z.2.2.2.2.2) hR
  dsimp only at hRc hRs
  refine lv_aload_n hx hb dX3_arrange_0 rfl (lv_at hl 0 rfl) ?_
  refine va_get (D := (dC, dI)) (ci := 3) (v := .ref a3_15) (C := RX3) (T := TX3) (N := 17) hx hb hts i_X3_arrange_X3 hown hK hP 4 rfl rfl 15 (by decide) k_2 (fun _ h9 => h9) rfl dX3_arrange_1 ?_
  refine va_alen (v := (Int32.ofNat n3_15)) hx hb hK hP 7 0 rfl rfl rfl dX3_arrange_4 ?_
  refine lv_aload_n hx hb dX3_arrange_5 rfl (lv_at hl 0 rfl) ?_
  refine va_get (D := (dC, dI)) (ci := 3) (v := .int v3_4) (C := RX3) (T := TX3) (N := 17) hx hb hts i_X3_arrange_X3 hown hK hP 4 rfl rfl 4 (by decide) k_1 (fun _ h9 => h9) rfl dX3_arrange_6 ?_
  refine lv_icmp_ge (tgt := 34) hx hb dX3_arrange_9 (by decide) (fun c_6 => ?_) (fun c_6 => ?_)
  · replace hf := x_ip c_6 hf
    refine lv_iconst (v := 0) hx hb dX3_arrange_34 (by decide) ?_
    refine lv_istore_n (lv' := [(1, .int 0), (0, .ref o3)]) hx hb dX3_arrange_35 rfl hl (by decide) rfl (fun ls hl => ?_)
    exact (hWW _ _ _ _ _).mpr ((J (0, 0, 0, g3_15, n3_15, g3_16, n3_16) _ hf 0 0 (hR.trans (by first | rfl | simp only [Nat.add_assoc, Nat.add_comm, Nat.add_left_comm, Nat.add_zero, Nat.zero_add])) _ _ _ _ _ _ _ rfl).1 rfl a3_15 a3_16 H locs ls hP hD hS (lv_sub hl [1, 0] rfl))
  · replace hf := x_in c_6 hf
    refine lv_aload_n hx hb dX3_arrange_12 rfl (lv_at hl 0 rfl) ?_
    refine lv_aload_n hx hb dX3_arrange_13 rfl (lv_at hl 0 rfl) ?_
    refine va_get (D := (dC, dI)) (ci := 3) (v := .ref a3_6) (C := RX3) (T := TX3) (N := 17) hx hb hts i_X3_arrange_X3 hown hK hP 4 rfl rfl 6 (by decide) k_4 (fun _ h9 => h9) rfl dX3_arrange_14 ?_
    refine va_alen (v := (Int32.ofNat n3_6)) hx hb hK hP 5 0 rfl rfl rfl dX3_arrange_17 ?_
    replace hf := x_gu hf
    obtain ⟨g_7, hf⟩ := hf
    replace hf := x_bi hf
    obtain ⟨Z_8, hf, he⟩ := hf
    obtain rfl := Option.some.inj he
    dsimp only at hR
    clear hRc hRs
    have hRc := congrArg (fun z => z.2.2.2.2.1) hR
    have hRs := congrArg (fun z => z.2.2.2.2.2) hR
    dsimp only at hRc hRs
    refine va_newa (atype := .int) (ty := .int) (n := (Int32.ofNat n3_6)) (N' := (Int32.toNatClampNeg (Int32.ofNat n3_6))) (a0 := ((Int32.toNatClampNeg (Int32.ofNat n3_6)), .inl x_z0)) hx hb k_5 rfl hK hP hD hS hA (fun _ => x_zcI _ _) (x_ng1 g_7) rfl (x_ng2 g_7) (by dsimp only [headSpec]; omega) (by dsimp only [headSpec]; omega) dX3_arrange_18 (fun q18_9 cN H hKn hP hD hS => ?_)
    obtain rfl : cyI = cN := x_one (i := 0) (j := 3) hKn rfl rfl (fun _ h => by cases h)
    clear hKn
    have hP : va_P (dC, dI) vwCl [(o1, .inr (1, [.ref a1_0, .ref a1_1, .ref a1_2, .ref a1_3, .ref a1_4, .int v1_5])), (a1_0, .inl (cyI, n1_0, .inl g1_0)), (a1_1, .inl (cyI, n1_1, .inl g1_1)), (a1_2, .inl (cyI, n1_2, .inl g1_2)), (o3, .inr (3, [.ref o7, .ref o1, .int v3_2, .int v3_3, .int v3_4, .ref a3_5, .ref a3_6, .ref a3_7, .ref a3_8, .ref a3_9, .ref a3_10, .ref a3_11, .ref a3_12, .int v3_13, .int v3_14, .ref a3_15, .ref a3_16])), (a3_6, .inl (cyI, n3_6, .inl g3_6)), (a3_7, .inl (cyI, n3_7, .inl g3_7)), (a3_15, .inl (cyI, n3_15, .inl g3_15)), (a3_16, .inl (cyI, n3_16, .inl g3_16)), (q18_9, .inl (cyI, (Int32.toNatClampNeg (Int32.ofNat n3_6)), .inl x_z0))] H := hP
    have hD : va_D A [(o1, .inr (1, [.ref a1_0, .ref a1_1, .ref a1_2, .ref a1_3, .ref a1_4, .int v1_5])), (a1_0, .inl (cyI, n1_0, .inl g1_0)), (a1_1, .inl (cyI, n1_1, .inl g1_1)), (a1_2, .inl (cyI, n1_2, .inl g1_2)), (o3, .inr (3, [.ref o7, .ref o1, .int v3_2, .int v3_3, .int v3_4, .ref a3_5, .ref a3_6, .ref a3_7, .ref a3_8, .ref a3_9, .ref a3_10, .ref a3_11, .ref a3_12, .int v3_13, .int v3_14, .ref a3_15, .ref a3_16])), (a3_6, .inl (cyI, n3_6, .inl g3_6)), (a3_7, .inl (cyI, n3_7, .inl g3_7)), (a3_15, .inl (cyI, n3_15, .inl g3_15)), (a3_16, .inl (cyI, n3_16, .inl g3_16)), (q18_9, .inl (cyI, (Int32.toNatClampNeg (Int32.ofNat n3_6)), .inl x_z0))] := hD
    refine va_put (D := (dC, dI)) (ci := 3) (v := .ref q18_9) (ty := .array .int) (C := RX3) (T := TX3) (N := 17) hx hb hts i_X3_arrange_X3 tyX3 tyX3_ok nmX3 hown hK hP hD hS 4 rfl rfl 15 (by decide) k_2 (fun _ h9 => h9) rfl (by decide +kernel) rfl rfl (Nat.le_of_ble_eq_true rfl) dX3_arrange_20 (fun H locs hP hD hS => ?_)
    have hP : va_P (dC, dI) vwCl [(o1, .inr (1, [.ref a1_0, .ref a1_1, .ref a1_2, .ref a1_3, .ref a1_4, .int v1_5])), (a1_0, .inl (cyI, n1_0, .inl g1_0)), (a1_1, .inl (cyI, n1_1, .inl g1_1)), (a1_2, .inl (cyI, n1_2, .inl g1_2)), (o3, .inr (3, [.ref o7, .ref o1, .int v3_2, .int v3_3, .int v3_4, .ref a3_5, .ref a3_6, .ref a3_7, .ref a3_8, .ref a3_9, .ref a3_10, .ref a3_11, .ref a3_12, .int v3_13, .int v3_14, .ref q18_9, .ref a3_16])), (a3_6, .inl (cyI, n3_6, .inl g3_6)), (a3_7, .inl (cyI, n3_7, .inl g3_7)), (a3_15, .inl (cyI, n3_15, .inl g3_15)), (a3_16, .inl (cyI, n3_16, .inl g3_16)), (q18_9, .inl (cyI, (Int32.toNatClampNeg (Int32.ofNat n3_6)), .inl x_z0))] H := hP
    have hD : va_D A [(o1, .inr (1, [.ref a1_0, .ref a1_1, .ref a1_2, .ref a1_3, .ref a1_4, .int v1_5])), (a1_0, .inl (cyI, n1_0, .inl g1_0)), (a1_1, .inl (cyI, n1_1, .inl g1_1)), (a1_2, .inl (cyI, n1_2, .inl g1_2)), (o3, .inr (3, [.ref o7, .ref o1, .int v3_2, .int v3_3, .int v3_4, .ref a3_5, .ref a3_6, .ref a3_7, .ref a3_8, .ref a3_9, .ref a3_10, .ref a3_11, .ref a3_12, .int v3_13, .int v3_14, .ref q18_9, .ref a3_16])), (a3_6, .inl (cyI, n3_6, .inl g3_6)), (a3_7, .inl (cyI, n3_7, .inl g3_7)), (a3_15, .inl (cyI, n3_15, .inl g3_15)), (a3_16, .inl (cyI, n3_16, .inl g3_16)), (q18_9, .inl (cyI, (Int32.toNatClampNeg (Int32.ofNat n3_6)), .inl x_z0))] := hD
    refine lv_aload_n hx hb dX3_arrange_23 rfl (lv_at hl 0 rfl) ?_
    refine lv_aload_n hx hb dX3_arrange_24 rfl (lv_at hl 0 rfl) ?_
    refine va_get (D := (dC, dI)) (ci := 3) (v := .ref a3_6) (C := RX3) (T := TX3) (N := 17) hx hb hts i_X3_arrange_X3 hown hK hP 4 rfl rfl 6 (by decide) k_4 (fun _ h9 => h9) rfl dX3_arrange_25 ?_
    refine va_alen (v := (Int32.ofNat n3_6)) hx hb hK hP 5 0 rfl rfl rfl dX3_arrange_28 ?_
    replace hf := x_gu hf
    obtain ⟨g_10, hf⟩ := hf
    replace hf := x_bi hf
    obtain ⟨Z_11, hf, he⟩ := hf
    obtain rfl := Option.some.inj he
    dsimp only at hR
    clear hRc hRs
    have hRc := congrArg (fun z => z.2.2.2.2.1) hR
    have hRs := congrArg (fun z => z.2.2.2.2.2) hR
    dsimp only at hRc hRs
    refine va_newa (atype := .int) (ty := .int) (n := (Int32.ofNat n3_6)) (N' := (Int32.toNatClampNeg (Int32.ofNat n3_6))) (a0 := ((Int32.toNatClampNeg (Int32.ofNat n3_6)), .inl x_z0)) hx hb k_5 rfl hK hP hD hS hA (fun _ => x_zcI _ _) (x_ng1 g_10) rfl (x_ng2 g_10) (by dsimp only [headSpec]; omega) (by dsimp only [headSpec]; omega) dX3_arrange_29 (fun q29_12 cN H hKn hP hD hS => ?_)
    obtain rfl : cyI = cN := x_one (i := 0) (j := 3) hKn rfl rfl (fun _ h => by cases h)
    clear hKn
    have hP : va_P (dC, dI) vwCl [(o1, .inr (1, [.ref a1_0, .ref a1_1, .ref a1_2, .ref a1_3, .ref a1_4, .int v1_5])), (a1_0, .inl (cyI, n1_0, .inl g1_0)), (a1_1, .inl (cyI, n1_1, .inl g1_1)), (a1_2, .inl (cyI, n1_2, .inl g1_2)), (o3, .inr (3, [.ref o7, .ref o1, .int v3_2, .int v3_3, .int v3_4, .ref a3_5, .ref a3_6, .ref a3_7, .ref a3_8, .ref a3_9, .ref a3_10, .ref a3_11, .ref a3_12, .int v3_13, .int v3_14, .ref q18_9, .ref a3_16])), (a3_6, .inl (cyI, n3_6, .inl g3_6)), (a3_7, .inl (cyI, n3_7, .inl g3_7)), (a3_15, .inl (cyI, n3_15, .inl g3_15)), (a3_16, .inl (cyI, n3_16, .inl g3_16)), (q18_9, .inl (cyI, (Int32.toNatClampNeg (Int32.ofNat n3_6)), .inl x_z0)), (q29_12, .inl (cyI, (Int32.toNatClampNeg (Int32.ofNat n3_6)), .inl x_z0))] H := hP
    have hD : va_D A [(o1, .inr (1, [.ref a1_0, .ref a1_1, .ref a1_2, .ref a1_3, .ref a1_4, .int v1_5])), (a1_0, .inl (cyI, n1_0, .inl g1_0)), (a1_1, .inl (cyI, n1_1, .inl g1_1)), (a1_2, .inl (cyI, n1_2, .inl g1_2)), (o3, .inr (3, [.ref o7, .ref o1, .int v3_2, .int v3_3, .int v3_4, .ref a3_5, .ref a3_6, .ref a3_7, .ref a3_8, .ref a3_9, .ref a3_10, .ref a3_11, .ref a3_12, .int v3_13, .int v3_14, .ref q18_9, .ref a3_16])), (a3_6, .inl (cyI, n3_6, .inl g3_6)), (a3_7, .inl (cyI, n3_7, .inl g3_7)), (a3_15, .inl (cyI, n3_15, .inl g3_15)), (a3_16, .inl (cyI, n3_16, .inl g3_16)), (q18_9, .inl (cyI, (Int32.toNatClampNeg (Int32.ofNat n3_6)), .inl x_z0)), (q29_12, .inl (cyI, (Int32.toNatClampNeg (Int32.ofNat n3_6)), .inl x_z0))] := hD
    refine va_put (D := (dC, dI)) (ci := 3) (v := .ref q29_12) (ty := .array .int) (C := RX3) (T := TX3) (N := 17) hx hb hts i_X3_arrange_X3 tyX3 tyX3_ok nmX3 hown hK hP hD hS 4 rfl rfl 16 (by decide) k_3 (fun _ h9 => h9) rfl (by decide +kernel) rfl rfl (Nat.le_of_ble_eq_true rfl) dX3_arrange_31 (fun H locs hP hD hS => ?_)
    have hP : va_P (dC, dI) vwCl [(o1, .inr (1, [.ref a1_0, .ref a1_1, .ref a1_2, .ref a1_3, .ref a1_4, .int v1_5])), (a1_0, .inl (cyI, n1_0, .inl g1_0)), (a1_1, .inl (cyI, n1_1, .inl g1_1)), (a1_2, .inl (cyI, n1_2, .inl g1_2)), (o3, .inr (3, [.ref o7, .ref o1, .int v3_2, .int v3_3, .int v3_4, .ref a3_5, .ref a3_6, .ref a3_7, .ref a3_8, .ref a3_9, .ref a3_10, .ref a3_11, .ref a3_12, .int v3_13, .int v3_14, .ref q18_9, .ref q29_12])), (a3_6, .inl (cyI, n3_6, .inl g3_6)), (a3_7, .inl (cyI, n3_7, .inl g3_7)), (a3_15, .inl (cyI, n3_15, .inl g3_15)), (a3_16, .inl (cyI, n3_16, .inl g3_16)), (q18_9, .inl (cyI, (Int32.toNatClampNeg (Int32.ofNat n3_6)), .inl x_z0)), (q29_12, .inl (cyI, (Int32.toNatClampNeg (Int32.ofNat n3_6)), .inl x_z0))] H := hP
    have hD : va_D A [(o1, .inr (1, [.ref a1_0, .ref a1_1, .ref a1_2, .ref a1_3, .ref a1_4, .int v1_5])), (a1_0, .inl (cyI, n1_0, .inl g1_0)), (a1_1, .inl (cyI, n1_1, .inl g1_1)), (a1_2, .inl (cyI, n1_2, .inl g1_2)), (o3, .inr (3, [.ref o7, .ref o1, .int v3_2, .int v3_3, .int v3_4, .ref a3_5, .ref a3_6, .ref a3_7, .ref a3_8, .ref a3_9, .ref a3_10, .ref a3_11, .ref a3_12, .int v3_13, .int v3_14, .ref q18_9, .ref q29_12])), (a3_6, .inl (cyI, n3_6, .inl g3_6)), (a3_7, .inl (cyI, n3_7, .inl g3_7)), (a3_15, .inl (cyI, n3_15, .inl g3_15)), (a3_16, .inl (cyI, n3_16, .inl g3_16)), (q18_9, .inl (cyI, (Int32.toNatClampNeg (Int32.ofNat n3_6)), .inl x_z0)), (q29_12, .inl (cyI, (Int32.toNatClampNeg (Int32.ofNat n3_6)), .inl x_z0))] := hD
    refine lv_iconst (v := 0) hx hb dX3_arrange_34 (by decide) ?_
    refine lv_istore_n (lv' := [(1, .int 0), (0, .ref o3)]) hx hb dX3_arrange_35 rfl hl (by decide) rfl (fun ls hl => ?_)
    exact (hWW _ _ _ _ _).mpr ((J (0, 0, 0, x_z0, Int32.toNatClampNeg (Int32.ofNat n3_6), x_z0, Int32.toNatClampNeg (Int32.ofNat n3_6)) _ hf ((0 + 1) + 1) ((0 + (Int32.toNatClampNeg (Int32.ofNat n3_6))) + (Int32.toNatClampNeg (Int32.ofNat n3_6))) (hR.trans (by first | rfl | simp only [Nat.add_assoc, Nat.add_comm, Nat.add_left_comm, Nat.add_zero, Nat.zero_add])) _ _ _ _ _ _ _ rfl).1 rfl q18_9 q29_12 H locs ls (hP.sub (ws' := [(o1, .inr (1, [.ref a1_0, .ref a1_1, .ref a1_2, .ref a1_3, .ref a1_4, .int v1_5])), (a1_0, .inl (cyI, n1_0, .inl g1_0)), (a1_1, .inl (cyI, n1_1, .inl g1_1)), (a1_2, .inl (cyI, n1_2, .inl g1_2)), (o3, .inr (3, [.ref o7, .ref o1, .int v3_2, .int v3_3, .int v3_4, .ref a3_5, .ref a3_6, .ref a3_7, .ref a3_8, .ref a3_9, .ref a3_10, .ref a3_11, .ref a3_12, .int v3_13, .int v3_14, .ref q18_9, .ref q29_12])), (a3_6, .inl (cyI, n3_6, .inl g3_6)), (a3_7, .inl (cyI, n3_7, .inl g3_7)), (q18_9, .inl (cyI, (Int32.toNatClampNeg (Int32.ofNat n3_6)), .inl x_z0)), (q29_12, .inl (cyI, (Int32.toNatClampNeg (Int32.ofNat n3_6)), .inl x_z0))]) [0, 1, 2, 3, 4, 5, 6, 9, 10] rfl) (hD.sub (ws' := [(o1, .inr (1, [.ref a1_0, .ref a1_1, .ref a1_2, .ref a1_3, .ref a1_4, .int v1_5])), (a1_0, .inl (cyI, n1_0, .inl g1_0)), (a1_1, .inl (cyI, n1_1, .inl g1_1)), (a1_2, .inl (cyI, n1_2, .inl g1_2)), (o3, .inr (3, [.ref o7, .ref o1, .int v3_2, .int v3_3, .int v3_4, .ref a3_5, .ref a3_6, .ref a3_7, .ref a3_8, .ref a3_9, .ref a3_10, .ref a3_11, .ref a3_12, .int v3_13, .int v3_14, .ref q18_9, .ref q29_12])), (a3_6, .inl (cyI, n3_6, .inl g3_6)), (a3_7, .inl (cyI, n3_7, .inl g3_7)), (q18_9, .inl (cyI, (Int32.toNatClampNeg (Int32.ofNat n3_6)), .inl x_z0)), (q29_12, .inl (cyI, (Int32.toNatClampNeg (Int32.ofNat n3_6)), .inl x_z0))]) [0, 1, 2, 3, 4, 5, 6, 9, 10] (by decide) rfl) hS (lv_sub hl [1, 0] rfl))

def f_X3_factOf (g1_2 : Nat → Int32) (n1_2 : Nat) (v3_4 : Int32) (g3_6 : Nat → Int32) (n3_6 : Nat) (g3_7 : Nat → Int32) (n3_7 : Nat) (g3_8 : Nat → Int32) (n3_8 : Nat) (g3_9 : Nat → Int32) (n3_9 : Nat) (g3_15 : Nat → Int32) (n3_15 : Nat) (p1 : Int32) (p2 : Int32) : Option (Int32) := if p1 < (0 : Int32) then some (-1) else if p1 < v3_4 then if x_gd p1 n3_15 = true then if p2 = (0 : Int32) then if x_gd (g3_15 (Int32.toNatClampNeg p1)) n3_6 = true then some (g3_6 (Int32.toNatClampNeg (g3_15 (Int32.toNatClampNeg p1)))) else none else if p2 = (1 : Int32) then if x_gd (g3_15 (Int32.toNatClampNeg p1)) n3_7 = true then if x_gd (g3_7 (Int32.toNatClampNeg (g3_15 (Int32.toNatClampNeg p1)))) n1_2 = true then some (g1_2 (Int32.toNatClampNeg (g3_7 (Int32.toNatClampNeg (g3_15 (Int32.toNatClampNeg p1)))))) else none else none else if p2 = (2 : Int32) then if x_gd (g3_15 (Int32.toNatClampNeg p1)) n3_8 = true then some (g3_8 (Int32.toNatClampNeg (g3_15 (Int32.toNatClampNeg p1)))) else none else if x_gd (g3_15 (Int32.toNatClampNeg p1)) n3_9 = true then some (g3_9 (Int32.toNatClampNeg (g3_15 (Int32.toNatClampNeg p1)))) else none else none else some (-1)
theorem i_X3_factOf_X1 : ∀ w ∈ wsX10, w ∈ wsX3_factOf := fun _ h => List.mem_cons_of_mem _ (List.mem_append_right _ h)
theorem i_X3_factOf_X3 : ∀ w ∈ wsX30, w ∈ wsX3_factOf := fun _ h => List.mem_cons_of_mem _ (List.mem_append_left _ (List.mem_append_right _ h))
set_option maxHeartbeats 4000000 in
set_option maxRecDepth 100000 in
theorem c_X3_factOf (l : Launch) (dC : Nat → ClassId) (dI : Nat → Nat → Nat) (cyI cyZ cyJ : ClassId) (sz : Nat) (o1 : Nat) (a1_0 : Nat) (a1_1 : Nat) (a1_2 : Nat) (a1_3 : Nat) (a1_4 : Nat) (v1_5 : Int32) (g1_2 : Nat → Int32) (n1_2 : Nat) (o3 : Nat) (o7 : Nat) (v3_2 : Int32) (v3_3 : Int32) (v3_4 : Int32) (a3_5 : Nat) (a3_6 : Nat) (a3_7 : Nat) (a3_8 : Nat) (a3_9 : Nat) (a3_10 : Nat) (a3_11 : Nat) (a3_12 : Nat) (v3_13 : Int32) (v3_14 : Int32) (a3_15 : Nat) (a3_16 : Nat) (g3_6 : Nat → Int32) (n3_6 : Nat) (g3_7 : Nat → Int32) (n3_7 : Nat) (g3_8 : Nat → Int32) (n3_8 : Nat) (g3_9 : Nat → Int32) (n3_9 : Nat) (g3_15 : Nat → Int32) (n3_15 : Nat) (p1 : Int32) (p2 : Int32) (R : Int32) (hf : f_X3_factOf g1_2 n1_2 v3_4 g3_6 n3_6 g3_7 n3_7 g3_8 n3_8 g3_9 n3_9 g3_15 n3_15 p1 p2 = some R) : Met l yX3_factOf wsX3_factOf ({ frames := 0, cells := 0, slots := 0, locals := 0 }) (va_Pc [.ref o3, .int p1, .int p2] (x_Pre (dC, dI) (x_T cyI cyZ cyJ) [(o1, .inr (1, [.ref a1_0, .ref a1_1, .ref a1_2, .ref a1_3, .ref a1_4, .int v1_5])), (a1_2, .inl (cyI, n1_2, .inl g1_2)), (o3, .inr (3, [.ref o7, .ref o1, .int v3_2, .int v3_3, .int v3_4, .ref a3_5, .ref a3_6, .ref a3_7, .ref a3_8, .ref a3_9, .ref a3_10, .ref a3_11, .ref a3_12, .int v3_13, .int v3_14, .ref a3_15, .ref a3_16])), (a3_6, .inl (cyI, n3_6, .inl g3_6)), (a3_7, .inl (cyI, n3_7, .inl g3_7)), (a3_8, .inl (cyI, n3_8, .inl g3_8)), (a3_9, .inl (cyI, n3_9, .inl g3_9)), (a3_15, .inl (cyI, n3_15, .inl g3_15))] sz)) (va_Qi (fun (r : Int32) (_ : Unit) => r = R) (fun _ _ => True) (x_new sz)) 0 0 (x_new sz) := by
  refine Met.ofW (cc := cX3_factOf) (maxL := 4) (ret := (some .int)) (by decide) rfl ?_
  intro p e s m args below meth c s₁ B hml hv
  obtain ⟨rfl, hsz, hP, hK, hN⟩ := hv
  have hx := B.exec
  have hb := B.bytes
  have hr := B.returns
  have hts := atoms_spec (ws := wsX3_factOf) B.pre
  have hown : s.vm.findClass RX3 = some m.cls := findClass_of_methodNamed B.named
  have k_1 := hts (.fieldLink RX3 69 "FlowJudge$Frames" "count" "I") (by decide +kernel)
  have k_2 := hts (.fieldLink RX3 43 "FlowJudge$Frames" "order" "[I") (by decide +kernel)
  have k_3 := hts (.fieldLink RX3 15 "FlowJudge$Frames" "targets" "[I") (by decide +kernel)
  have k_4 := hts (.fieldLink RX3 53 "FlowJudge$Frames" "contexts" "LFlowJudge$Contexts;") (by decide +kernel)
  have k_5 := hts (.fieldLink RX3 18 "FlowJudge$Frames" "ways" "[I") (by decide +kernel)
  have k_6 := hts (.fieldLink RX3 21 "FlowJudge$Frames" "heights" "[I") (by decide +kernel)
  have k_7 := hts (.fieldLink RX3 24 "FlowJudge$Frames" "made" "[I") (by decide +kernel)
  subst hsz
  have hA : ∀ q : Nat, s.heap.size ≤ q → x_new s.heap.size q := fun _ h => h
  have hS : va_S (x_new s.heap.size) s.heap s.heap [] := va_S.rf
  have hP : va_P (dC, dI) vwCl [(o1, .inr (1, [.ref a1_0, .ref a1_1, .ref a1_2, .ref a1_3, .ref a1_4, .int v1_5])), (a1_2, .inl (cyI, n1_2, .inl g1_2)), (o3, .inr (3, [.ref o7, .ref o1, .int v3_2, .int v3_3, .int v3_4, .ref a3_5, .ref a3_6, .ref a3_7, .ref a3_8, .ref a3_9, .ref a3_10, .ref a3_11, .ref a3_12, .int v3_13, .int v3_14, .ref a3_15, .ref a3_16])), (a3_6, .inl (cyI, n3_6, .inl g3_6)), (a3_7, .inl (cyI, n3_7, .inl g3_7)), (a3_8, .inl (cyI, n3_8, .inl g3_8)), (a3_9, .inl (cyI, n3_9, .inl g3_9)), (a3_15, .inl (cyI, n3_15, .inl g3_15))] s.heap := hP
  have hl := lv_entry ([.ref o3, .int p1, .int p2]) (n := 4) (Nat.le_of_ble_eq_true rfl)
  rw [lg_entry_eq]
  generalize (lg_sl ([.ref o3, .int p1, .int p2]) ++ List.replicate (4 - (lg_sl ([.ref o3, .int p1, .int p2])).length) Slot.unset).toArray = ls at hl ⊢
  have hl : lv_has ls 4 [(0, .ref o3), (1, .int p1), (2, .int p2)] := hl
  obtain ⟨H, hH⟩ : ∃ z, z = s.heap := ⟨_, rfl⟩
  refine x_here hH ?_
  have hP : va_P (dC, dI) vwCl [(o1, .inr (1, [.ref a1_0, .ref a1_1, .ref a1_2, .ref a1_3, .ref a1_4, .int v1_5])), (a1_2, .inl (cyI, n1_2, .inl g1_2)), (o3, .inr (3, [.ref o7, .ref o1, .int v3_2, .int v3_3, .int v3_4, .ref a3_5, .ref a3_6, .ref a3_7, .ref a3_8, .ref a3_9, .ref a3_10, .ref a3_11, .ref a3_12, .int v3_13, .int v3_14, .ref a3_15, .ref a3_16])), (a3_6, .inl (cyI, n3_6, .inl g3_6)), (a3_7, .inl (cyI, n3_7, .inl g3_7)), (a3_8, .inl (cyI, n3_8, .inl g3_8)), (a3_9, .inl (cyI, n3_9, .inl g3_9)), (a3_15, .inl (cyI, n3_15, .inl g3_15))] H := by rw [hH]; exact hP
  have hS : va_S (x_new s.heap.size) s.heap H [] := by rw [hH]; exact va_S.rf
  clear hH
  obtain ⟨locs, hlo⟩ : ∃ z : List Loc, z = [] := ⟨_, rfl⟩
  refine x_herl hlo ?_
  have hS : va_S (x_new s.heap.size) s.heap H locs := by rw [hlo]; exact hS
  clear hlo
  unfold f_X3_factOf at hf
  refine lv_iload_n hx hb dX3_factOf_0 rfl (lv_at hl 1 rfl) ?_
  refine lv_if_lt (tgt := 12) hx hb dX3_factOf_1 (by decide) (fun c_1 => ?_) (fun c_1 => ?_)
  · replace hf := x_ip c_1 hf
    refine lv_iconst (v := (-1)) hx hb dX3_factOf_12 (by decide) ?_
    obtain rfl := Option.some.inj hf
    exact W.iret hx hb hr (fun t ht hW => ⟨⟨_, (), rfl, rfl, trivial⟩, hS.F ht⟩) hS.2.2 dX3_factOf_13
  · replace hf := x_in c_1 hf
    refine lv_iload_n hx hb dX3_factOf_4 rfl (lv_at hl 1 rfl) ?_
    refine lv_aload_n hx hb dX3_factOf_5 rfl (lv_at hl 0 rfl) ?_
    refine va_get (D := (dC, dI)) (ci := 3) (v := .int v3_4) (C := RX3) (T := TX3) (N := 17) hx hb hts i_X3_factOf_X3 hown hK hP 2 rfl rfl 4 (by decide) k_1 (fun _ h9 => h9) rfl dX3_factOf_6 ?_
    refine lv_icmp_lt (tgt := 14) hx hb dX3_factOf_9 (by decide) (fun c_2 => ?_) (fun c_2 => ?_)
    · replace hf := x_ip c_2 hf
      refine lv_aload_n hx hb dX3_factOf_14 rfl (lv_at hl 0 rfl) ?_
      refine va_get (D := (dC, dI)) (ci := 3) (v := .ref a3_15) (C := RX3) (T := TX3) (N := 17) hx hb hts i_X3_factOf_X3 hown hK hP 2 rfl rfl 15 (by decide) k_2 (fun _ h9 => h9) rfl dX3_factOf_15 ?_
      refine lv_iload_n hx hb dX3_factOf_18 rfl (lv_at hl 1 rfl) ?_
      obtain ⟨g_3, hf⟩ := x_gu hf
      refine va_iald hx hb hK hP 7 0 rfl rfl (x_gdin g_3) dX3_factOf_19 ?_
      refine lv_istore_n (lv' := [(3, .int (g3_15 (Int32.toNatClampNeg p1))), (0, .ref o3), (1, .int p1), (2, .int p2)]) hx hb dX3_factOf_20 rfl hl (by decide) rfl (fun ls hl => ?_)
      refine lv_iload_n hx hb dX3_factOf_21 rfl (lv_at hl 3 rfl) ?_
      rcases Classical.em (p2 = 0) with c_4 | c_4
      · refine lv_tableIn (off := 26) (tgt := 48) hx hb dX3_factOf_22 (by rw [c_4]; decide) (by rw [c_4]; decide) (by rw [c_4]; decide) (by decide) ?_
        replace hf := x_ip c_4 hf
        refine lv_aload_n hx hb dX3_factOf_48 rfl (lv_at hl 1 rfl) ?_
        refine va_get (D := (dC, dI)) (ci := 3) (v := .ref a3_6) (C := RX3) (T := TX3) (N := 17) hx hb hts i_X3_factOf_X3 hown hK hP 2 rfl rfl 6 (by decide) k_3 (fun _ h9 => h9) rfl dX3_factOf_49 ?_
        refine lv_iload_n hx hb dX3_factOf_52 rfl (lv_at hl 0 rfl) ?_
        obtain ⟨g_5, hf⟩ := x_gu hf
        refine va_iald hx hb hK hP 3 0 rfl rfl (x_gdin g_5) dX3_factOf_53 ?_
        obtain rfl := Option.some.inj hf
        exact W.iret hx hb hr (fun t ht hW => ⟨⟨_, (), rfl, rfl, trivial⟩, hS.F ht⟩) hS.2.2 dX3_factOf_54
      replace hf := x_in c_4 hf
      rcases Classical.em (p2 = 1) with c_6 | c_6
      · refine lv_tableIn (off := 33) (tgt := 55) hx hb dX3_factOf_22 (by rw [c_6]; decide) (by rw [c_6]; decide) (by rw [c_6]; decide) (by decide) ?_
        replace hf := x_ip c_6 hf
        refine lv_aload_n hx hb dX3_factOf_55 rfl (lv_at hl 1 rfl) ?_
        refine va_get (D := (dC, dI)) (ci := 3) (v := .ref o1) (C := RX3) (T := TX3) (N := 17) hx hb hts i_X3_factOf_X3 hown hK hP 2 rfl rfl 1 (by decide) k_4 (fun _ h9 => h9) rfl dX3_factOf_56 ?_
        refine va_getN (D := (dC, dI)) (ci := 1) (v := .ref a1_2) (C := RX1) (T := TX1) (N := 6) hx hb hts i_X3_factOf_X1 hown hK hP 0 rfl rfl 2 (by decide) ((hN.1 ("FlowJudge$Frames", 123, "FlowJudge$Contexts", "lengths", "[I") (List.mem_of_getElem? (i := 34) rfl)).use rfl) (fun _ h9 => h9) rfl dX3_factOf_59 ?_
        refine lv_aload_n hx hb dX3_factOf_62 rfl (lv_at hl 1 rfl) ?_
        refine va_get (D := (dC, dI)) (ci := 3) (v := .ref a3_7) (C := RX3) (T := TX3) (N := 17) hx hb hts i_X3_factOf_X3 hown hK hP 2 rfl rfl 7 (by decide) k_5 (fun _ h9 => h9) rfl dX3_factOf_63 ?_
        refine lv_iload_n hx hb dX3_factOf_66 rfl (lv_at hl 0 rfl) ?_
        obtain ⟨g_7, hf⟩ := x_gu hf
        refine va_iald hx hb hK hP 4 0 rfl rfl (x_gdin g_7) dX3_factOf_67 ?_
        obtain ⟨g_8, hf⟩ := x_gu hf
        refine va_iald hx hb hK hP 1 0 rfl rfl (x_gdin g_8) dX3_factOf_68 ?_
        obtain rfl := Option.some.inj hf
        exact W.iret hx hb hr (fun t ht hW => ⟨⟨_, (), rfl, rfl, trivial⟩, hS.F ht⟩) hS.2.2 dX3_factOf_69
      replace hf := x_in c_6 hf
      rcases Classical.em (p2 = 2) with c_9 | c_9
      · refine lv_tableIn (off := 48) (tgt := 70) hx hb dX3_factOf_22 (by rw [c_9]; decide) (by rw [c_9]; decide) (by rw [c_9]; decide) (by decide) ?_
        replace hf := x_ip c_9 hf
        refine lv_aload_n hx hb dX3_factOf_70 rfl (lv_at hl 1 rfl) ?_
        refine va_get (D := (dC, dI)) (ci := 3) (v := .ref a3_8) (C := RX3) (T := TX3) (N := 17) hx hb hts i_X3_factOf_X3 hown hK hP 2 rfl rfl 8 (by decide) k_6 (fun _ h9 => h9) rfl dX3_factOf_71 ?_
        refine lv_iload_n hx hb dX3_factOf_74 rfl (lv_at hl 0 rfl) ?_
        obtain ⟨g_10, hf⟩ := x_gu hf
        refine va_iald hx hb hK hP 5 0 rfl rfl (x_gdin g_10) dX3_factOf_75 ?_
        obtain rfl := Option.some.inj hf
        exact W.iret hx hb hr (fun t ht hW => ⟨⟨_, (), rfl, rfl, trivial⟩, hS.F ht⟩) hS.2.2 dX3_factOf_76
      replace hf := x_in c_9 hf
      have n_c_4 : ¬ Int32.toInt p2 = 0 := fun h9 => c_4 (Int32.toInt_inj.mp (Eq.trans h9 (by decide : (0 : Int) = Int32.toInt 0)))
      have n_c_6 : ¬ Int32.toInt p2 = 1 := fun h9 => c_6 (Int32.toInt_inj.mp (Eq.trans h9 (by decide : (1 : Int) = Int32.toInt 1)))
      have n_c_9 : ¬ Int32.toInt p2 = 2 := fun h9 => c_9 (Int32.toInt_inj.mp (Eq.trans h9 (by decide : (2 : Int) = Int32.toInt 2)))
      refine lv_tableOut (tgt := 77) hx hb dX3_factOf_22 (by omega) (by decide) ?_
      refine lv_aload_n hx hb dX3_factOf_77 rfl (lv_at hl 1 rfl) ?_
      refine va_get (D := (dC, dI)) (ci := 3) (v := .ref a3_9) (C := RX3) (T := TX3) (N := 17) hx hb hts i_X3_factOf_X3 hown hK hP 2 rfl rfl 9 (by decide) k_7 (fun _ h9 => h9) rfl dX3_factOf_78 ?_
      refine lv_iload_n hx hb dX3_factOf_81 rfl (lv_at hl 0 rfl) ?_
      obtain ⟨g_11, hf⟩ := x_gu hf
      refine va_iald hx hb hK hP 6 0 rfl rfl (x_gdin g_11) dX3_factOf_82 ?_
      obtain rfl := Option.some.inj hf
      exact W.iret hx hb hr (fun t ht hW => ⟨⟨_, (), rfl, rfl, trivial⟩, hS.F ht⟩) hS.2.2 dX3_factOf_83
    · replace hf := x_in c_2 hf
      refine lv_iconst (v := (-1)) hx hb dX3_factOf_12 (by decide) ?_
      obtain rfl := Option.some.inj hf
      exact W.iret hx hb hr (fun t ht hW => ⟨⟨_, (), rfl, rfl, trivial⟩, hS.F ht⟩) hS.2.2 dX3_factOf_13

def f_X3_addressOf (g1_0 : Nat → Int32) (n1_0 : Nat) (g1_1 : Nat → Int32) (n1_1 : Nat) (g1_2 : Nat → Int32) (n1_2 : Nat) (v3_4 : Int32) (g3_7 : Nat → Int32) (n3_7 : Nat) (g3_15 : Nat → Int32) (n3_15 : Nat) (p1 : Int32) (p2 : Int32) : Option (Int32) := if p1 < (0 : Int32) then some (-1) else if v3_4 ≤ p1 then some (-1) else if (0 : Int32) ≤ p2 then if x_gd p1 n3_15 = true then if x_gd (g3_15 (Int32.toNatClampNeg p1)) n3_7 = true then if x_gd (g3_7 (Int32.toNatClampNeg (g3_15 (Int32.toNatClampNeg p1)))) n1_2 = true then if (g1_2 (Int32.toNatClampNeg (g3_7 (Int32.toNatClampNeg (g3_15 (Int32.toNatClampNeg p1)))))) ≤ p2 then some (-1) else (f_X1_addressAt g1_0 n1_0 g1_1 n1_1 g1_2 n1_2 (g3_7 (Int32.toNatClampNeg (g3_15 (Int32.toNatClampNeg p1)))) p2) >>= (fun r_8 => some r_8) else none else none else none else some (-1)
theorem i_X3_addressOf_X1 : ∀ w ∈ wsX10, w ∈ wsX3_addressOf := fun _ h => List.mem_cons_of_mem _ (List.mem_append_right _ h)
theorem i_X3_addressOf_X3 : ∀ w ∈ wsX30, w ∈ wsX3_addressOf := fun _ h => List.mem_cons_of_mem _ (List.mem_append_left _ (List.mem_append_right _ h))
set_option maxHeartbeats 4000000 in
set_option maxRecDepth 100000 in
theorem c_X3_addressOf (l : Launch) (dC : Nat → ClassId) (dI : Nat → Nat → Nat) (cyI cyZ cyJ : ClassId) (sz : Nat) (o1 : Nat) (a1_0 : Nat) (a1_1 : Nat) (a1_2 : Nat) (a1_3 : Nat) (a1_4 : Nat) (v1_5 : Int32) (g1_0 : Nat → Int32) (n1_0 : Nat) (g1_1 : Nat → Int32) (n1_1 : Nat) (g1_2 : Nat → Int32) (n1_2 : Nat) (o3 : Nat) (o7 : Nat) (v3_2 : Int32) (v3_3 : Int32) (v3_4 : Int32) (a3_5 : Nat) (a3_6 : Nat) (a3_7 : Nat) (a3_8 : Nat) (a3_9 : Nat) (a3_10 : Nat) (a3_11 : Nat) (a3_12 : Nat) (v3_13 : Int32) (v3_14 : Int32) (a3_15 : Nat) (a3_16 : Nat) (g3_7 : Nat → Int32) (n3_7 : Nat) (g3_15 : Nat → Int32) (n3_15 : Nat) (p1 : Int32) (p2 : Int32) (R : Int32) (hf : f_X3_addressOf g1_0 n1_0 g1_1 n1_1 g1_2 n1_2 v3_4 g3_7 n3_7 g3_15 n3_15 p1 p2 = some R) : Met l yX3_addressOf wsX3_addressOf ({ frames := 1, cells := 0, slots := 0, locals := 24 }) (va_Pc [.ref o3, .int p1, .int p2] (x_Pre (dC, dI) (x_T cyI cyZ cyJ) [(o1, .inr (1, [.ref a1_0, .ref a1_1, .ref a1_2, .ref a1_3, .ref a1_4, .int v1_5])), (a1_0, .inl (cyI, n1_0, .inl g1_0)), (a1_1, .inl (cyI, n1_1, .inl g1_1)), (a1_2, .inl (cyI, n1_2, .inl g1_2)), (o3, .inr (3, [.ref o7, .ref o1, .int v3_2, .int v3_3, .int v3_4, .ref a3_5, .ref a3_6, .ref a3_7, .ref a3_8, .ref a3_9, .ref a3_10, .ref a3_11, .ref a3_12, .int v3_13, .int v3_14, .ref a3_15, .ref a3_16])), (a3_7, .inl (cyI, n3_7, .inl g3_7)), (a3_15, .inl (cyI, n3_15, .inl g3_15))] sz)) (va_Qi (fun (r : Int32) (_ : Unit) => r = R) (fun _ _ => True) (x_new sz)) 0 0 (x_new sz) := by
  refine Met.ofW (cc := cX3_addressOf) (maxL := 4) (ret := (some .int)) (by decide) rfl ?_
  intro p e s m args below meth c s₁ B hml hv
  obtain ⟨rfl, hsz, hP, hK, hN⟩ := hv
  have hx := B.exec
  have hb := B.bytes
  have hr := B.returns
  have hts := atoms_spec (ws := wsX3_addressOf) B.pre
  have hown : s.vm.findClass RX3 = some m.cls := findClass_of_methodNamed B.named
  have k_1 := hts (.fieldLink RX3 69 "FlowJudge$Frames" "count" "I") (by decide +kernel)
  have k_2 := hts (.fieldLink RX3 18 "FlowJudge$Frames" "ways" "[I") (by decide +kernel)
  have k_3 := hts (.fieldLink RX3 43 "FlowJudge$Frames" "order" "[I") (by decide +kernel)
  have k_4 := hts (.fieldLink RX3 53 "FlowJudge$Frames" "contexts" "LFlowJudge$Contexts;") (by decide +kernel)
  subst hsz
  have hA : ∀ q : Nat, s.heap.size ≤ q → x_new s.heap.size q := fun _ h => h
  have hS : va_S (x_new s.heap.size) s.heap s.heap [] := va_S.rf
  have hP : va_P (dC, dI) vwCl [(o1, .inr (1, [.ref a1_0, .ref a1_1, .ref a1_2, .ref a1_3, .ref a1_4, .int v1_5])), (a1_0, .inl (cyI, n1_0, .inl g1_0)), (a1_1, .inl (cyI, n1_1, .inl g1_1)), (a1_2, .inl (cyI, n1_2, .inl g1_2)), (o3, .inr (3, [.ref o7, .ref o1, .int v3_2, .int v3_3, .int v3_4, .ref a3_5, .ref a3_6, .ref a3_7, .ref a3_8, .ref a3_9, .ref a3_10, .ref a3_11, .ref a3_12, .int v3_13, .int v3_14, .ref a3_15, .ref a3_16])), (a3_7, .inl (cyI, n3_7, .inl g3_7)), (a3_15, .inl (cyI, n3_15, .inl g3_15))] s.heap := hP
  have hl := lv_entry ([.ref o3, .int p1, .int p2]) (n := 4) (Nat.le_of_ble_eq_true rfl)
  rw [lg_entry_eq]
  generalize (lg_sl ([.ref o3, .int p1, .int p2]) ++ List.replicate (4 - (lg_sl ([.ref o3, .int p1, .int p2])).length) Slot.unset).toArray = ls at hl ⊢
  have hl : lv_has ls 4 [(0, .ref o3), (1, .int p1), (2, .int p2)] := hl
  obtain ⟨H, hH⟩ : ∃ z, z = s.heap := ⟨_, rfl⟩
  refine x_here hH ?_
  have hP : va_P (dC, dI) vwCl [(o1, .inr (1, [.ref a1_0, .ref a1_1, .ref a1_2, .ref a1_3, .ref a1_4, .int v1_5])), (a1_0, .inl (cyI, n1_0, .inl g1_0)), (a1_1, .inl (cyI, n1_1, .inl g1_1)), (a1_2, .inl (cyI, n1_2, .inl g1_2)), (o3, .inr (3, [.ref o7, .ref o1, .int v3_2, .int v3_3, .int v3_4, .ref a3_5, .ref a3_6, .ref a3_7, .ref a3_8, .ref a3_9, .ref a3_10, .ref a3_11, .ref a3_12, .int v3_13, .int v3_14, .ref a3_15, .ref a3_16])), (a3_7, .inl (cyI, n3_7, .inl g3_7)), (a3_15, .inl (cyI, n3_15, .inl g3_15))] H := by rw [hH]; exact hP
  have hS : va_S (x_new s.heap.size) s.heap H [] := by rw [hH]; exact va_S.rf
  clear hH
  obtain ⟨locs, hlo⟩ : ∃ z : List Loc, z = [] := ⟨_, rfl⟩
  refine x_herl hlo ?_
  have hS : va_S (x_new s.heap.size) s.heap H locs := by rw [hlo]; exact hS
  clear hlo
  unfold f_X3_addressOf at hf
  refine lv_iload_n hx hb dX3_addressOf_0 rfl (lv_at hl 1 rfl) ?_
  refine lv_if_lt (tgt := 16) hx hb dX3_addressOf_1 (by decide) (fun c_1 => ?_) (fun c_1 => ?_)
  · replace hf := x_ip c_1 hf
    refine lv_iconst (v := (-1)) hx hb dX3_addressOf_16 (by decide) ?_
    obtain rfl := Option.some.inj hf
    exact W.iret hx hb hr (fun t ht hW => ⟨⟨_, (), rfl, rfl, trivial⟩, hS.F ht⟩) hS.2.2 dX3_addressOf_17
  · replace hf := x_in c_1 hf
    refine lv_iload_n hx hb dX3_addressOf_4 rfl (lv_at hl 1 rfl) ?_
    refine lv_aload_n hx hb dX3_addressOf_5 rfl (lv_at hl 0 rfl) ?_
    refine va_get (D := (dC, dI)) (ci := 3) (v := .int v3_4) (C := RX3) (T := TX3) (N := 17) hx hb hts i_X3_addressOf_X3 hown hK hP 4 rfl rfl 4 (by decide) k_1 (fun _ h9 => h9) rfl dX3_addressOf_6 ?_
    refine lv_icmp_ge (tgt := 16) hx hb dX3_addressOf_9 (by decide) (fun c_2 => ?_) (fun c_2 => ?_)
    · replace hf := x_ip c_2 hf
      refine lv_iconst (v := (-1)) hx hb dX3_addressOf_16 (by decide) ?_
      obtain rfl := Option.some.inj hf
      exact W.iret hx hb hr (fun t ht hW => ⟨⟨_, (), rfl, rfl, trivial⟩, hS.F ht⟩) hS.2.2 dX3_addressOf_17
    · replace hf := x_in c_2 hf
      refine lv_iload_n hx hb dX3_addressOf_12 rfl (lv_at hl 2 rfl) ?_
      refine lv_if_ge (tgt := 18) hx hb dX3_addressOf_13 (by decide) (fun c_3 => ?_) (fun c_3 => ?_)
      · replace hf := x_ip c_3 hf
        refine lv_aload_n hx hb dX3_addressOf_18 rfl (lv_at hl 0 rfl) ?_
        refine va_get (D := (dC, dI)) (ci := 3) (v := .ref a3_7) (C := RX3) (T := TX3) (N := 17) hx hb hts i_X3_addressOf_X3 hown hK hP 4 rfl rfl 7 (by decide) k_2 (fun _ h9 => h9) rfl dX3_addressOf_19 ?_
        refine lv_aload_n hx hb dX3_addressOf_22 rfl (lv_at hl 0 rfl) ?_
        refine va_get (D := (dC, dI)) (ci := 3) (v := .ref a3_15) (C := RX3) (T := TX3) (N := 17) hx hb hts i_X3_addressOf_X3 hown hK hP 4 rfl rfl 15 (by decide) k_3 (fun _ h9 => h9) rfl dX3_addressOf_23 ?_
        refine lv_iload_n hx hb dX3_addressOf_26 rfl (lv_at hl 1 rfl) ?_
        obtain ⟨g_4, hf⟩ := x_gu hf
        refine va_iald hx hb hK hP 6 0 rfl rfl (x_gdin g_4) dX3_addressOf_27 ?_
        obtain ⟨g_5, hf⟩ := x_gu hf
        refine va_iald hx hb hK hP 5 0 rfl rfl (x_gdin g_5) dX3_addressOf_28 ?_
        refine lv_istore_n (lv' := [(3, .int (g3_7 (Int32.toNatClampNeg (g3_15 (Int32.toNatClampNeg p1))))), (0, .ref o3), (1, .int p1), (2, .int p2)]) hx hb dX3_addressOf_29 rfl hl (by decide) rfl (fun ls hl => ?_)
        refine lv_iload_n hx hb dX3_addressOf_30 rfl (lv_at hl 3 rfl) ?_
        refine lv_aload_n hx hb dX3_addressOf_31 rfl (lv_at hl 1 rfl) ?_
        refine va_get (D := (dC, dI)) (ci := 3) (v := .ref o1) (C := RX3) (T := TX3) (N := 17) hx hb hts i_X3_addressOf_X3 hown hK hP 4 rfl rfl 1 (by decide) k_4 (fun _ h9 => h9) rfl dX3_addressOf_32 ?_
        refine va_getN (D := (dC, dI)) (ci := 1) (v := .ref a1_2) (C := RX1) (T := TX1) (N := 6) hx hb hts i_X3_addressOf_X1 hown hK hP 0 rfl rfl 2 (by decide) ((hN.1 ("FlowJudge$Frames", 123, "FlowJudge$Contexts", "lengths", "[I") (List.mem_of_getElem? (i := 34) rfl)).use rfl) (fun _ h9 => h9) rfl dX3_addressOf_35 ?_
        refine lv_iload_n hx hb dX3_addressOf_38 rfl (lv_at hl 0 rfl) ?_
        obtain ⟨g_6, hf⟩ := x_gu hf
        refine va_iald hx hb hK hP 3 0 rfl rfl (x_gdin g_6) dX3_addressOf_39 ?_
        refine lv_icmp_ge (tgt := 55) hx hb dX3_addressOf_40 (by decide) (fun c_7 => ?_) (fun c_7 => ?_)
        · replace hf := x_ip c_7 hf
          refine lv_iconst (v := (-1)) hx hb dX3_addressOf_55 (by decide) ?_
          obtain rfl := Option.some.inj hf
          exact W.iret hx hb hr (fun t ht hW => ⟨⟨_, (), rfl, rfl, trivial⟩, hS.F ht⟩) hS.2.2 dX3_addressOf_56
        · replace hf := x_in c_7 hf
          refine lv_aload_n hx hb dX3_addressOf_43 rfl (lv_at hl 1 rfl) ?_
          refine va_get (D := (dC, dI)) (ci := 3) (v := .ref o1) (C := RX3) (T := TX3) (N := 17) hx hb hts i_X3_addressOf_X3 hown hK hP 4 rfl rfl 1 (by decide) k_4 (fun _ h9 => h9) rfl dX3_addressOf_44 ?_
          refine lv_iload_n hx hb dX3_addressOf_47 rfl (lv_at hl 0 rfl) ?_
          refine lv_iload_n hx hb dX3_addressOf_48 rfl (lv_at hl 3 rfl) ?_
          obtain ⟨r_8, h_8, hf⟩ := x_bi hf
          have hPc := hP.sub (ws' := [(o1, .inr (1, [.ref a1_0, .ref a1_1, .ref a1_2, .ref a1_3, .ref a1_4, .int v1_5])), (a1_0, .inl (cyI, n1_0, .inl g1_0)), (a1_1, .inl (cyI, n1_1, .inl g1_1)), (a1_2, .inl (cyI, n1_2, .inl g1_2))]) [0, 1, 2, 3] rfl
          refine va_calli (va_runV (As := [.int (g3_7 (Int32.toNatClampNeg (g3_15 (Int32.toNatClampNeg p1)))), .int p2]) (rest := []) ⟨hx, hb, hml, hown, hts⟩ (c_X1_addressAt l dC dI cyI cyZ cyJ H.size o1 a1_0 a1_1 a1_2 a1_3 a1_4 v1_5 g1_0 n1_0 g1_1 n1_1 g1_2 n1_2 (g3_7 (Int32.toNatClampNeg (g3_15 (Int32.toNatClampNeg p1)))) p2 r_8 h_8) (cwV 2 hts gX3_addressOf_X1_addressAt rfl rfl rfl (by decide +kernel) ⟨Nat.le_of_ble_eq_true rfl, Nat.le_of_ble_eq_true rfl⟩) (x_pV hN hK hPc (ci := 1) (q0 := 0) rfl rfl) rfl rfl hl.1 rfl (lv_room (Nat.le_of_ble_eq_true rfl)) dX3_addressOf_49 ⟨Nat.le_of_ble_eq_true rfl, Nat.le_of_ble_eq_true rfl⟩) hS x_nA (x_nf hA hS) (fun q_8 u t H1 locs ht hvm hw hB hz1 hk1 hS => ?_)
          have hP := x_kp hP hk1
          clear ht hvm hB hz1 hk1 t u hPc
          generalize H1 = H at hP hS ⊢
          obtain rfl := hw.symm
          refine lv_goto (tgt := 56) hx hb dX3_addressOf_52 (by decide) ?_
          obtain rfl := Option.some.inj hf
          exact W.iret hx hb hr (fun t ht hW => ⟨⟨_, (), rfl, rfl, trivial⟩, hS.F ht⟩) hS.2.2 dX3_addressOf_56
      · replace hf := x_in c_3 hf
        refine lv_iconst (v := (-1)) hx hb dX3_addressOf_16 (by decide) ?_
        obtain rfl := Option.some.inj hf
        exact W.iret hx hb hr (fun t ht hW => ⟨⟨_, (), rfl, rfl, trivial⟩, hS.F ht⟩) hS.2.2 dX3_addressOf_17

def f_X3_placeOf (v3_2 : Int32) (v3_3 : Int32) (v3_4 : Int32) (g3_5 : Nat → Int32) (n3_5 : Nat) (g3_8 : Nat → Int32) (n3_8 : Nat) (g3_15 : Nat → Int32) (n3_15 : Nat) (p1 : Int32) (p2 : Int32) : Option (Int32) := if p1 < (0 : Int32) then some (-1) else if v3_4 ≤ p1 then some (-1) else if (0 : Int32) ≤ p2 then if x_gd p1 n3_15 = true then if x_gd (g3_15 (Int32.toNatClampNeg p1)) n3_8 = true then if (v3_2 + (g3_8 (Int32.toNatClampNeg (g3_15 (Int32.toNatClampNeg p1))))) ≤ p2 then some (-1) else if x_gd (((g3_15 (Int32.toNatClampNeg p1)) * v3_3) + p2) n3_5 = true then some (g3_5 (Int32.toNatClampNeg (((g3_15 (Int32.toNatClampNeg p1)) * v3_3) + p2))) else none else none else none else some (-1)
theorem i_X3_placeOf_X3 : ∀ w ∈ wsX30, w ∈ wsX3_placeOf := fun _ h => List.mem_cons_of_mem _ (List.mem_append_right _ h)
set_option maxHeartbeats 4000000 in
set_option maxRecDepth 100000 in
theorem c_X3_placeOf (l : Launch) (dC : Nat → ClassId) (dI : Nat → Nat → Nat) (cyI cyZ cyJ : ClassId) (sz : Nat) (o3 : Nat) (o7 : Nat) (o1 : Nat) (v3_2 : Int32) (v3_3 : Int32) (v3_4 : Int32) (a3_5 : Nat) (a3_6 : Nat) (a3_7 : Nat) (a3_8 : Nat) (a3_9 : Nat) (a3_10 : Nat) (a3_11 : Nat) (a3_12 : Nat) (v3_13 : Int32) (v3_14 : Int32) (a3_15 : Nat) (a3_16 : Nat) (g3_5 : Nat → Int32) (n3_5 : Nat) (g3_8 : Nat → Int32) (n3_8 : Nat) (g3_15 : Nat → Int32) (n3_15 : Nat) (p1 : Int32) (p2 : Int32) (R : Int32) (hf : f_X3_placeOf v3_2 v3_3 v3_4 g3_5 n3_5 g3_8 n3_8 g3_15 n3_15 p1 p2 = some R) : Met l yX3_placeOf wsX3_placeOf ({ frames := 0, cells := 0, slots := 0, locals := 0 }) (va_Pc [.ref o3, .int p1, .int p2] (x_Pre (dC, dI) (x_T cyI cyZ cyJ) [(o3, .inr (3, [.ref o7, .ref o1, .int v3_2, .int v3_3, .int v3_4, .ref a3_5, .ref a3_6, .ref a3_7, .ref a3_8, .ref a3_9, .ref a3_10, .ref a3_11, .ref a3_12, .int v3_13, .int v3_14, .ref a3_15, .ref a3_16])), (a3_5, .inl (cyI, n3_5, .inl g3_5)), (a3_8, .inl (cyI, n3_8, .inl g3_8)), (a3_15, .inl (cyI, n3_15, .inl g3_15))] sz)) (va_Qi (fun (r : Int32) (_ : Unit) => r = R) (fun _ _ => True) (x_new sz)) 0 0 (x_new sz) := by
  refine Met.ofW (cc := cX3_placeOf) (maxL := 4) (ret := (some .int)) (by decide) rfl ?_
  intro p e s m args below meth c s₁ B hml hv
  obtain ⟨rfl, hsz, hP, hK, hN⟩ := hv
  have hx := B.exec
  have hb := B.bytes
  have hr := B.returns
  have hts := atoms_spec (ws := wsX3_placeOf) B.pre
  have hown : s.vm.findClass RX3 = some m.cls := findClass_of_methodNamed B.named
  have k_1 := hts (.fieldLink RX3 69 "FlowJudge$Frames" "count" "I") (by decide +kernel)
  have k_2 := hts (.fieldLink RX3 43 "FlowJudge$Frames" "order" "[I") (by decide +kernel)
  have k_3 := hts (.fieldLink RX3 63 "FlowJudge$Frames" "locals" "I") (by decide +kernel)
  have k_4 := hts (.fieldLink RX3 21 "FlowJudge$Frames" "heights" "[I") (by decide +kernel)
  have k_5 := hts (.fieldLink RX3 9 "FlowJudge$Frames" "words" "[I") (by decide +kernel)
  have k_6 := hts (.fieldLink RX3 66 "FlowJudge$Frames" "size" "I") (by decide +kernel)
  subst hsz
  have hA : ∀ q : Nat, s.heap.size ≤ q → x_new s.heap.size q := fun _ h => h
  have hS : va_S (x_new s.heap.size) s.heap s.heap [] := va_S.rf
  have hP : va_P (dC, dI) vwCl [(o3, .inr (3, [.ref o7, .ref o1, .int v3_2, .int v3_3, .int v3_4, .ref a3_5, .ref a3_6, .ref a3_7, .ref a3_8, .ref a3_9, .ref a3_10, .ref a3_11, .ref a3_12, .int v3_13, .int v3_14, .ref a3_15, .ref a3_16])), (a3_5, .inl (cyI, n3_5, .inl g3_5)), (a3_8, .inl (cyI, n3_8, .inl g3_8)), (a3_15, .inl (cyI, n3_15, .inl g3_15))] s.heap := hP
  have hl := lv_entry ([.ref o3, .int p1, .int p2]) (n := 4) (Nat.le_of_ble_eq_true rfl)
  rw [lg_entry_eq]
  generalize (lg_sl ([.ref o3, .int p1, .int p2]) ++ List.replicate (4 - (lg_sl ([.ref o3, .int p1, .int p2])).length) Slot.unset).toArray = ls at hl ⊢
  have hl : lv_has ls 4 [(0, .ref o3), (1, .int p1), (2, .int p2)] := hl
  obtain ⟨H, hH⟩ : ∃ z, z = s.heap := ⟨_, rfl⟩
  refine x_here hH ?_
  have hP : va_P (dC, dI) vwCl [(o3, .inr (3, [.ref o7, .ref o1, .int v3_2, .int v3_3, .int v3_4, .ref a3_5, .ref a3_6, .ref a3_7, .ref a3_8, .ref a3_9, .ref a3_10, .ref a3_11, .ref a3_12, .int v3_13, .int v3_14, .ref a3_15, .ref a3_16])), (a3_5, .inl (cyI, n3_5, .inl g3_5)), (a3_8, .inl (cyI, n3_8, .inl g3_8)), (a3_15, .inl (cyI, n3_15, .inl g3_15))] H := by rw [hH]; exact hP
  have hS : va_S (x_new s.heap.size) s.heap H [] := by rw [hH]; exact va_S.rf
  clear hH
  obtain ⟨locs, hlo⟩ : ∃ z : List Loc, z = [] := ⟨_, rfl⟩
  refine x_herl hlo ?_
  have hS : va_S (x_new s.heap.size) s.heap H locs := by rw [hlo]; exact hS
  clear hlo
  unfold f_X3_placeOf at hf
  refine lv_iload_n hx hb dX3_placeOf_0 rfl (lv_at hl 1 rfl) ?_
  refine lv_if_lt (tgt := 16) hx hb dX3_placeOf_1 (by decide) (fun c_1 => ?_) (fun c_1 => ?_)
  · replace hf := x_ip c_1 hf
    refine lv_iconst (v := (-1)) hx hb dX3_placeOf_16 (by decide) ?_
    obtain rfl := Option.some.inj hf
    exact W.iret hx hb hr (fun t ht hW => ⟨⟨_, (), rfl, rfl, trivial⟩, hS.F ht⟩) hS.2.2 dX3_placeOf_17
  · replace hf := x_in c_1 hf
    refine lv_iload_n hx hb dX3_placeOf_4 rfl (lv_at hl 1 rfl) ?_
    refine lv_aload_n hx hb dX3_placeOf_5 rfl (lv_at hl 0 rfl) ?_
    refine va_get (D := (dC, dI)) (ci := 3) (v := .int v3_4) (C := RX3) (T := TX3) (N := 17) hx hb hts i_X3_placeOf_X3 hown hK hP 0 rfl rfl 4 (by decide) k_1 (fun _ h9 => h9) rfl dX3_placeOf_6 ?_
    refine lv_icmp_ge (tgt := 16) hx hb dX3_placeOf_9 (by decide) (fun c_2 => ?_) (fun c_2 => ?_)
    · replace hf := x_ip c_2 hf
      refine lv_iconst (v := (-1)) hx hb dX3_placeOf_16 (by decide) ?_
      obtain rfl := Option.some.inj hf
      exact W.iret hx hb hr (fun t ht hW => ⟨⟨_, (), rfl, rfl, trivial⟩, hS.F ht⟩) hS.2.2 dX3_placeOf_17
    · replace hf := x_in c_2 hf
      refine lv_iload_n hx hb dX3_placeOf_12 rfl (lv_at hl 2 rfl) ?_
      refine lv_if_ge (tgt := 18) hx hb dX3_placeOf_13 (by decide) (fun c_3 => ?_) (fun c_3 => ?_)
      · replace hf := x_ip c_3 hf
        refine lv_aload_n hx hb dX3_placeOf_18 rfl (lv_at hl 0 rfl) ?_
        refine va_get (D := (dC, dI)) (ci := 3) (v := .ref a3_15) (C := RX3) (T := TX3) (N := 17) hx hb hts i_X3_placeOf_X3 hown hK hP 0 rfl rfl 15 (by decide) k_2 (fun _ h9 => h9) rfl dX3_placeOf_19 ?_
        refine lv_iload_n hx hb dX3_placeOf_22 rfl (lv_at hl 1 rfl) ?_
        obtain ⟨g_4, hf⟩ := x_gu hf
        refine va_iald hx hb hK hP 3 0 rfl rfl (x_gdin g_4) dX3_placeOf_23 ?_
        refine lv_istore_n (lv' := [(3, .int (g3_15 (Int32.toNatClampNeg p1))), (0, .ref o3), (1, .int p1), (2, .int p2)]) hx hb dX3_placeOf_24 rfl hl (by decide) rfl (fun ls hl => ?_)
        refine lv_iload_n hx hb dX3_placeOf_25 rfl (lv_at hl 3 rfl) ?_
        refine lv_aload_n hx hb dX3_placeOf_26 rfl (lv_at hl 1 rfl) ?_
        refine va_get (D := (dC, dI)) (ci := 3) (v := .int v3_2) (C := RX3) (T := TX3) (N := 17) hx hb hts i_X3_placeOf_X3 hown hK hP 0 rfl rfl 2 (by decide) k_3 (fun _ h9 => h9) rfl dX3_placeOf_27 ?_
        refine lv_aload_n hx hb dX3_placeOf_30 rfl (lv_at hl 1 rfl) ?_
        refine va_get (D := (dC, dI)) (ci := 3) (v := .ref a3_8) (C := RX3) (T := TX3) (N := 17) hx hb hts i_X3_placeOf_X3 hown hK hP 0 rfl rfl 8 (by decide) k_4 (fun _ h9 => h9) rfl dX3_placeOf_31 ?_
        refine lv_iload_n hx hb dX3_placeOf_34 rfl (lv_at hl 0 rfl) ?_
        obtain ⟨g_5, hf⟩ := x_gu hf
        refine va_iald hx hb hK hP 2 0 rfl rfl (x_gdin g_5) dX3_placeOf_35 ?_
        refine lv_iadd hx hb dX3_placeOf_36 ?_
        refine lv_icmp_ge (tgt := 56) hx hb dX3_placeOf_37 (by decide) (fun c_6 => ?_) (fun c_6 => ?_)
        · replace hf := x_ip c_6 hf
          refine lv_iconst (v := (-1)) hx hb dX3_placeOf_56 (by decide) ?_
          obtain rfl := Option.some.inj hf
          exact W.iret hx hb hr (fun t ht hW => ⟨⟨_, (), rfl, rfl, trivial⟩, hS.F ht⟩) hS.2.2 dX3_placeOf_57
        · replace hf := x_in c_6 hf
          refine lv_aload_n hx hb dX3_placeOf_40 rfl (lv_at hl 1 rfl) ?_
          refine va_get (D := (dC, dI)) (ci := 3) (v := .ref a3_5) (C := RX3) (T := TX3) (N := 17) hx hb hts i_X3_placeOf_X3 hown hK hP 0 rfl rfl 5 (by decide) k_5 (fun _ h9 => h9) rfl dX3_placeOf_41 ?_
          refine lv_iload_n hx hb dX3_placeOf_44 rfl (lv_at hl 0 rfl) ?_
          refine lv_aload_n hx hb dX3_placeOf_45 rfl (lv_at hl 1 rfl) ?_
          refine va_get (D := (dC, dI)) (ci := 3) (v := .int v3_3) (C := RX3) (T := TX3) (N := 17) hx hb hts i_X3_placeOf_X3 hown hK hP 0 rfl rfl 3 (by decide) k_6 (fun _ h9 => h9) rfl dX3_placeOf_46 ?_
          refine lv_imul hx hb dX3_placeOf_49 ?_
          refine lv_iload_n hx hb dX3_placeOf_50 rfl (lv_at hl 3 rfl) ?_
          refine lv_iadd hx hb dX3_placeOf_51 ?_
          obtain ⟨g_7, hf⟩ := x_gu hf
          refine va_iald hx hb hK hP 1 0 rfl rfl (x_gdin g_7) dX3_placeOf_52 ?_
          refine lv_goto (tgt := 57) hx hb dX3_placeOf_53 (by decide) ?_
          obtain rfl := Option.some.inj hf
          exact W.iret hx hb hr (fun t ht hW => ⟨⟨_, (), rfl, rfl, trivial⟩, hS.F ht⟩) hS.2.2 dX3_placeOf_57
      · replace hf := x_in c_3 hf
        refine lv_iconst (v := (-1)) hx hb dX3_placeOf_16 (by decide) ?_
        obtain rfl := Option.some.inj hf
        exact W.iret hx hb hr (fun t ht hW => ⟨⟨_, (), rfl, rfl, trivial⟩, hS.F ht⟩) hS.2.2 dX3_placeOf_17

def f_X5_isWide (p0 : Int32) : Option (Int32) := if p0 = (3 : Int32) then some 1 else if p0 = (4 : Int32) then some 1 else some 0
set_option maxHeartbeats 4000000 in
set_option maxRecDepth 100000 in
theorem c_X5_isWide (l : Launch) (dC : Nat → ClassId) (dI : Nat → Nat → Nat) (cyI cyZ cyJ : ClassId) (sz : Nat) (p0 : Int32) (R : Int32) (hf : f_X5_isWide p0 = some R) : Met l yX5_isWide wsX5_isWide ({ frames := 0, cells := 0, slots := 0, locals := 0 }) (va_Pc [.int p0] (x_Pre (dC, dI) (x_T cyI cyZ cyJ) [] sz)) (va_Qi (fun (r : Int32) (_ : Unit) => r = R ∧ x_nb r) (fun _ _ => True) (x_new sz)) 0 0 (x_new sz) := by
  refine Met.ofW (cc := cX5_isWide) (maxL := 1) (ret := (some .boolean)) (by decide) rfl ?_
  intro p e s m args below meth c s₁ B hml hv
  obtain ⟨rfl, hsz, hP, hK, hN⟩ := hv
  have hx := B.exec
  have hb := B.bytes
  have hr := B.returns
  have hts := atoms_spec (ws := wsX5_isWide) B.pre
  have hown : s.vm.findClass RX5 = some m.cls := findClass_of_methodNamed B.named
  subst hsz
  have hA : ∀ q : Nat, s.heap.size ≤ q → x_new s.heap.size q := fun _ h => h
  have hS : va_S (x_new s.heap.size) s.heap s.heap [] := va_S.rf
  have hP : va_P (dC, dI) vwCl [] s.heap := hP
  have hl := lv_entry ([.int p0]) (n := 1) (Nat.le_of_ble_eq_true rfl)
  rw [lg_entry_eq]
  generalize (lg_sl ([.int p0]) ++ List.replicate (1 - (lg_sl ([.int p0])).length) Slot.unset).toArray = ls at hl ⊢
  have hl : lv_has ls 1 [(0, .int p0)] := hl
  obtain ⟨H, hH⟩ : ∃ z, z = s.heap := ⟨_, rfl⟩
  refine x_here hH ?_
  have hP : va_P (dC, dI) vwCl [] H := by rw [hH]; exact hP
  have hS : va_S (x_new s.heap.size) s.heap H [] := by rw [hH]; exact va_S.rf
  clear hH
  obtain ⟨locs, hlo⟩ : ∃ z : List Loc, z = [] := ⟨_, rfl⟩
  refine x_herl hlo ?_
  have hS : va_S (x_new s.heap.size) s.heap H locs := by rw [hlo]; exact hS
  clear hlo
  unfold f_X5_isWide at hf
  refine lv_iload_n hx hb dX5_isWide_0 rfl (lv_at hl 0 rfl) ?_
  refine lv_iconst (v := 3) hx hb dX5_isWide_1 (by decide) ?_
  refine lv_icmp_eq (tgt := 10) hx hb dX5_isWide_2 (by decide) (fun c_1 => ?_) (fun c_1 => ?_)
  · replace hf := x_ip c_1 hf
    refine lv_iconst (v := 1) hx hb dX5_isWide_10 (by decide) ?_
    refine lv_goto (tgt := 15) hx hb dX5_isWide_11 (by decide) ?_
    obtain rfl := Option.some.inj hf
    exact W.zret (ty := .boolean) hx hb hr rfl (fun t ht hW => ⟨⟨_, (), rfl, ⟨rfl, rfl⟩, trivial⟩, hS.F ht⟩) hS.2.2 dX5_isWide_15
  · replace hf := x_in c_1 hf
    refine lv_iload_n hx hb dX5_isWide_5 rfl (lv_at hl 0 rfl) ?_
    refine lv_iconst (v := 4) hx hb dX5_isWide_6 (by decide) ?_
    refine lv_icmp_ne (tgt := 14) hx hb dX5_isWide_7 (by decide) (fun c_2 => ?_) (fun c_2 => ?_)
    · replace hf := x_in c_2 hf
      refine lv_iconst (v := 0) hx hb dX5_isWide_14 (by decide) ?_
      obtain rfl := Option.some.inj hf
      exact W.zret (ty := .boolean) hx hb hr rfl (fun t ht hW => ⟨⟨_, (), rfl, ⟨rfl, rfl⟩, trivial⟩, hS.F ht⟩) hS.2.2 dX5_isWide_15
    · replace hf := x_ip c_2 hf
      refine lv_iconst (v := 1) hx hb dX5_isWide_10 (by decide) ?_
      refine lv_goto (tgt := 15) hx hb dX5_isWide_11 (by decide) ?_
      obtain rfl := Option.some.inj hf
      exact W.zret (ty := .boolean) hx hb hr rfl (fun t ht hW => ⟨⟨_, (), rfl, ⟨rfl, rfl⟩, trivial⟩, hS.F ht⟩) hS.2.2 dX5_isWide_15

def f_X5_isAnyReference (p0 : Int32) : Option (Int32) := if (p0 &&& 15) = (5 : Int32) then some 1 else if (p0 &&& 15) = (6 : Int32) then some 1 else if (p0 &&& 15) = (8 : Int32) then some 1 else if (p0 &&& 15) = (9 : Int32) then some 1 else some 0
set_option maxHeartbeats 4000000 in
set_option maxRecDepth 100000 in
theorem c_X5_isAnyReference (l : Launch) (dC : Nat → ClassId) (dI : Nat → Nat → Nat) (cyI cyZ cyJ : ClassId) (sz : Nat) (p0 : Int32) (R : Int32) (hf : f_X5_isAnyReference p0 = some R) : Met l yX5_isAnyReference wsX5_isAnyReference ({ frames := 0, cells := 0, slots := 0, locals := 0 }) (va_Pc [.int p0] (x_Pre (dC, dI) (x_T cyI cyZ cyJ) [] sz)) (va_Qi (fun (r : Int32) (_ : Unit) => r = R ∧ x_nb r) (fun _ _ => True) (x_new sz)) 0 0 (x_new sz) := by
  refine Met.ofW (cc := cX5_isAnyReference) (maxL := 2) (ret := (some .boolean)) (by decide) rfl ?_
  intro p e s m args below meth c s₁ B hml hv
  obtain ⟨rfl, hsz, hP, hK, hN⟩ := hv
  have hx := B.exec
  have hb := B.bytes
  have hr := B.returns
  have hts := atoms_spec (ws := wsX5_isAnyReference) B.pre
  have hown : s.vm.findClass RX5 = some m.cls := findClass_of_methodNamed B.named
  subst hsz
  have hA : ∀ q : Nat, s.heap.size ≤ q → x_new s.heap.size q := fun _ h => h
  have hS : va_S (x_new s.heap.size) s.heap s.heap [] := va_S.rf
  have hP : va_P (dC, dI) vwCl [] s.heap := hP
  have hl := lv_entry ([.int p0]) (n := 2) (Nat.le_of_ble_eq_true rfl)
  rw [lg_entry_eq]
  generalize (lg_sl ([.int p0]) ++ List.replicate (2 - (lg_sl ([.int p0])).length) Slot.unset).toArray = ls at hl ⊢
  have hl : lv_has ls 2 [(0, .int p0)] := hl
  obtain ⟨H, hH⟩ : ∃ z, z = s.heap := ⟨_, rfl⟩
  refine x_here hH ?_
  have hP : va_P (dC, dI) vwCl [] H := by rw [hH]; exact hP
  have hS : va_S (x_new s.heap.size) s.heap H [] := by rw [hH]; exact va_S.rf
  clear hH
  obtain ⟨locs, hlo⟩ : ∃ z : List Loc, z = [] := ⟨_, rfl⟩
  refine x_herl hlo ?_
  have hS : va_S (x_new s.heap.size) s.heap H locs := by rw [hlo]; exact hS
  clear hlo
  unfold f_X5_isAnyReference at hf
  refine lv_iload_n hx hb dX5_isAnyReference_0 rfl (lv_at hl 0 rfl) ?_
  refine lv_bipush (v := 15) hx hb dX5_isAnyReference_1 (by decide) ?_
  refine lv_iand hx hb dX5_isAnyReference_3 ?_
  refine lv_istore_n (lv' := [(1, .int (p0 &&& 15)), (0, .int p0)]) hx hb dX5_isAnyReference_4 rfl hl (by decide) rfl (fun ls hl => ?_)
  refine lv_iload_n hx hb dX5_isAnyReference_5 rfl (lv_at hl 0 rfl) ?_
  refine lv_iconst (v := 5) hx hb dX5_isAnyReference_6 (by decide) ?_
  refine lv_icmp_eq (tgt := 28) hx hb dX5_isAnyReference_7 (by decide) (fun c_1 => ?_) (fun c_1 => ?_)
  · replace hf := x_ip c_1 hf
    refine lv_iconst (v := 1) hx hb dX5_isAnyReference_28 (by decide) ?_
    refine lv_goto (tgt := 33) hx hb dX5_isAnyReference_29 (by decide) ?_
    obtain rfl := Option.some.inj hf
    exact W.zret (ty := .boolean) hx hb hr rfl (fun t ht hW => ⟨⟨_, (), rfl, ⟨rfl, rfl⟩, trivial⟩, hS.F ht⟩) hS.2.2 dX5_isAnyReference_33
  · replace hf := x_in c_1 hf
    refine lv_iload_n hx hb dX5_isAnyReference_10 rfl (lv_at hl 0 rfl) ?_
    refine lv_bipush (v := 6) hx hb dX5_isAnyReference_11 (by decide) ?_
    refine lv_icmp_eq (tgt := 28) hx hb dX5_isAnyReference_13 (by decide) (fun c_2 => ?_) (fun c_2 => ?_)
    · replace hf := x_ip c_2 hf
      refine lv_iconst (v := 1) hx hb dX5_isAnyReference_28 (by decide) ?_
      refine lv_goto (tgt := 33) hx hb dX5_isAnyReference_29 (by decide) ?_
      obtain rfl := Option.some.inj hf
      exact W.zret (ty := .boolean) hx hb hr rfl (fun t ht hW => ⟨⟨_, (), rfl, ⟨rfl, rfl⟩, trivial⟩, hS.F ht⟩) hS.2.2 dX5_isAnyReference_33
    · replace hf := x_in c_2 hf
      refine lv_iload_n hx hb dX5_isAnyReference_16 rfl (lv_at hl 0 rfl) ?_
      refine lv_bipush (v := 8) hx hb dX5_isAnyReference_17 (by decide) ?_
      refine lv_icmp_eq (tgt := 28) hx hb dX5_isAnyReference_19 (by decide) (fun c_3 => ?_) (fun c_3 => ?_)
      · replace hf := x_ip c_3 hf
        refine lv_iconst (v := 1) hx hb dX5_isAnyReference_28 (by decide) ?_
        refine lv_goto (tgt := 33) hx hb dX5_isAnyReference_29 (by decide) ?_
        obtain rfl := Option.some.inj hf
        exact W.zret (ty := .boolean) hx hb hr rfl (fun t ht hW => ⟨⟨_, (), rfl, ⟨rfl, rfl⟩, trivial⟩, hS.F ht⟩) hS.2.2 dX5_isAnyReference_33
      · replace hf := x_in c_3 hf
        refine lv_iload_n hx hb dX5_isAnyReference_22 rfl (lv_at hl 0 rfl) ?_
        refine lv_bipush (v := 9) hx hb dX5_isAnyReference_23 (by decide) ?_
        refine lv_icmp_ne (tgt := 32) hx hb dX5_isAnyReference_25 (by decide) (fun c_4 => ?_) (fun c_4 => ?_)
        · replace hf := x_in c_4 hf
          refine lv_iconst (v := 0) hx hb dX5_isAnyReference_32 (by decide) ?_
          obtain rfl := Option.some.inj hf
          exact W.zret (ty := .boolean) hx hb hr rfl (fun t ht hW => ⟨⟨_, (), rfl, ⟨rfl, rfl⟩, trivial⟩, hS.F ht⟩) hS.2.2 dX5_isAnyReference_33
        · replace hf := x_ip c_4 hf
          refine lv_iconst (v := 1) hx hb dX5_isAnyReference_28 (by decide) ?_
          refine lv_goto (tgt := 33) hx hb dX5_isAnyReference_29 (by decide) ?_
          obtain rfl := Option.some.inj hf
          exact W.zret (ty := .boolean) hx hb hr rfl (fun t ht hW => ⟨⟨_, (), rfl, ⟨rfl, rfl⟩, trivial⟩, hS.F ht⟩) hS.2.2 dX5_isAnyReference_33

def f_X5_localAt (v5_2 : Int32) (g5_1 : Nat → Int32) (p1 : Int32) : Option (Int32) := if p1 < (0 : Int32) then some 0 else if v5_2 ≤ p1 then some 0 else if x_gd p1 400 = true then some (g5_1 (Int32.toNatClampNeg p1)) else none
theorem i_X5_localAt_X5 : ∀ w ∈ wsX50, w ∈ wsX5_localAt := fun _ h => List.mem_cons_of_mem _ (List.mem_append_right _ h)
set_option maxHeartbeats 4000000 in
set_option maxRecDepth 100000 in
theorem c_X5_localAt (l : Launch) (dC : Nat → ClassId) (dI : Nat → Nat → Nat) (cyI cyZ cyJ : ClassId) (sz : Nat) (o5 : Nat) (o7 : Nat) (a5_1 : Nat) (v5_2 : Int32) (v5_3 : Int32) (v5_4 : Int32) (v5_5 : Int32) (v5_6 : Int32) (v5_7 : Int32) (v5_8 : Int32) (v5_9 : Int32) (g5_1 : Nat → Int32) (p1 : Int32) (R : Int32) (hf : f_X5_localAt v5_2 g5_1 p1 = some R) : Met l yX5_localAt wsX5_localAt ({ frames := 0, cells := 0, slots := 0, locals := 0 }) (va_Pc [.ref o5, .int p1] (x_Pre (dC, dI) (x_T cyI cyZ cyJ) [(o5, .inr (5, [.ref o7, .ref a5_1, .int v5_2, .int v5_3, .int v5_4, .int v5_5, .int v5_6, .int v5_7, .int v5_8, .int v5_9])), (a5_1, .inl (cyI, 400, .inl g5_1))] sz)) (va_Qi (fun (r : Int32) (_ : Unit) => r = R) (fun _ _ => True) (x_new sz)) 0 0 (x_new sz) := by
  refine Met.ofW (cc := cX5_localAt) (maxL := 2) (ret := (some .int)) (by decide) rfl ?_
  intro p e s m args below meth c s₁ B hml hv
  obtain ⟨rfl, hsz, hP, hK, hN⟩ := hv
  have hx := B.exec
  have hb := B.bytes
  have hr := B.returns
  have hts := atoms_spec (ws := wsX5_localAt) B.pre
  have hown : s.vm.findClass RX5 = some m.cls := findClass_of_methodNamed B.named
  have k_1 := hts (.fieldLink RX5 25 "FlowJudge$Places" "locals" "I") (by decide +kernel)
  have k_2 := hts (.fieldLink RX5 9 "FlowJudge$Places" "cells" "[I") (by decide +kernel)
  subst hsz
  have hA : ∀ q : Nat, s.heap.size ≤ q → x_new s.heap.size q := fun _ h => h
  have hS : va_S (x_new s.heap.size) s.heap s.heap [] := va_S.rf
  have hP : va_P (dC, dI) vwCl [(o5, .inr (5, [.ref o7, .ref a5_1, .int v5_2, .int v5_3, .int v5_4, .int v5_5, .int v5_6, .int v5_7, .int v5_8, .int v5_9])), (a5_1, .inl (cyI, 400, .inl g5_1))] s.heap := hP
  have hl := lv_entry ([.ref o5, .int p1]) (n := 2) (Nat.le_of_ble_eq_true rfl)
  rw [lg_entry_eq]
  generalize (lg_sl ([.ref o5, .int p1]) ++ List.replicate (2 - (lg_sl ([.ref o5, .int p1])).length) Slot.unset).toArray = ls at hl ⊢
  have hl : lv_has ls 2 [(0, .ref o5), (1, .int p1)] := hl
  obtain ⟨H, hH⟩ : ∃ z, z = s.heap := ⟨_, rfl⟩
  refine x_here hH ?_
  have hP : va_P (dC, dI) vwCl [(o5, .inr (5, [.ref o7, .ref a5_1, .int v5_2, .int v5_3, .int v5_4, .int v5_5, .int v5_6, .int v5_7, .int v5_8, .int v5_9])), (a5_1, .inl (cyI, 400, .inl g5_1))] H := by rw [hH]; exact hP
  have hS : va_S (x_new s.heap.size) s.heap H [] := by rw [hH]; exact va_S.rf
  clear hH
  obtain ⟨locs, hlo⟩ : ∃ z : List Loc, z = [] := ⟨_, rfl⟩
  refine x_herl hlo ?_
  have hS : va_S (x_new s.heap.size) s.heap H locs := by rw [hlo]; exact hS
  clear hlo
  unfold f_X5_localAt at hf
  refine lv_iload_n hx hb dX5_localAt_0 rfl (lv_at hl 1 rfl) ?_
  refine lv_if_lt (tgt := 21) hx hb dX5_localAt_1 (by decide) (fun c_1 => ?_) (fun c_1 => ?_)
  · replace hf := x_ip c_1 hf
    refine lv_iconst (v := 0) hx hb dX5_localAt_21 (by decide) ?_
    obtain rfl := Option.some.inj hf
    exact W.iret hx hb hr (fun t ht hW => ⟨⟨_, (), rfl, rfl, trivial⟩, hS.F ht⟩) hS.2.2 dX5_localAt_22
  · replace hf := x_in c_1 hf
    refine lv_iload_n hx hb dX5_localAt_4 rfl (lv_at hl 1 rfl) ?_
    refine lv_aload_n hx hb dX5_localAt_5 rfl (lv_at hl 0 rfl) ?_
    refine va_get (D := (dC, dI)) (ci := 5) (v := .int v5_2) (C := RX5) (T := TX5) (N := 10) hx hb hts i_X5_localAt_X5 hown hK hP 0 rfl rfl 2 (by decide) k_1 (fun _ h9 => h9) rfl dX5_localAt_6 ?_
    refine lv_icmp_ge (tgt := 21) hx hb dX5_localAt_9 (by decide) (fun c_2 => ?_) (fun c_2 => ?_)
    · replace hf := x_ip c_2 hf
      refine lv_iconst (v := 0) hx hb dX5_localAt_21 (by decide) ?_
      obtain rfl := Option.some.inj hf
      exact W.iret hx hb hr (fun t ht hW => ⟨⟨_, (), rfl, rfl, trivial⟩, hS.F ht⟩) hS.2.2 dX5_localAt_22
    · replace hf := x_in c_2 hf
      refine lv_aload_n hx hb dX5_localAt_12 rfl (lv_at hl 0 rfl) ?_
      refine va_get (D := (dC, dI)) (ci := 5) (v := .ref a5_1) (C := RX5) (T := TX5) (N := 10) hx hb hts i_X5_localAt_X5 hown hK hP 0 rfl rfl 1 (by decide) k_2 (fun _ h9 => h9) rfl dX5_localAt_13 ?_
      refine lv_iload_n hx hb dX5_localAt_16 rfl (lv_at hl 1 rfl) ?_
      obtain ⟨g_3, hf⟩ := x_gu hf
      refine va_iald hx hb hK hP 1 0 rfl rfl (x_gdin g_3) dX5_localAt_17 ?_
      refine lv_goto (tgt := 22) hx hb dX5_localAt_18 (by decide) ?_
      obtain rfl := Option.some.inj hf
      exact W.iret hx hb hr (fun t ht hW => ⟨⟨_, (), rfl, rfl, trivial⟩, hS.F ht⟩) hS.2.2 dX5_localAt_22

def f_X5_setLocal (v5_2 : Int32) (v5_6 : Int32) (v5_7 : Int32) (g5_1 : Nat → Int32) (p1 : Int32) (p2 : Int32) : Option (Int32 × Int32 × (Nat → Int32)) := (f_X5_isWide p2) >>= (fun r_1 => if r_1 = (0 : Int32) then if p1 < (0 : Int32) then some (1, v5_7, g5_1) else if p1 < v5_2 then if p1 ≤ (0 : Int32) then if v5_2 ≤ (p1 + (1 : Int32)) then if x_gd p1 400 = true then if p1 ≤ p1 then some (v5_6, 1, upd g5_1 (Int32.toNatClampNeg p1) p2) else if x_gd p1 400 = true then some (v5_6, 1, upd (upd g5_1 (Int32.toNatClampNeg p1) p2) (Int32.toNatClampNeg p1) 7) else none else none else if x_gd (p1 + (1 : Int32)) 400 = true then if (g5_1 (Int32.toNatClampNeg (p1 + (1 : Int32)))) = (7 : Int32) then if x_gd (p1 + (1 : Int32)) 400 = true then if x_gd p1 400 = true then if p1 ≤ p1 then some (v5_6, 1, upd (upd g5_1 (Int32.toNatClampNeg (p1 + (1 : Int32))) 0) (Int32.toNatClampNeg p1) p2) else if x_gd p1 400 = true then some (v5_6, 1, upd (upd (upd g5_1 (Int32.toNatClampNeg (p1 + (1 : Int32))) 0) (Int32.toNatClampNeg p1) p2) (Int32.toNatClampNeg p1) 7) else none else none else none else if x_gd p1 400 = true then if p1 ≤ p1 then some (v5_6, 1, upd g5_1 (Int32.toNatClampNeg p1) p2) else if x_gd p1 400 = true then some (v5_6, 1, upd (upd g5_1 (Int32.toNatClampNeg p1) p2) (Int32.toNatClampNeg p1) 7) else none else none else none else if x_gd p1 400 = true then if (g5_1 (Int32.toNatClampNeg p1)) = (7 : Int32) then if x_gd (p1 - (1 : Int32)) 400 = true then if v5_2 ≤ (p1 + (1 : Int32)) then if x_gd p1 400 = true then if p1 ≤ p1 then some (v5_6, 1, upd (upd g5_1 (Int32.toNatClampNeg (p1 - (1 : Int32))) 0) (Int32.toNatClampNeg p1) p2) else if x_gd p1 400 = true then some (v5_6, 1, upd (upd (upd g5_1 (Int32.toNatClampNeg (p1 - (1 : Int32))) 0) (Int32.toNatClampNeg p1) p2) (Int32.toNatClampNeg p1) 7) else none else none else if x_gd (p1 + (1 : Int32)) 400 = true then if ((upd g5_1 (Int32.toNatClampNeg (p1 - (1 : Int32))) 0) (Int32.toNatClampNeg (p1 + (1 : Int32)))) = (7 : Int32) then if x_gd (p1 + (1 : Int32)) 400 = true then if x_gd p1 400 = true then if p1 ≤ p1 then some (v5_6, 1, upd (upd (upd g5_1 (Int32.toNatClampNeg (p1 - (1 : Int32))) 0) (Int32.toNatClampNeg (p1 + (1 : Int32))) 0) (Int32.toNatClampNeg p1) p2) else if x_gd p1 400 = true then some (v5_6, 1, upd (upd (upd (upd g5_1 (Int32.toNatClampNeg (p1 - (1 : Int32))) 0) (Int32.toNatClampNeg (p1 + (1 : Int32))) 0) (Int32.toNatClampNeg p1) p2) (Int32.toNatClampNeg p1) 7) else none else none else none else if x_gd p1 400 = true then if p1 ≤ p1 then some (v5_6, 1, upd (upd g5_1 (Int32.toNatClampNeg (p1 - (1 : Int32))) 0) (Int32.toNatClampNeg p1) p2) else if x_gd p1 400 = true then some (v5_6, 1, upd (upd (upd g5_1 (Int32.toNatClampNeg (p1 - (1 : Int32))) 0) (Int32.toNatClampNeg p1) p2) (Int32.toNatClampNeg p1) 7) else none else none else none else none else if v5_2 ≤ (p1 + (1 : Int32)) then if x_gd p1 400 = true then if p1 ≤ p1 then some (v5_6, 1, upd g5_1 (Int32.toNatClampNeg p1) p2) else if x_gd p1 400 = true then some (v5_6, 1, upd (upd g5_1 (Int32.toNatClampNeg p1) p2) (Int32.toNatClampNeg p1) 7) else none else none else if x_gd (p1 + (1 : Int32)) 400 = true then if (g5_1 (Int32.toNatClampNeg (p1 + (1 : Int32)))) = (7 : Int32) then if x_gd (p1 + (1 : Int32)) 400 = true then if x_gd p1 400 = true then if p1 ≤ p1 then some (v5_6, 1, upd (upd g5_1 (Int32.toNatClampNeg (p1 + (1 : Int32))) 0) (Int32.toNatClampNeg p1) p2) else if x_gd p1 400 = true then some (v5_6, 1, upd (upd (upd g5_1 (Int32.toNatClampNeg (p1 + (1 : Int32))) 0) (Int32.toNatClampNeg p1) p2) (Int32.toNatClampNeg p1) 7) else none else none else none else if x_gd p1 400 = true then if p1 ≤ p1 then some (v5_6, 1, upd g5_1 (Int32.toNatClampNeg p1) p2) else if x_gd p1 400 = true then some (v5_6, 1, upd (upd g5_1 (Int32.toNatClampNeg p1) p2) (Int32.toNatClampNeg p1) 7) else none else none else none else none else some (1, v5_7, g5_1) else if p1 < (0 : Int32) then some (1, v5_7, g5_1) else if (p1 + (1 : Int32)) < v5_2 then if p1 ≤ (0 : Int32) then if v5_2 ≤ ((p1 + (1 : Int32)) + (1 : Int32)) then if x_gd p1 400 = true then if (p1 + (1 : Int32)) ≤ p1 then some (v5_6, 1, upd g5_1 (Int32.toNatClampNeg p1) p2) else if x_gd (p1 + (1 : Int32)) 400 = true then some (v5_6, 1, upd (upd g5_1 (Int32.toNatClampNeg p1) p2) (Int32.toNatClampNeg (p1 + (1 : Int32))) 7) else none else none else if x_gd ((p1 + (1 : Int32)) + (1 : Int32)) 400 = true then if (g5_1 (Int32.toNatClampNeg ((p1 + (1 : Int32)) + (1 : Int32)))) = (7 : Int32) then if x_gd ((p1 + (1 : Int32)) + (1 : Int32)) 400 = true then if x_gd p1 400 = true then if (p1 + (1 : Int32)) ≤ p1 then some (v5_6, 1, upd (upd g5_1 (Int32.toNatClampNeg ((p1 + (1 : Int32)) + (1 : Int32))) 0) (Int32.toNatClampNeg p1) p2) else if x_gd (p1 + (1 : Int32)) 400 = true then some (v5_6, 1, upd (upd (upd g5_1 (Int32.toNatClampNeg ((p1 + (1 : Int32)) + (1 : Int32))) 0) (Int32.toNatClampNeg p1) p2) (Int32.toNatClampNeg (p1 + (1 : Int32))) 7) else none else none else none else if x_gd p1 400 = true then if (p1 + (1 : Int32)) ≤ p1 then some (v5_6, 1, upd g5_1 (Int32.toNatClampNeg p1) p2) else if x_gd (p1 + (1 : Int32)) 400 = true then some (v5_6, 1, upd (upd g5_1 (Int32.toNatClampNeg p1) p2) (Int32.toNatClampNeg (p1 + (1 : Int32))) 7) else none else none else none else if x_gd p1 400 = true then if (g5_1 (Int32.toNatClampNeg p1)) = (7 : Int32) then if x_gd (p1 - (1 : Int32)) 400 = true then if v5_2 ≤ ((p1 + (1 : Int32)) + (1 : Int32)) then if x_gd p1 400 = true then if (p1 + (1 : Int32)) ≤ p1 then some (v5_6, 1, upd (upd g5_1 (Int32.toNatClampNeg (p1 - (1 : Int32))) 0) (Int32.toNatClampNeg p1) p2) else if x_gd (p1 + (1 : Int32)) 400 = true then some (v5_6, 1, upd (upd (upd g5_1 (Int32.toNatClampNeg (p1 - (1 : Int32))) 0) (Int32.toNatClampNeg p1) p2) (Int32.toNatClampNeg (p1 + (1 : Int32))) 7) else none else none else if x_gd ((p1 + (1 : Int32)) + (1 : Int32)) 400 = true then if ((upd g5_1 (Int32.toNatClampNeg (p1 - (1 : Int32))) 0) (Int32.toNatClampNeg ((p1 + (1 : Int32)) + (1 : Int32)))) = (7 : Int32) then if x_gd ((p1 + (1 : Int32)) + (1 : Int32)) 400 = true then if x_gd p1 400 = true then if (p1 + (1 : Int32)) ≤ p1 then some (v5_6, 1, upd (upd (upd g5_1 (Int32.toNatClampNeg (p1 - (1 : Int32))) 0) (Int32.toNatClampNeg ((p1 + (1 : Int32)) + (1 : Int32))) 0) (Int32.toNatClampNeg p1) p2) else if x_gd (p1 + (1 : Int32)) 400 = true then some (v5_6, 1, upd (upd (upd (upd g5_1 (Int32.toNatClampNeg (p1 - (1 : Int32))) 0) (Int32.toNatClampNeg ((p1 + (1 : Int32)) + (1 : Int32))) 0) (Int32.toNatClampNeg p1) p2) (Int32.toNatClampNeg (p1 + (1 : Int32))) 7) else none else none else none else if x_gd p1 400 = true then if (p1 + (1 : Int32)) ≤ p1 then some (v5_6, 1, upd (upd g5_1 (Int32.toNatClampNeg (p1 - (1 : Int32))) 0) (Int32.toNatClampNeg p1) p2) else if x_gd (p1 + (1 : Int32)) 400 = true then some (v5_6, 1, upd (upd (upd g5_1 (Int32.toNatClampNeg (p1 - (1 : Int32))) 0) (Int32.toNatClampNeg p1) p2) (Int32.toNatClampNeg (p1 + (1 : Int32))) 7) else none else none else none else none else if v5_2 ≤ ((p1 + (1 : Int32)) + (1 : Int32)) then if x_gd p1 400 = true then if (p1 + (1 : Int32)) ≤ p1 then some (v5_6, 1, upd g5_1 (Int32.toNatClampNeg p1) p2) else if x_gd (p1 + (1 : Int32)) 400 = true then some (v5_6, 1, upd (upd g5_1 (Int32.toNatClampNeg p1) p2) (Int32.toNatClampNeg (p1 + (1 : Int32))) 7) else none else none else if x_gd ((p1 + (1 : Int32)) + (1 : Int32)) 400 = true then if (g5_1 (Int32.toNatClampNeg ((p1 + (1 : Int32)) + (1 : Int32)))) = (7 : Int32) then if x_gd ((p1 + (1 : Int32)) + (1 : Int32)) 400 = true then if x_gd p1 400 = true then if (p1 + (1 : Int32)) ≤ p1 then some (v5_6, 1, upd (upd g5_1 (Int32.toNatClampNeg ((p1 + (1 : Int32)) + (1 : Int32))) 0) (Int32.toNatClampNeg p1) p2) else if x_gd (p1 + (1 : Int32)) 400 = true then some (v5_6, 1, upd (upd (upd g5_1 (Int32.toNatClampNeg ((p1 + (1 : Int32)) + (1 : Int32))) 0) (Int32.toNatClampNeg p1) p2) (Int32.toNatClampNeg (p1 + (1 : Int32))) 7) else none else none else none else if x_gd p1 400 = true then if (p1 + (1 : Int32)) ≤ p1 then some (v5_6, 1, upd g5_1 (Int32.toNatClampNeg p1) p2) else if x_gd (p1 + (1 : Int32)) 400 = true then some (v5_6, 1, upd (upd g5_1 (Int32.toNatClampNeg p1) p2) (Int32.toNatClampNeg (p1 + (1 : Int32))) 7) else none else none else none else none else some (1, v5_7, g5_1))
theorem i_X5_setLocal_X5 : ∀ w ∈ wsX50, w ∈ wsX5_setLocal := fun _ h => List.mem_cons_of_mem _ (List.mem_append_right _ h)
set_option maxHeartbeats 4000000 in
set_option maxRecDepth 100000 in
theorem c_X5_setLocal (l : Launch) (dC : Nat → ClassId) (dI : Nat → Nat → Nat) (cyI cyZ cyJ : ClassId) (sz : Nat) (o5 : Nat) (o7 : Nat) (a5_1 : Nat) (v5_2 : Int32) (v5_3 : Int32) (v5_4 : Int32) (v5_5 : Int32) (v5_6 : Int32) (v5_7 : Int32) (v5_8 : Int32) (v5_9 : Int32) (g5_1 : Nat → Int32) (p1 : Int32) (p2 : Int32) (R : Int32 × Int32 × (Nat → Int32)) (hf : f_X5_setLocal v5_2 v5_6 v5_7 g5_1 p1 p2 = some R) : Met l yX5_setLocal wsX5_setLocal ({ frames := 1, cells := 0, slots := 0, locals := 20 }) (va_Pc [.ref o5, .int p1, .int p2] (x_PreD (dC, dI) (x_T cyI cyZ cyJ) [(o5, .inr (5, [.ref o7, .ref a5_1, .int v5_2, .int v5_3, .int v5_4, .int v5_5, .int v5_6, .int v5_7, .int v5_8, .int v5_9])), (a5_1, .inl (cyI, 400, .inl g5_1))] sz)) (va_Qv (fun _ : Unit => True) (fun (_ : Unit) (t : State) => va_P (dC, dI) vwCl [(o5, .inr (5, [.ref o7, .ref a5_1, .int v5_2, .int v5_3, .int v5_4, .int v5_5, .int (R.1), .int (R.2.1), .int v5_8, .int v5_9])), (a5_1, .inl (cyI, 400, .inl R.2.2))] t.heap ∧ va_K (dC, dI) vwCl (x_T cyI cyZ cyJ) t ∧ va_D (va_A [(o5, .inr (5, [.ref o7, .ref a5_1, .int v5_2, .int v5_3, .int v5_4, .int v5_5, .int v5_6, .int v5_7, .int v5_8, .int v5_9])), (a5_1, .inl (cyI, 400, .inl g5_1))] sz) [(o5, .inr (5, [.ref o7, .ref a5_1, .int v5_2, .int v5_3, .int v5_4, .int v5_5, .int (R.1), .int (R.2.1), .int v5_8, .int v5_9])), (a5_1, .inl (cyI, 400, .inl R.2.2))]) (va_A [(o5, .inr (5, [.ref o7, .ref a5_1, .int v5_2, .int v5_3, .int v5_4, .int v5_5, .int v5_6, .int v5_7, .int v5_8, .int v5_9])), (a5_1, .inl (cyI, 400, .inl g5_1))] sz)) 0 0 (va_A [(o5, .inr (5, [.ref o7, .ref a5_1, .int v5_2, .int v5_3, .int v5_4, .int v5_5, .int v5_6, .int v5_7, .int v5_8, .int v5_9])), (a5_1, .inl (cyI, 400, .inl g5_1))] sz) := by
  refine Met.ofW (cc := cX5_setLocal) (maxL := 4) (ret := none) (by decide) rfl ?_
  intro p e s m args below meth c s₁ B hml hv
  obtain ⟨rfl, ⟨hsz, hP, hK, hN⟩, hD0⟩ := hv
  have hx := B.exec
  have hb := B.bytes
  have hr := B.returns
  have hts := atoms_spec (ws := wsX5_setLocal) B.pre
  have hown : s.vm.findClass RX5 = some m.cls := findClass_of_methodNamed B.named
  have k_1 := hts (.fieldLink RX5 38 "FlowJudge$Places" "refused" "Z") (by decide +kernel)
  have k_2 := hts (.fieldLink RX5 25 "FlowJudge$Places" "locals" "I") (by decide +kernel)
  have k_3 := hts (.fieldLink RX5 9 "FlowJudge$Places" "cells" "[I") (by decide +kernel)
  have k_4 := hts (.fieldLink RX5 80 "FlowJudge$Places" "moved" "Z") (by decide +kernel)
  subst hsz
  have hD := hD0.self (sz := s.heap.size)
  generalize hAe : va_A [(o5, .inr (5, [.ref o7, .ref a5_1, .int v5_2, .int v5_3, .int v5_4, .int v5_5, .int v5_6, .int v5_7, .int v5_8, .int v5_9])), (a5_1, .inl (cyI, 400, .inl g5_1))] s.heap.size = A at hD ⊢
  have hA : ∀ q : Nat, s.heap.size ≤ q → A q := fun q h => by rw [← hAe]; exact Or.inr h
  have hP : va_P (dC, dI) vwCl [(o5, .inr (5, [.ref o7, .ref a5_1, .int v5_2, .int v5_3, .int v5_4, .int v5_5, .int v5_6, .int v5_7, .int v5_8, .int v5_9])), (a5_1, .inl (cyI, 400, .inl g5_1))] s.heap := hP
  have hl := lv_entry ([.ref o5, .int p1, .int p2]) (n := 4) (Nat.le_of_ble_eq_true rfl)
  rw [lg_entry_eq]
  generalize (lg_sl ([.ref o5, .int p1, .int p2]) ++ List.replicate (4 - (lg_sl ([.ref o5, .int p1, .int p2])).length) Slot.unset).toArray = ls at hl ⊢
  have hl : lv_has ls 4 [(0, .ref o5), (1, .int p1), (2, .int p2)] := hl
  obtain ⟨H, hH⟩ : ∃ z, z = s.heap := ⟨_, rfl⟩
  refine x_here hH ?_
  have hP : va_P (dC, dI) vwCl [(o5, .inr (5, [.ref o7, .ref a5_1, .int v5_2, .int v5_3, .int v5_4, .int v5_5, .int v5_6, .int v5_7, .int v5_8, .int v5_9])), (a5_1, .inl (cyI, 400, .inl g5_1))] H := by rw [hH]; exact hP
  have hS : va_S A s.heap H [] := by rw [hH]; exact va_S.rf
  clear hH
  obtain ⟨locs, hlo⟩ : ∃ z : List Loc, z = [] := ⟨_, rfl⟩
  refine x_herl hlo ?_
  have hS : va_S A s.heap H locs := by rw [hlo]; exact hS
  clear hlo
  unfold f_X5_setLocal at hf
  refine lv_iload_n hx hb dX5_setLocal_0 rfl (lv_at hl 2 rfl) ?_
  obtain ⟨r_1, h_1, hf⟩ := x_bi hf
  have hPc := hP.sub (ws' := []) [] rfl
  refine va_calli (va_runS (As := [.int p2]) (rest := []) ⟨hx, hb, hml, hown, hts⟩ (c_X5_isWide l dC dI cyI cyZ cyJ H.size p2 r_1 h_1) (va_cwS 1 hts gX5_setLocal_X5_isWide rfl rfl rfl (by decide +kernel) ⟨Nat.le_of_ble_eq_true rfl, Nat.le_of_ble_eq_true rfl⟩) (x_pS hN hK hPc) rfl rfl hl.1 rfl (lv_room (Nat.le_of_ble_eq_true rfl)) dX5_setLocal_1 ⟨Nat.le_of_ble_eq_true rfl, Nat.le_of_ble_eq_true rfl⟩) hS x_nA (x_nf hA hS) (fun q_1 u t H1 locs ht hvm hw hB hz1 hk1 hS => ?_)
  have hP := x_kp hP hk1
  clear ht hvm hB hz1 hk1 t u hPc
  generalize H1 = H at hP hS ⊢
  obtain ⟨hw, b_1⟩ := hw
  obtain rfl := hw.symm
  refine lv_if_eq (tgt := 13) hx hb dX5_setLocal_4 (by decide) (fun c_2 => ?_) (fun c_2 => ?_)
  · replace hf := x_ip c_2 hf
    refine lv_iload_n hx hb dX5_setLocal_13 rfl (lv_at hl 1 rfl) ?_
    refine lv_istore_n (lv' := [(3, .int p1), (0, .ref o5), (1, .int p1), (2, .int p2)]) hx hb dX5_setLocal_14 rfl hl (by decide) rfl (fun ls hl => ?_)
    refine lv_iload_n hx hb dX5_setLocal_15 rfl (lv_at hl 2 rfl) ?_
    refine lv_if_lt (tgt := 27) hx hb dX5_setLocal_16 (by decide) (fun c_3 => ?_) (fun c_3 => ?_)
    · replace hf := x_ip c_3 hf
      refine lv_aload_n hx hb dX5_setLocal_27 rfl (lv_at hl 1 rfl) ?_
      refine lv_iconst (v := 1) hx hb dX5_setLocal_28 (by decide) ?_
      refine va_put (D := (dC, dI)) (ci := 5) (v := .int 1) (ty := .boolean) (C := RX5) (T := TX5) (N := 10) hx hb hts i_X5_setLocal_X5 tyX5 tyX5_ok nmX5 hown hK hP hD hS 0 rfl rfl 6 (by decide) k_1 (fun _ h9 => h9) rfl (by decide +kernel) rfl rfl (Nat.le_of_ble_eq_true rfl) dX5_setLocal_29 (fun H locs hP hD hS => ?_)
      have hP : va_P (dC, dI) vwCl [(o5, .inr (5, [.ref o7, .ref a5_1, .int v5_2, .int v5_3, .int v5_4, .int v5_5, .int 1, .int v5_7, .int v5_8, .int v5_9])), (a5_1, .inl (cyI, 400, .inl g5_1))] H := hP
      have hD : va_D A [(o5, .inr (5, [.ref o7, .ref a5_1, .int v5_2, .int v5_3, .int v5_4, .int v5_5, .int 1, .int v5_7, .int v5_8, .int v5_9])), (a5_1, .inl (cyI, 400, .inl g5_1))] := hD
      obtain rfl := Option.some.inj hf
      have hP9 := hP.sub (ws' := [(o5, .inr (5, [.ref o7, .ref a5_1, .int v5_2, .int v5_3, .int v5_4, .int v5_5, .int 1, .int v5_7, .int v5_8, .int v5_9])), (a5_1, .inl (cyI, 400, .inl g5_1))]) [0, 1] rfl
      have hD9 := hD.sub (ws' := [(o5, .inr (5, [.ref o7, .ref a5_1, .int v5_2, .int v5_3, .int v5_4, .int v5_5, .int 1, .int v5_7, .int v5_8, .int v5_9])), (a5_1, .inl (cyI, 400, .inl g5_1))]) [0, 1] (by decide) rfl
      exact W.vret hx hb hr (fun t ht hW => ⟨⟨(), rfl, trivial, by rw [ht]; exact hP9, va_K.moved hW.alike hK, hD9⟩, hS.F ht⟩) hS.2.2 dX5_setLocal_32
    · replace hf := x_in c_3 hf
      refine lv_iload_n hx hb dX5_setLocal_19 rfl (lv_at hl 0 rfl) ?_
      refine lv_aload_n hx hb dX5_setLocal_20 rfl (lv_at hl 1 rfl) ?_
      refine va_get (D := (dC, dI)) (ci := 5) (v := .int v5_2) (C := RX5) (T := TX5) (N := 10) hx hb hts i_X5_setLocal_X5 hown hK hP 0 rfl rfl 2 (by decide) k_2 (fun _ h9 => h9) rfl dX5_setLocal_21 ?_
      refine lv_icmp_lt (tgt := 33) hx hb dX5_setLocal_24 (by decide) (fun c_4 => ?_) (fun c_4 => ?_)
      · replace hf := x_ip c_4 hf
        refine lv_iload_n hx hb dX5_setLocal_33 rfl (lv_at hl 2 rfl) ?_
        refine lv_if_le (tgt := 57) hx hb dX5_setLocal_34 (by decide) (fun c_5 => ?_) (fun c_5 => ?_)
        · replace hf := x_ip c_5 hf
          refine lv_iload_n hx hb dX5_setLocal_57 rfl (lv_at hl 0 rfl) ?_
          refine lv_iconst (v := 1) hx hb dX5_setLocal_58 (by decide) ?_
          refine lv_iadd hx hb dX5_setLocal_59 ?_
          refine lv_aload_n hx hb dX5_setLocal_60 rfl (lv_at hl 1 rfl) ?_
          refine va_get (D := (dC, dI)) (ci := 5) (v := .int v5_2) (C := RX5) (T := TX5) (N := 10) hx hb hts i_X5_setLocal_X5 hown hK hP 0 rfl rfl 2 (by decide) k_2 (fun _ h9 => h9) rfl dX5_setLocal_61 ?_
          refine lv_icmp_ge (tgt := 89) hx hb dX5_setLocal_64 (by decide) (fun c_6 => ?_) (fun c_6 => ?_)
          · replace hf := x_ip c_6 hf
            refine lv_aload_n hx hb dX5_setLocal_89 rfl (lv_at hl 1 rfl) ?_
            refine va_get (D := (dC, dI)) (ci := 5) (v := .ref a5_1) (C := RX5) (T := TX5) (N := 10) hx hb hts i_X5_setLocal_X5 hown hK hP 0 rfl rfl 1 (by decide) k_3 (fun _ h9 => h9) rfl dX5_setLocal_90 ?_
            refine lv_iload_n hx hb dX5_setLocal_93 rfl (lv_at hl 2 rfl) ?_
            refine lv_iload_n hx hb dX5_setLocal_94 rfl (lv_at hl 3 rfl) ?_
            obtain ⟨g_7, hf⟩ := x_gu hf
            refine va_iast hx hb hK hP hD hS 1 0 rfl rfl (x_gdin g_7) dX5_setLocal_95 (fun H locs hP hD hS => ?_)
            have hP : va_P (dC, dI) vwCl [(o5, .inr (5, [.ref o7, .ref a5_1, .int v5_2, .int v5_3, .int v5_4, .int v5_5, .int v5_6, .int v5_7, .int v5_8, .int v5_9])), (a5_1, .inl (cyI, 400, .inl (upd g5_1 (Int32.toNatClampNeg p1) p2)))] H := hP
            have hD : va_D A [(o5, .inr (5, [.ref o7, .ref a5_1, .int v5_2, .int v5_3, .int v5_4, .int v5_5, .int v5_6, .int v5_7, .int v5_8, .int v5_9])), (a5_1, .inl (cyI, 400, .inl (upd g5_1 (Int32.toNatClampNeg p1) p2)))] := hD
            refine lv_iload_n hx hb dX5_setLocal_96 rfl (lv_at hl 0 rfl) ?_
            refine lv_iload_n hx hb dX5_setLocal_97 rfl (lv_at hl 2 rfl) ?_
            refine lv_icmp_le (tgt := 109) hx hb dX5_setLocal_98 (by decide) (fun c_8 => ?_) (fun c_8 => ?_)
            · replace hf := x_ip c_8 hf
              refine lv_aload_n hx hb dX5_setLocal_109 rfl (lv_at hl 1 rfl) ?_
              refine lv_iconst (v := 1) hx hb dX5_setLocal_110 (by decide) ?_
              refine va_put (D := (dC, dI)) (ci := 5) (v := .int 1) (ty := .boolean) (C := RX5) (T := TX5) (N := 10) hx hb hts i_X5_setLocal_X5 tyX5 tyX5_ok nmX5 hown hK hP hD hS 0 rfl rfl 7 (by decide) k_4 (fun _ h9 => h9) rfl (by decide +kernel) rfl rfl (Nat.le_of_ble_eq_true rfl) dX5_setLocal_111 (fun H locs hP hD hS => ?_)
              have hP : va_P (dC, dI) vwCl [(o5, .inr (5, [.ref o7, .ref a5_1, .int v5_2, .int v5_3, .int v5_4, .int v5_5, .int v5_6, .int 1, .int v5_8, .int v5_9])), (a5_1, .inl (cyI, 400, .inl (upd g5_1 (Int32.toNatClampNeg p1) p2)))] H := hP
              have hD : va_D A [(o5, .inr (5, [.ref o7, .ref a5_1, .int v5_2, .int v5_3, .int v5_4, .int v5_5, .int v5_6, .int 1, .int v5_8, .int v5_9])), (a5_1, .inl (cyI, 400, .inl (upd g5_1 (Int32.toNatClampNeg p1) p2)))] := hD
              obtain rfl := Option.some.inj hf
              have hP9 := hP.sub (ws' := [(o5, .inr (5, [.ref o7, .ref a5_1, .int v5_2, .int v5_3, .int v5_4, .int v5_5, .int v5_6, .int 1, .int v5_8, .int v5_9])), (a5_1, .inl (cyI, 400, .inl (upd g5_1 (Int32.toNatClampNeg p1) p2)))]) [0, 1] rfl
              have hD9 := hD.sub (ws' := [(o5, .inr (5, [.ref o7, .ref a5_1, .int v5_2, .int v5_3, .int v5_4, .int v5_5, .int v5_6, .int 1, .int v5_8, .int v5_9])), (a5_1, .inl (cyI, 400, .inl (upd g5_1 (Int32.toNatClampNeg p1) p2)))]) [0, 1] (by decide) rfl
              exact W.vret hx hb hr (fun t ht hW => ⟨⟨(), rfl, trivial, by rw [ht]; exact hP9, va_K.moved hW.alike hK, hD9⟩, hS.F ht⟩) hS.2.2 dX5_setLocal_114
            · replace hf := x_in c_8 hf
              refine lv_aload_n hx hb dX5_setLocal_101 rfl (lv_at hl 1 rfl) ?_
              refine va_get (D := (dC, dI)) (ci := 5) (v := .ref a5_1) (C := RX5) (T := TX5) (N := 10) hx hb hts i_X5_setLocal_X5 hown hK hP 0 rfl rfl 1 (by decide) k_3 (fun _ h9 => h9) rfl dX5_setLocal_102 ?_
              refine lv_iload_n hx hb dX5_setLocal_105 rfl (lv_at hl 0 rfl) ?_
              refine lv_bipush (v := 7) hx hb dX5_setLocal_106 (by decide) ?_
              obtain ⟨g_9, hf⟩ := x_gu hf
              refine va_iast hx hb hK hP hD hS 1 0 rfl rfl (x_gdin g_9) dX5_setLocal_108 (fun H locs hP hD hS => ?_)
              have hP : va_P (dC, dI) vwCl [(o5, .inr (5, [.ref o7, .ref a5_1, .int v5_2, .int v5_3, .int v5_4, .int v5_5, .int v5_6, .int v5_7, .int v5_8, .int v5_9])), (a5_1, .inl (cyI, 400, .inl (upd (upd g5_1 (Int32.toNatClampNeg p1) p2) (Int32.toNatClampNeg p1) 7)))] H := hP
              have hD : va_D A [(o5, .inr (5, [.ref o7, .ref a5_1, .int v5_2, .int v5_3, .int v5_4, .int v5_5, .int v5_6, .int v5_7, .int v5_8, .int v5_9])), (a5_1, .inl (cyI, 400, .inl (upd (upd g5_1 (Int32.toNatClampNeg p1) p2) (Int32.toNatClampNeg p1) 7)))] := hD
              refine lv_aload_n hx hb dX5_setLocal_109 rfl (lv_at hl 1 rfl) ?_
              refine lv_iconst (v := 1) hx hb dX5_setLocal_110 (by decide) ?_
              refine va_put (D := (dC, dI)) (ci := 5) (v := .int 1) (ty := .boolean) (C := RX5) (T := TX5) (N := 10) hx hb hts i_X5_setLocal_X5 tyX5 tyX5_ok nmX5 hown hK hP hD hS 0 rfl rfl 7 (by decide) k_4 (fun _ h9 => h9) rfl (by decide +kernel) rfl rfl (Nat.le_of_ble_eq_true rfl) dX5_setLocal_111 (fun H locs hP hD hS => ?_)
              have hP : va_P (dC, dI) vwCl [(o5, .inr (5, [.ref o7, .ref a5_1, .int v5_2, .int v5_3, .int v5_4, .int v5_5, .int v5_6, .int 1, .int v5_8, .int v5_9])), (a5_1, .inl (cyI, 400, .inl (upd (upd g5_1 (Int32.toNatClampNeg p1) p2) (Int32.toNatClampNeg p1) 7)))] H := hP
              have hD : va_D A [(o5, .inr (5, [.ref o7, .ref a5_1, .int v5_2, .int v5_3, .int v5_4, .int v5_5, .int v5_6, .int 1, .int v5_8, .int v5_9])), (a5_1, .inl (cyI, 400, .inl (upd (upd g5_1 (Int32.toNatClampNeg p1) p2) (Int32.toNatClampNeg p1) 7)))] := hD
              obtain rfl := Option.some.inj hf
              have hP9 := hP.sub (ws' := [(o5, .inr (5, [.ref o7, .ref a5_1, .int v5_2, .int v5_3, .int v5_4, .int v5_5, .int v5_6, .int 1, .int v5_8, .int v5_9])), (a5_1, .inl (cyI, 400, .inl (upd (upd g5_1 (Int32.toNatClampNeg p1) p2) (Int32.toNatClampNeg p1) 7)))]) [0, 1] rfl
              have hD9 := hD.sub (ws' := [(o5, .inr (5, [.ref o7, .ref a5_1, .int v5_2, .int v5_3, .int v5_4, .int v5_5, .int v5_6, .int 1, .int v5_8, .int v5_9])), (a5_1, .inl (cyI, 400, .inl (upd (upd g5_1 (Int32.toNatClampNeg p1) p2) (Int32.toNatClampNeg p1) 7)))]) [0, 1] (by decide) rfl
              exact W.vret hx hb hr (fun t ht hW => ⟨⟨(), rfl, trivial, by rw [ht]; exact hP9, va_K.moved hW.alike hK, hD9⟩, hS.F ht⟩) hS.2.2 dX5_setLocal_114
          · replace hf := x_in c_6 hf
            refine lv_aload_n hx hb dX5_setLocal_67 rfl (lv_at hl 1 rfl) ?_
            refine va_get (D := (dC, dI)) (ci := 5) (v := .ref a5_1) (C := RX5) (T := TX5) (N := 10) hx hb hts i_X5_setLocal_X5 hown hK hP 0 rfl rfl 1 (by decide) k_3 (fun _ h9 => h9) rfl dX5_setLocal_68 ?_
            refine lv_iload_n hx hb dX5_setLocal_71 rfl (lv_at hl 0 rfl) ?_
            refine lv_iconst (v := 1) hx hb dX5_setLocal_72 (by decide) ?_
            refine lv_iadd hx hb dX5_setLocal_73 ?_
            obtain ⟨g_10, hf⟩ := x_gu hf
            refine va_iald hx hb hK hP 1 0 rfl rfl (x_gdin g_10) dX5_setLocal_74 ?_
            refine lv_bipush (v := 7) hx hb dX5_setLocal_75 (by decide) ?_
            refine lv_icmp_ne (tgt := 89) hx hb dX5_setLocal_77 (by decide) (fun c_11 => ?_) (fun c_11 => ?_)
            · replace hf := x_in c_11 hf
              refine lv_aload_n hx hb dX5_setLocal_89 rfl (lv_at hl 1 rfl) ?_
              refine va_get (D := (dC, dI)) (ci := 5) (v := .ref a5_1) (C := RX5) (T := TX5) (N := 10) hx hb hts i_X5_setLocal_X5 hown hK hP 0 rfl rfl 1 (by decide) k_3 (fun _ h9 => h9) rfl dX5_setLocal_90 ?_
              refine lv_iload_n hx hb dX5_setLocal_93 rfl (lv_at hl 2 rfl) ?_
              refine lv_iload_n hx hb dX5_setLocal_94 rfl (lv_at hl 3 rfl) ?_
              obtain ⟨g_12, hf⟩ := x_gu hf
              refine va_iast hx hb hK hP hD hS 1 0 rfl rfl (x_gdin g_12) dX5_setLocal_95 (fun H locs hP hD hS => ?_)
              have hP : va_P (dC, dI) vwCl [(o5, .inr (5, [.ref o7, .ref a5_1, .int v5_2, .int v5_3, .int v5_4, .int v5_5, .int v5_6, .int v5_7, .int v5_8, .int v5_9])), (a5_1, .inl (cyI, 400, .inl (upd g5_1 (Int32.toNatClampNeg p1) p2)))] H := hP
              have hD : va_D A [(o5, .inr (5, [.ref o7, .ref a5_1, .int v5_2, .int v5_3, .int v5_4, .int v5_5, .int v5_6, .int v5_7, .int v5_8, .int v5_9])), (a5_1, .inl (cyI, 400, .inl (upd g5_1 (Int32.toNatClampNeg p1) p2)))] := hD
              refine lv_iload_n hx hb dX5_setLocal_96 rfl (lv_at hl 0 rfl) ?_
              refine lv_iload_n hx hb dX5_setLocal_97 rfl (lv_at hl 2 rfl) ?_
              refine lv_icmp_le (tgt := 109) hx hb dX5_setLocal_98 (by decide) (fun c_13 => ?_) (fun c_13 => ?_)
              · replace hf := x_ip c_13 hf
                refine lv_aload_n hx hb dX5_setLocal_109 rfl (lv_at hl 1 rfl) ?_
                refine lv_iconst (v := 1) hx hb dX5_setLocal_110 (by decide) ?_
                refine va_put (D := (dC, dI)) (ci := 5) (v := .int 1) (ty := .boolean) (C := RX5) (T := TX5) (N := 10) hx hb hts i_X5_setLocal_X5 tyX5 tyX5_ok nmX5 hown hK hP hD hS 0 rfl rfl 7 (by decide) k_4 (fun _ h9 => h9) rfl (by decide +kernel) rfl rfl (Nat.le_of_ble_eq_true rfl) dX5_setLocal_111 (fun H locs hP hD hS => ?_)
                have hP : va_P (dC, dI) vwCl [(o5, .inr (5, [.ref o7, .ref a5_1, .int v5_2, .int v5_3, .int v5_4, .int v5_5, .int v5_6, .int 1, .int v5_8, .int v5_9])), (a5_1, .inl (cyI, 400, .inl (upd g5_1 (Int32.toNatClampNeg p1) p2)))] H := hP
                have hD : va_D A [(o5, .inr (5, [.ref o7, .ref a5_1, .int v5_2, .int v5_3, .int v5_4, .int v5_5, .int v5_6, .int 1, .int v5_8, .int v5_9])), (a5_1, .inl (cyI, 400, .inl (upd g5_1 (Int32.toNatClampNeg p1) p2)))] := hD
                obtain rfl := Option.some.inj hf
                have hP9 := hP.sub (ws' := [(o5, .inr (5, [.ref o7, .ref a5_1, .int v5_2, .int v5_3, .int v5_4, .int v5_5, .int v5_6, .int 1, .int v5_8, .int v5_9])), (a5_1, .inl (cyI, 400, .inl (upd g5_1 (Int32.toNatClampNeg p1) p2)))]) [0, 1] rfl
                have hD9 := hD.sub (ws' := [(o5, .inr (5, [.ref o7, .ref a5_1, .int v5_2, .int v5_3, .int v5_4, .int v5_5, .int v5_6, .int 1, .int v5_8, .int v5_9])), (a5_1, .inl (cyI, 400, .inl (upd g5_1 (Int32.toNatClampNeg p1) p2)))]) [0, 1] (by decide) rfl
                exact W.vret hx hb hr (fun t ht hW => ⟨⟨(), rfl, trivial, by rw [ht]; exact hP9, va_K.moved hW.alike hK, hD9⟩, hS.F ht⟩) hS.2.2 dX5_setLocal_114
              · replace hf := x_in c_13 hf
                refine lv_aload_n hx hb dX5_setLocal_101 rfl (lv_at hl 1 rfl) ?_
                refine va_get (D := (dC, dI)) (ci := 5) (v := .ref a5_1) (C := RX5) (T := TX5) (N := 10) hx hb hts i_X5_setLocal_X5 hown hK hP 0 rfl rfl 1 (by decide) k_3 (fun _ h9 => h9) rfl dX5_setLocal_102 ?_
                refine lv_iload_n hx hb dX5_setLocal_105 rfl (lv_at hl 0 rfl) ?_
                refine lv_bipush (v := 7) hx hb dX5_setLocal_106 (by decide) ?_
                obtain ⟨g_14, hf⟩ := x_gu hf
                refine va_iast hx hb hK hP hD hS 1 0 rfl rfl (x_gdin g_14) dX5_setLocal_108 (fun H locs hP hD hS => ?_)
                have hP : va_P (dC, dI) vwCl [(o5, .inr (5, [.ref o7, .ref a5_1, .int v5_2, .int v5_3, .int v5_4, .int v5_5, .int v5_6, .int v5_7, .int v5_8, .int v5_9])), (a5_1, .inl (cyI, 400, .inl (upd (upd g5_1 (Int32.toNatClampNeg p1) p2) (Int32.toNatClampNeg p1) 7)))] H := hP
                have hD : va_D A [(o5, .inr (5, [.ref o7, .ref a5_1, .int v5_2, .int v5_3, .int v5_4, .int v5_5, .int v5_6, .int v5_7, .int v5_8, .int v5_9])), (a5_1, .inl (cyI, 400, .inl (upd (upd g5_1 (Int32.toNatClampNeg p1) p2) (Int32.toNatClampNeg p1) 7)))] := hD
                refine lv_aload_n hx hb dX5_setLocal_109 rfl (lv_at hl 1 rfl) ?_
                refine lv_iconst (v := 1) hx hb dX5_setLocal_110 (by decide) ?_
                refine va_put (D := (dC, dI)) (ci := 5) (v := .int 1) (ty := .boolean) (C := RX5) (T := TX5) (N := 10) hx hb hts i_X5_setLocal_X5 tyX5 tyX5_ok nmX5 hown hK hP hD hS 0 rfl rfl 7 (by decide) k_4 (fun _ h9 => h9) rfl (by decide +kernel) rfl rfl (Nat.le_of_ble_eq_true rfl) dX5_setLocal_111 (fun H locs hP hD hS => ?_)
                have hP : va_P (dC, dI) vwCl [(o5, .inr (5, [.ref o7, .ref a5_1, .int v5_2, .int v5_3, .int v5_4, .int v5_5, .int v5_6, .int 1, .int v5_8, .int v5_9])), (a5_1, .inl (cyI, 400, .inl (upd (upd g5_1 (Int32.toNatClampNeg p1) p2) (Int32.toNatClampNeg p1) 7)))] H := hP
                have hD : va_D A [(o5, .inr (5, [.ref o7, .ref a5_1, .int v5_2, .int v5_3, .int v5_4, .int v5_5, .int v5_6, .int 1, .int v5_8, .int v5_9])), (a5_1, .inl (cyI, 400, .inl (upd (upd g5_1 (Int32.toNatClampNeg p1) p2) (Int32.toNatClampNeg p1) 7)))] := hD
                obtain rfl := Option.some.inj hf
                have hP9 := hP.sub (ws' := [(o5, .inr (5, [.ref o7, .ref a5_1, .int v5_2, .int v5_3, .int v5_4, .int v5_5, .int v5_6, .int 1, .int v5_8, .int v5_9])), (a5_1, .inl (cyI, 400, .inl (upd (upd g5_1 (Int32.toNatClampNeg p1) p2) (Int32.toNatClampNeg p1) 7)))]) [0, 1] rfl
                have hD9 := hD.sub (ws' := [(o5, .inr (5, [.ref o7, .ref a5_1, .int v5_2, .int v5_3, .int v5_4, .int v5_5, .int v5_6, .int 1, .int v5_8, .int v5_9])), (a5_1, .inl (cyI, 400, .inl (upd (upd g5_1 (Int32.toNatClampNeg p1) p2) (Int32.toNatClampNeg p1) 7)))]) [0, 1] (by decide) rfl
                exact W.vret hx hb hr (fun t ht hW => ⟨⟨(), rfl, trivial, by rw [ht]; exact hP9, va_K.moved hW.alike hK, hD9⟩, hS.F ht⟩) hS.2.2 dX5_setLocal_114
            · replace hf := x_ip c_11 hf
              refine lv_aload_n hx hb dX5_setLocal_80 rfl (lv_at hl 1 rfl) ?_
              refine va_get (D := (dC, dI)) (ci := 5) (v := .ref a5_1) (C := RX5) (T := TX5) (N := 10) hx hb hts i_X5_setLocal_X5 hown hK hP 0 rfl rfl 1 (by decide) k_3 (fun _ h9 => h9) rfl dX5_setLocal_81 ?_
              refine lv_iload_n hx hb dX5_setLocal_84 rfl (lv_at hl 0 rfl) ?_
              refine lv_iconst (v := 1) hx hb dX5_setLocal_85 (by decide) ?_
              refine lv_iadd hx hb dX5_setLocal_86 ?_
              refine lv_iconst (v := 0) hx hb dX5_setLocal_87 (by decide) ?_
              obtain ⟨g_15, hf⟩ := x_gu hf
              refine va_iast hx hb hK hP hD hS 1 0 rfl rfl (x_gdin g_15) dX5_setLocal_88 (fun H locs hP hD hS => ?_)
              have hP : va_P (dC, dI) vwCl [(o5, .inr (5, [.ref o7, .ref a5_1, .int v5_2, .int v5_3, .int v5_4, .int v5_5, .int v5_6, .int v5_7, .int v5_8, .int v5_9])), (a5_1, .inl (cyI, 400, .inl (upd g5_1 (Int32.toNatClampNeg (p1 + (1 : Int32))) 0)))] H := hP
              have hD : va_D A [(o5, .inr (5, [.ref o7, .ref a5_1, .int v5_2, .int v5_3, .int v5_4, .int v5_5, .int v5_6, .int v5_7, .int v5_8, .int v5_9])), (a5_1, .inl (cyI, 400, .inl (upd g5_1 (Int32.toNatClampNeg (p1 + (1 : Int32))) 0)))] := hD
              refine lv_aload_n hx hb dX5_setLocal_89 rfl (lv_at hl 1 rfl) ?_
              refine va_get (D := (dC, dI)) (ci := 5) (v := .ref a5_1) (C := RX5) (T := TX5) (N := 10) hx hb hts i_X5_setLocal_X5 hown hK hP 0 rfl rfl 1 (by decide) k_3 (fun _ h9 => h9) rfl dX5_setLocal_90 ?_
              refine lv_iload_n hx hb dX5_setLocal_93 rfl (lv_at hl 2 rfl) ?_
              refine lv_iload_n hx hb dX5_setLocal_94 rfl (lv_at hl 3 rfl) ?_
              obtain ⟨g_16, hf⟩ := x_gu hf
              refine va_iast hx hb hK hP hD hS 1 0 rfl rfl (x_gdin g_16) dX5_setLocal_95 (fun H locs hP hD hS => ?_)
              have hP : va_P (dC, dI) vwCl [(o5, .inr (5, [.ref o7, .ref a5_1, .int v5_2, .int v5_3, .int v5_4, .int v5_5, .int v5_6, .int v5_7, .int v5_8, .int v5_9])), (a5_1, .inl (cyI, 400, .inl (upd (upd g5_1 (Int32.toNatClampNeg (p1 + (1 : Int32))) 0) (Int32.toNatClampNeg p1) p2)))] H := hP
              have hD : va_D A [(o5, .inr (5, [.ref o7, .ref a5_1, .int v5_2, .int v5_3, .int v5_4, .int v5_5, .int v5_6, .int v5_7, .int v5_8, .int v5_9])), (a5_1, .inl (cyI, 400, .inl (upd (upd g5_1 (Int32.toNatClampNeg (p1 + (1 : Int32))) 0) (Int32.toNatClampNeg p1) p2)))] := hD
              refine lv_iload_n hx hb dX5_setLocal_96 rfl (lv_at hl 0 rfl) ?_
              refine lv_iload_n hx hb dX5_setLocal_97 rfl (lv_at hl 2 rfl) ?_
              refine lv_icmp_le (tgt := 109) hx hb dX5_setLocal_98 (by decide) (fun c_17 => ?_) (fun c_17 => ?_)
              · replace hf := x_ip c_17 hf
                refine lv_aload_n hx hb dX5_setLocal_109 rfl (lv_at hl 1 rfl) ?_
                refine lv_iconst (v := 1) hx hb dX5_setLocal_110 (by decide) ?_
                refine va_put (D := (dC, dI)) (ci := 5) (v := .int 1) (ty := .boolean) (C := RX5) (T := TX5) (N := 10) hx hb hts i_X5_setLocal_X5 tyX5 tyX5_ok nmX5 hown hK hP hD hS 0 rfl rfl 7 (by decide) k_4 (fun _ h9 => h9) rfl (by decide +kernel) rfl rfl (Nat.le_of_ble_eq_true rfl) dX5_setLocal_111 (fun H locs hP hD hS => ?_)
                have hP : va_P (dC, dI) vwCl [(o5, .inr (5, [.ref o7, .ref a5_1, .int v5_2, .int v5_3, .int v5_4, .int v5_5, .int v5_6, .int 1, .int v5_8, .int v5_9])), (a5_1, .inl (cyI, 400, .inl (upd (upd g5_1 (Int32.toNatClampNeg (p1 + (1 : Int32))) 0) (Int32.toNatClampNeg p1) p2)))] H := hP
                have hD : va_D A [(o5, .inr (5, [.ref o7, .ref a5_1, .int v5_2, .int v5_3, .int v5_4, .int v5_5, .int v5_6, .int 1, .int v5_8, .int v5_9])), (a5_1, .inl (cyI, 400, .inl (upd (upd g5_1 (Int32.toNatClampNeg (p1 + (1 : Int32))) 0) (Int32.toNatClampNeg p1) p2)))] := hD
                obtain rfl := Option.some.inj hf
                have hP9 := hP.sub (ws' := [(o5, .inr (5, [.ref o7, .ref a5_1, .int v5_2, .int v5_3, .int v5_4, .int v5_5, .int v5_6, .int 1, .int v5_8, .int v5_9])), (a5_1, .inl (cyI, 400, .inl (upd (upd g5_1 (Int32.toNatClampNeg (p1 + (1 : Int32))) 0) (Int32.toNatClampNeg p1) p2)))]) [0, 1] rfl
                have hD9 := hD.sub (ws' := [(o5, .inr (5, [.ref o7, .ref a5_1, .int v5_2, .int v5_3, .int v5_4, .int v5_5, .int v5_6, .int 1, .int v5_8, .int v5_9])), (a5_1, .inl (cyI, 400, .inl (upd (upd g5_1 (Int32.toNatClampNeg (p1 + (1 : Int32))) 0) (Int32.toNatClampNeg p1) p2)))]) [0, 1] (by decide) rfl
                exact W.vret hx hb hr (fun t ht hW => ⟨⟨(), rfl, trivial, by rw [ht]; exact hP9, va_K.moved hW.alike hK, hD9⟩, hS.F ht⟩) hS.2.2 dX5_setLocal_114
              · replace hf := x_in c_17 hf
                refine lv_aload_n hx hb dX5_setLocal_101 rfl (lv_at hl 1 rfl) ?_
                refine va_get (D := (dC, dI)) (ci := 5) (v := .ref a5_1) (C := RX5) (T := TX5) (N := 10) hx hb hts i_X5_setLocal_X5 hown hK hP 0 rfl rfl 1 (by decide) k_3 (fun _ h9 => h9) rfl dX5_setLocal_102 ?_
                refine lv_iload_n hx hb dX5_setLocal_105 rfl (lv_at hl 0 rfl) ?_
                refine lv_bipush (v := 7) hx hb dX5_setLocal_106 (by decide) ?_
                obtain ⟨g_18, hf⟩ := x_gu hf
                refine va_iast hx hb hK hP hD hS 1 0 rfl rfl (x_gdin g_18) dX5_setLocal_108 (fun H locs hP hD hS => ?_)
                have hP : va_P (dC, dI) vwCl [(o5, .inr (5, [.ref o7, .ref a5_1, .int v5_2, .int v5_3, .int v5_4, .int v5_5, .int v5_6, .int v5_7, .int v5_8, .int v5_9])), (a5_1, .inl (cyI, 400, .inl (upd (upd (upd g5_1 (Int32.toNatClampNeg (p1 + (1 : Int32))) 0) (Int32.toNatClampNeg p1) p2) (Int32.toNatClampNeg p1) 7)))] H := hP
                have hD : va_D A [(o5, .inr (5, [.ref o7, .ref a5_1, .int v5_2, .int v5_3, .int v5_4, .int v5_5, .int v5_6, .int v5_7, .int v5_8, .int v5_9])), (a5_1, .inl (cyI, 400, .inl (upd (upd (upd g5_1 (Int32.toNatClampNeg (p1 + (1 : Int32))) 0) (Int32.toNatClampNeg p1) p2) (Int32.toNatClampNeg p1) 7)))] := hD
                refine lv_aload_n hx hb dX5_setLocal_109 rfl (lv_at hl 1 rfl) ?_
                refine lv_iconst (v := 1) hx hb dX5_setLocal_110 (by decide) ?_
                refine va_put (D := (dC, dI)) (ci := 5) (v := .int 1) (ty := .boolean) (C := RX5) (T := TX5) (N := 10) hx hb hts i_X5_setLocal_X5 tyX5 tyX5_ok nmX5 hown hK hP hD hS 0 rfl rfl 7 (by decide) k_4 (fun _ h9 => h9) rfl (by decide +kernel) rfl rfl (Nat.le_of_ble_eq_true rfl) dX5_setLocal_111 (fun H locs hP hD hS => ?_)
                have hP : va_P (dC, dI) vwCl [(o5, .inr (5, [.ref o7, .ref a5_1, .int v5_2, .int v5_3, .int v5_4, .int v5_5, .int v5_6, .int 1, .int v5_8, .int v5_9])), (a5_1, .inl (cyI, 400, .inl (upd (upd (upd g5_1 (Int32.toNatClampNeg (p1 + (1 : Int32))) 0) (Int32.toNatClampNeg p1) p2) (Int32.toNatClampNeg p1) 7)))] H := hP
                have hD : va_D A [(o5, .inr (5, [.ref o7, .ref a5_1, .int v5_2, .int v5_3, .int v5_4, .int v5_5, .int v5_6, .int 1, .int v5_8, .int v5_9])), (a5_1, .inl (cyI, 400, .inl (upd (upd (upd g5_1 (Int32.toNatClampNeg (p1 + (1 : Int32))) 0) (Int32.toNatClampNeg p1) p2) (Int32.toNatClampNeg p1) 7)))] := hD
                obtain rfl := Option.some.inj hf
                have hP9 := hP.sub (ws' := [(o5, .inr (5, [.ref o7, .ref a5_1, .int v5_2, .int v5_3, .int v5_4, .int v5_5, .int v5_6, .int 1, .int v5_8, .int v5_9])), (a5_1, .inl (cyI, 400, .inl (upd (upd (upd g5_1 (Int32.toNatClampNeg (p1 + (1 : Int32))) 0) (Int32.toNatClampNeg p1) p2) (Int32.toNatClampNeg p1) 7)))]) [0, 1] rfl
                have hD9 := hD.sub (ws' := [(o5, .inr (5, [.ref o7, .ref a5_1, .int v5_2, .int v5_3, .int v5_4, .int v5_5, .int v5_6, .int 1, .int v5_8, .int v5_9])), (a5_1, .inl (cyI, 400, .inl (upd (upd (upd g5_1 (Int32.toNatClampNeg (p1 + (1 : Int32))) 0) (Int32.toNatClampNeg p1) p2) (Int32.toNatClampNeg p1) 7)))]) [0, 1] (by decide) rfl
                exact W.vret hx hb hr (fun t ht hW => ⟨⟨(), rfl, trivial, by rw [ht]; exact hP9, va_K.moved hW.alike hK, hD9⟩, hS.F ht⟩) hS.2.2 dX5_setLocal_114
        · replace hf := x_in c_5 hf
          refine lv_aload_n hx hb dX5_setLocal_37 rfl (lv_at hl 1 rfl) ?_
          refine va_get (D := (dC, dI)) (ci := 5) (v := .ref a5_1) (C := RX5) (T := TX5) (N := 10) hx hb hts i_X5_setLocal_X5 hown hK hP 0 rfl rfl 1 (by decide) k_3 (fun _ h9 => h9) rfl dX5_setLocal_38 ?_
          refine lv_iload_n hx hb dX5_setLocal_41 rfl (lv_at hl 2 rfl) ?_
          obtain ⟨g_19, hf⟩ := x_gu hf
          refine va_iald hx hb hK hP 1 0 rfl rfl (x_gdin g_19) dX5_setLocal_42 ?_
          refine lv_bipush (v := 7) hx hb dX5_setLocal_43 (by decide) ?_
          refine lv_icmp_ne (tgt := 57) hx hb dX5_setLocal_45 (by decide) (fun c_20 => ?_) (fun c_20 => ?_)
          · replace hf := x_in c_20 hf
            refine lv_iload_n hx hb dX5_setLocal_57 rfl (lv_at hl 0 rfl) ?_
            refine lv_iconst (v := 1) hx hb dX5_setLocal_58 (by decide) ?_
            refine lv_iadd hx hb dX5_setLocal_59 ?_
            refine lv_aload_n hx hb dX5_setLocal_60 rfl (lv_at hl 1 rfl) ?_
            refine va_get (D := (dC, dI)) (ci := 5) (v := .int v5_2) (C := RX5) (T := TX5) (N := 10) hx hb hts i_X5_setLocal_X5 hown hK hP 0 rfl rfl 2 (by decide) k_2 (fun _ h9 => h9) rfl dX5_setLocal_61 ?_
            refine lv_icmp_ge (tgt := 89) hx hb dX5_setLocal_64 (by decide) (fun c_21 => ?_) (fun c_21 => ?_)
            · replace hf := x_ip c_21 hf
              refine lv_aload_n hx hb dX5_setLocal_89 rfl (lv_at hl 1 rfl) ?_
              refine va_get (D := (dC, dI)) (ci := 5) (v := .ref a5_1) (C := RX5) (T := TX5) (N := 10) hx hb hts i_X5_setLocal_X5 hown hK hP 0 rfl rfl 1 (by decide) k_3 (fun _ h9 => h9) rfl dX5_setLocal_90 ?_
              refine lv_iload_n hx hb dX5_setLocal_93 rfl (lv_at hl 2 rfl) ?_
              refine lv_iload_n hx hb dX5_setLocal_94 rfl (lv_at hl 3 rfl) ?_
              obtain ⟨g_22, hf⟩ := x_gu hf
              refine va_iast hx hb hK hP hD hS 1 0 rfl rfl (x_gdin g_22) dX5_setLocal_95 (fun H locs hP hD hS => ?_)
              have hP : va_P (dC, dI) vwCl [(o5, .inr (5, [.ref o7, .ref a5_1, .int v5_2, .int v5_3, .int v5_4, .int v5_5, .int v5_6, .int v5_7, .int v5_8, .int v5_9])), (a5_1, .inl (cyI, 400, .inl (upd g5_1 (Int32.toNatClampNeg p1) p2)))] H := hP
              have hD : va_D A [(o5, .inr (5, [.ref o7, .ref a5_1, .int v5_2, .int v5_3, .int v5_4, .int v5_5, .int v5_6, .int v5_7, .int v5_8, .int v5_9])), (a5_1, .inl (cyI, 400, .inl (upd g5_1 (Int32.toNatClampNeg p1) p2)))] := hD
              refine lv_iload_n hx hb dX5_setLocal_96 rfl (lv_at hl 0 rfl) ?_
              refine lv_iload_n hx hb dX5_setLocal_97 rfl (lv_at hl 2 rfl) ?_
              refine lv_icmp_le (tgt := 109) hx hb dX5_setLocal_98 (by decide) (fun c_23 => ?_) (fun c_23 => ?_)
              · replace hf := x_ip c_23 hf
                refine lv_aload_n hx hb dX5_setLocal_109 rfl (lv_at hl 1 rfl) ?_
                refine lv_iconst (v := 1) hx hb dX5_setLocal_110 (by decide) ?_
                refine va_put (D := (dC, dI)) (ci := 5) (v := .int 1) (ty := .boolean) (C := RX5) (T := TX5) (N := 10) hx hb hts i_X5_setLocal_X5 tyX5 tyX5_ok nmX5 hown hK hP hD hS 0 rfl rfl 7 (by decide) k_4 (fun _ h9 => h9) rfl (by decide +kernel) rfl rfl (Nat.le_of_ble_eq_true rfl) dX5_setLocal_111 (fun H locs hP hD hS => ?_)
                have hP : va_P (dC, dI) vwCl [(o5, .inr (5, [.ref o7, .ref a5_1, .int v5_2, .int v5_3, .int v5_4, .int v5_5, .int v5_6, .int 1, .int v5_8, .int v5_9])), (a5_1, .inl (cyI, 400, .inl (upd g5_1 (Int32.toNatClampNeg p1) p2)))] H := hP
                have hD : va_D A [(o5, .inr (5, [.ref o7, .ref a5_1, .int v5_2, .int v5_3, .int v5_4, .int v5_5, .int v5_6, .int 1, .int v5_8, .int v5_9])), (a5_1, .inl (cyI, 400, .inl (upd g5_1 (Int32.toNatClampNeg p1) p2)))] := hD
                obtain rfl := Option.some.inj hf
                have hP9 := hP.sub (ws' := [(o5, .inr (5, [.ref o7, .ref a5_1, .int v5_2, .int v5_3, .int v5_4, .int v5_5, .int v5_6, .int 1, .int v5_8, .int v5_9])), (a5_1, .inl (cyI, 400, .inl (upd g5_1 (Int32.toNatClampNeg p1) p2)))]) [0, 1] rfl
                have hD9 := hD.sub (ws' := [(o5, .inr (5, [.ref o7, .ref a5_1, .int v5_2, .int v5_3, .int v5_4, .int v5_5, .int v5_6, .int 1, .int v5_8, .int v5_9])), (a5_1, .inl (cyI, 400, .inl (upd g5_1 (Int32.toNatClampNeg p1) p2)))]) [0, 1] (by decide) rfl
                exact W.vret hx hb hr (fun t ht hW => ⟨⟨(), rfl, trivial, by rw [ht]; exact hP9, va_K.moved hW.alike hK, hD9⟩, hS.F ht⟩) hS.2.2 dX5_setLocal_114
              · replace hf := x_in c_23 hf
                refine lv_aload_n hx hb dX5_setLocal_101 rfl (lv_at hl 1 rfl) ?_
                refine va_get (D := (dC, dI)) (ci := 5) (v := .ref a5_1) (C := RX5) (T := TX5) (N := 10) hx hb hts i_X5_setLocal_X5 hown hK hP 0 rfl rfl 1 (by decide) k_3 (fun _ h9 => h9) rfl dX5_setLocal_102 ?_
                refine lv_iload_n hx hb dX5_setLocal_105 rfl (lv_at hl 0 rfl) ?_
                refine lv_bipush (v := 7) hx hb dX5_setLocal_106 (by decide) ?_
                obtain ⟨g_24, hf⟩ := x_gu hf
                refine va_iast hx hb hK hP hD hS 1 0 rfl rfl (x_gdin g_24) dX5_setLocal_108 (fun H locs hP hD hS => ?_)
                have hP : va_P (dC, dI) vwCl [(o5, .inr (5, [.ref o7, .ref a5_1, .int v5_2, .int v5_3, .int v5_4, .int v5_5, .int v5_6, .int v5_7, .int v5_8, .int v5_9])), (a5_1, .inl (cyI, 400, .inl (upd (upd g5_1 (Int32.toNatClampNeg p1) p2) (Int32.toNatClampNeg p1) 7)))] H := hP
                have hD : va_D A [(o5, .inr (5, [.ref o7, .ref a5_1, .int v5_2, .int v5_3, .int v5_4, .int v5_5, .int v5_6, .int v5_7, .int v5_8, .int v5_9])), (a5_1, .inl (cyI, 400, .inl (upd (upd g5_1 (Int32.toNatClampNeg p1) p2) (Int32.toNatClampNeg p1) 7)))] := hD
                refine lv_aload_n hx hb dX5_setLocal_109 rfl (lv_at hl 1 rfl) ?_
                refine lv_iconst (v := 1) hx hb dX5_setLocal_110 (by decide) ?_
                refine va_put (D := (dC, dI)) (ci := 5) (v := .int 1) (ty := .boolean) (C := RX5) (T := TX5) (N := 10) hx hb hts i_X5_setLocal_X5 tyX5 tyX5_ok nmX5 hown hK hP hD hS 0 rfl rfl 7 (by decide) k_4 (fun _ h9 => h9) rfl (by decide +kernel) rfl rfl (Nat.le_of_ble_eq_true rfl) dX5_setLocal_111 (fun H locs hP hD hS => ?_)
                have hP : va_P (dC, dI) vwCl [(o5, .inr (5, [.ref o7, .ref a5_1, .int v5_2, .int v5_3, .int v5_4, .int v5_5, .int v5_6, .int 1, .int v5_8, .int v5_9])), (a5_1, .inl (cyI, 400, .inl (upd (upd g5_1 (Int32.toNatClampNeg p1) p2) (Int32.toNatClampNeg p1) 7)))] H := hP
                have hD : va_D A [(o5, .inr (5, [.ref o7, .ref a5_1, .int v5_2, .int v5_3, .int v5_4, .int v5_5, .int v5_6, .int 1, .int v5_8, .int v5_9])), (a5_1, .inl (cyI, 400, .inl (upd (upd g5_1 (Int32.toNatClampNeg p1) p2) (Int32.toNatClampNeg p1) 7)))] := hD
                obtain rfl := Option.some.inj hf
                have hP9 := hP.sub (ws' := [(o5, .inr (5, [.ref o7, .ref a5_1, .int v5_2, .int v5_3, .int v5_4, .int v5_5, .int v5_6, .int 1, .int v5_8, .int v5_9])), (a5_1, .inl (cyI, 400, .inl (upd (upd g5_1 (Int32.toNatClampNeg p1) p2) (Int32.toNatClampNeg p1) 7)))]) [0, 1] rfl
                have hD9 := hD.sub (ws' := [(o5, .inr (5, [.ref o7, .ref a5_1, .int v5_2, .int v5_3, .int v5_4, .int v5_5, .int v5_6, .int 1, .int v5_8, .int v5_9])), (a5_1, .inl (cyI, 400, .inl (upd (upd g5_1 (Int32.toNatClampNeg p1) p2) (Int32.toNatClampNeg p1) 7)))]) [0, 1] (by decide) rfl
                exact W.vret hx hb hr (fun t ht hW => ⟨⟨(), rfl, trivial, by rw [ht]; exact hP9, va_K.moved hW.alike hK, hD9⟩, hS.F ht⟩) hS.2.2 dX5_setLocal_114
            · replace hf := x_in c_21 hf
              refine lv_aload_n hx hb dX5_setLocal_67 rfl (lv_at hl 1 rfl) ?_
              refine va_get (D := (dC, dI)) (ci := 5) (v := .ref a5_1) (C := RX5) (T := TX5) (N := 10) hx hb hts i_X5_setLocal_X5 hown hK hP 0 rfl rfl 1 (by decide) k_3 (fun _ h9 => h9) rfl dX5_setLocal_68 ?_
              refine lv_iload_n hx hb dX5_setLocal_71 rfl (lv_at hl 0 rfl) ?_
              refine lv_iconst (v := 1) hx hb dX5_setLocal_72 (by decide) ?_
              refine lv_iadd hx hb dX5_setLocal_73 ?_
              obtain ⟨g_25, hf⟩ := x_gu hf
              refine va_iald hx hb hK hP 1 0 rfl rfl (x_gdin g_25) dX5_setLocal_74 ?_
              refine lv_bipush (v := 7) hx hb dX5_setLocal_75 (by decide) ?_
              refine lv_icmp_ne (tgt := 89) hx hb dX5_setLocal_77 (by decide) (fun c_26 => ?_) (fun c_26 => ?_)
              · replace hf := x_in c_26 hf
                refine lv_aload_n hx hb dX5_setLocal_89 rfl (lv_at hl 1 rfl) ?_
                refine va_get (D := (dC, dI)) (ci := 5) (v := .ref a5_1) (C := RX5) (T := TX5) (N := 10) hx hb hts i_X5_setLocal_X5 hown hK hP 0 rfl rfl 1 (by decide) k_3 (fun _ h9 => h9) rfl dX5_setLocal_90 ?_
                refine lv_iload_n hx hb dX5_setLocal_93 rfl (lv_at hl 2 rfl) ?_
                refine lv_iload_n hx hb dX5_setLocal_94 rfl (lv_at hl 3 rfl) ?_
                obtain ⟨g_27, hf⟩ := x_gu hf
                refine va_iast hx hb hK hP hD hS 1 0 rfl rfl (x_gdin g_27) dX5_setLocal_95 (fun H locs hP hD hS => ?_)
                have hP : va_P (dC, dI) vwCl [(o5, .inr (5, [.ref o7, .ref a5_1, .int v5_2, .int v5_3, .int v5_4, .int v5_5, .int v5_6, .int v5_7, .int v5_8, .int v5_9])), (a5_1, .inl (cyI, 400, .inl (upd g5_1 (Int32.toNatClampNeg p1) p2)))] H := hP
                have hD : va_D A [(o5, .inr (5, [.ref o7, .ref a5_1, .int v5_2, .int v5_3, .int v5_4, .int v5_5, .int v5_6, .int v5_7, .int v5_8, .int v5_9])), (a5_1, .inl (cyI, 400, .inl (upd g5_1 (Int32.toNatClampNeg p1) p2)))] := hD
                refine lv_iload_n hx hb dX5_setLocal_96 rfl (lv_at hl 0 rfl) ?_
                refine lv_iload_n hx hb dX5_setLocal_97 rfl (lv_at hl 2 rfl) ?_
                refine lv_icmp_le (tgt := 109) hx hb dX5_setLocal_98 (by decide) (fun c_28 => ?_) (fun c_28 => ?_)
                · replace hf := x_ip c_28 hf
                  refine lv_aload_n hx hb dX5_setLocal_109 rfl (lv_at hl 1 rfl) ?_
                  refine lv_iconst (v := 1) hx hb dX5_setLocal_110 (by decide) ?_
                  refine va_put (D := (dC, dI)) (ci := 5) (v := .int 1) (ty := .boolean) (C := RX5) (T := TX5) (N := 10) hx hb hts i_X5_setLocal_X5 tyX5 tyX5_ok nmX5 hown hK hP hD hS 0 rfl rfl 7 (by decide) k_4 (fun _ h9 => h9) rfl (by decide +kernel) rfl rfl (Nat.le_of_ble_eq_true rfl) dX5_setLocal_111 (fun H locs hP hD hS => ?_)
                  have hP : va_P (dC, dI) vwCl [(o5, .inr (5, [.ref o7, .ref a5_1, .int v5_2, .int v5_3, .int v5_4, .int v5_5, .int v5_6, .int 1, .int v5_8, .int v5_9])), (a5_1, .inl (cyI, 400, .inl (upd g5_1 (Int32.toNatClampNeg p1) p2)))] H := hP
                  have hD : va_D A [(o5, .inr (5, [.ref o7, .ref a5_1, .int v5_2, .int v5_3, .int v5_4, .int v5_5, .int v5_6, .int 1, .int v5_8, .int v5_9])), (a5_1, .inl (cyI, 400, .inl (upd g5_1 (Int32.toNatClampNeg p1) p2)))] := hD
                  obtain rfl := Option.some.inj hf
                  have hP9 := hP.sub (ws' := [(o5, .inr (5, [.ref o7, .ref a5_1, .int v5_2, .int v5_3, .int v5_4, .int v5_5, .int v5_6, .int 1, .int v5_8, .int v5_9])), (a5_1, .inl (cyI, 400, .inl (upd g5_1 (Int32.toNatClampNeg p1) p2)))]) [0, 1] rfl
                  have hD9 := hD.sub (ws' := [(o5, .inr (5, [.ref o7, .ref a5_1, .int v5_2, .int v5_3, .int v5_4, .int v5_5, .int v5_6, .int 1, .int v5_8, .int v5_9])), (a5_1, .inl (cyI, 400, .inl (upd g5_1 (Int32.toNatClampNeg p1) p2)))]) [0, 1] (by decide) rfl
                  exact W.vret hx hb hr (fun t ht hW => ⟨⟨(), rfl, trivial, by rw [ht]; exact hP9, va_K.moved hW.alike hK, hD9⟩, hS.F ht⟩) hS.2.2 dX5_setLocal_114
                · replace hf := x_in c_28 hf
                  refine lv_aload_n hx hb dX5_setLocal_101 rfl (lv_at hl 1 rfl) ?_
                  refine va_get (D := (dC, dI)) (ci := 5) (v := .ref a5_1) (C := RX5) (T := TX5) (N := 10) hx hb hts i_X5_setLocal_X5 hown hK hP 0 rfl rfl 1 (by decide) k_3 (fun _ h9 => h9) rfl dX5_setLocal_102 ?_
                  refine lv_iload_n hx hb dX5_setLocal_105 rfl (lv_at hl 0 rfl) ?_
                  refine lv_bipush (v := 7) hx hb dX5_setLocal_106 (by decide) ?_
                  obtain ⟨g_29, hf⟩ := x_gu hf
                  refine va_iast hx hb hK hP hD hS 1 0 rfl rfl (x_gdin g_29) dX5_setLocal_108 (fun H locs hP hD hS => ?_)
                  have hP : va_P (dC, dI) vwCl [(o5, .inr (5, [.ref o7, .ref a5_1, .int v5_2, .int v5_3, .int v5_4, .int v5_5, .int v5_6, .int v5_7, .int v5_8, .int v5_9])), (a5_1, .inl (cyI, 400, .inl (upd (upd g5_1 (Int32.toNatClampNeg p1) p2) (Int32.toNatClampNeg p1) 7)))] H := hP
                  have hD : va_D A [(o5, .inr (5, [.ref o7, .ref a5_1, .int v5_2, .int v5_3, .int v5_4, .int v5_5, .int v5_6, .int v5_7, .int v5_8, .int v5_9])), (a5_1, .inl (cyI, 400, .inl (upd (upd g5_1 (Int32.toNatClampNeg p1) p2) (Int32.toNatClampNeg p1) 7)))] := hD
                  refine lv_aload_n hx hb dX5_setLocal_109 rfl (lv_at hl 1 rfl) ?_
                  refine lv_iconst (v := 1) hx hb dX5_setLocal_110 (by decide) ?_
                  refine va_put (D := (dC, dI)) (ci := 5) (v := .int 1) (ty := .boolean) (C := RX5) (T := TX5) (N := 10) hx hb hts i_X5_setLocal_X5 tyX5 tyX5_ok nmX5 hown hK hP hD hS 0 rfl rfl 7 (by decide) k_4 (fun _ h9 => h9) rfl (by decide +kernel) rfl rfl (Nat.le_of_ble_eq_true rfl) dX5_setLocal_111 (fun H locs hP hD hS => ?_)
                  have hP : va_P (dC, dI) vwCl [(o5, .inr (5, [.ref o7, .ref a5_1, .int v5_2, .int v5_3, .int v5_4, .int v5_5, .int v5_6, .int 1, .int v5_8, .int v5_9])), (a5_1, .inl (cyI, 400, .inl (upd (upd g5_1 (Int32.toNatClampNeg p1) p2) (Int32.toNatClampNeg p1) 7)))] H := hP
                  have hD : va_D A [(o5, .inr (5, [.ref o7, .ref a5_1, .int v5_2, .int v5_3, .int v5_4, .int v5_5, .int v5_6, .int 1, .int v5_8, .int v5_9])), (a5_1, .inl (cyI, 400, .inl (upd (upd g5_1 (Int32.toNatClampNeg p1) p2) (Int32.toNatClampNeg p1) 7)))] := hD
                  obtain rfl := Option.some.inj hf
                  have hP9 := hP.sub (ws' := [(o5, .inr (5, [.ref o7, .ref a5_1, .int v5_2, .int v5_3, .int v5_4, .int v5_5, .int v5_6, .int 1, .int v5_8, .int v5_9])), (a5_1, .inl (cyI, 400, .inl (upd (upd g5_1 (Int32.toNatClampNeg p1) p2) (Int32.toNatClampNeg p1) 7)))]) [0, 1] rfl
                  have hD9 := hD.sub (ws' := [(o5, .inr (5, [.ref o7, .ref a5_1, .int v5_2, .int v5_3, .int v5_4, .int v5_5, .int v5_6, .int 1, .int v5_8, .int v5_9])), (a5_1, .inl (cyI, 400, .inl (upd (upd g5_1 (Int32.toNatClampNeg p1) p2) (Int32.toNatClampNeg p1) 7)))]) [0, 1] (by decide) rfl
                  exact W.vret hx hb hr (fun t ht hW => ⟨⟨(), rfl, trivial, by rw [ht]; exact hP9, va_K.moved hW.alike hK, hD9⟩, hS.F ht⟩) hS.2.2 dX5_setLocal_114
              · replace hf := x_ip c_26 hf
                refine lv_aload_n hx hb dX5_setLocal_80 rfl (lv_at hl 1 rfl) ?_
                refine va_get (D := (dC, dI)) (ci := 5) (v := .ref a5_1) (C := RX5) (T := TX5) (N := 10) hx hb hts i_X5_setLocal_X5 hown hK hP 0 rfl rfl 1 (by decide) k_3 (fun _ h9 => h9) rfl dX5_setLocal_81 ?_
                refine lv_iload_n hx hb dX5_setLocal_84 rfl (lv_at hl 0 rfl) ?_
                refine lv_iconst (v := 1) hx hb dX5_setLocal_85 (by decide) ?_
                refine lv_iadd hx hb dX5_setLocal_86 ?_
                refine lv_iconst (v := 0) hx hb dX5_setLocal_87 (by decide) ?_
                obtain ⟨g_30, hf⟩ := x_gu hf
                refine va_iast hx hb hK hP hD hS 1 0 rfl rfl (x_gdin g_30) dX5_setLocal_88 (fun H locs hP hD hS => ?_)
                have hP : va_P (dC, dI) vwCl [(o5, .inr (5, [.ref o7, .ref a5_1, .int v5_2, .int v5_3, .int v5_4, .int v5_5, .int v5_6, .int v5_7, .int v5_8, .int v5_9])), (a5_1, .inl (cyI, 400, .inl (upd g5_1 (Int32.toNatClampNeg (p1 + (1 : Int32))) 0)))] H := hP
                have hD : va_D A [(o5, .inr (5, [.ref o7, .ref a5_1, .int v5_2, .int v5_3, .int v5_4, .int v5_5, .int v5_6, .int v5_7, .int v5_8, .int v5_9])), (a5_1, .inl (cyI, 400, .inl (upd g5_1 (Int32.toNatClampNeg (p1 + (1 : Int32))) 0)))] := hD
                refine lv_aload_n hx hb dX5_setLocal_89 rfl (lv_at hl 1 rfl) ?_
                refine va_get (D := (dC, dI)) (ci := 5) (v := .ref a5_1) (C := RX5) (T := TX5) (N := 10) hx hb hts i_X5_setLocal_X5 hown hK hP 0 rfl rfl 1 (by decide) k_3 (fun _ h9 => h9) rfl dX5_setLocal_90 ?_
                refine lv_iload_n hx hb dX5_setLocal_93 rfl (lv_at hl 2 rfl) ?_
                refine lv_iload_n hx hb dX5_setLocal_94 rfl (lv_at hl 3 rfl) ?_
                obtain ⟨g_31, hf⟩ := x_gu hf
                refine va_iast hx hb hK hP hD hS 1 0 rfl rfl (x_gdin g_31) dX5_setLocal_95 (fun H locs hP hD hS => ?_)
                have hP : va_P (dC, dI) vwCl [(o5, .inr (5, [.ref o7, .ref a5_1, .int v5_2, .int v5_3, .int v5_4, .int v5_5, .int v5_6, .int v5_7, .int v5_8, .int v5_9])), (a5_1, .inl (cyI, 400, .inl (upd (upd g5_1 (Int32.toNatClampNeg (p1 + (1 : Int32))) 0) (Int32.toNatClampNeg p1) p2)))] H := hP
                have hD : va_D A [(o5, .inr (5, [.ref o7, .ref a5_1, .int v5_2, .int v5_3, .int v5_4, .int v5_5, .int v5_6, .int v5_7, .int v5_8, .int v5_9])), (a5_1, .inl (cyI, 400, .inl (upd (upd g5_1 (Int32.toNatClampNeg (p1 + (1 : Int32))) 0) (Int32.toNatClampNeg p1) p2)))] := hD
                refine lv_iload_n hx hb dX5_setLocal_96 rfl (lv_at hl 0 rfl) ?_
                refine lv_iload_n hx hb dX5_setLocal_97 rfl (lv_at hl 2 rfl) ?_
                refine lv_icmp_le (tgt := 109) hx hb dX5_setLocal_98 (by decide) (fun c_32 => ?_) (fun c_32 => ?_)
                · replace hf := x_ip c_32 hf
                  refine lv_aload_n hx hb dX5_setLocal_109 rfl (lv_at hl 1 rfl) ?_
                  refine lv_iconst (v := 1) hx hb dX5_setLocal_110 (by decide) ?_
                  refine va_put (D := (dC, dI)) (ci := 5) (v := .int 1) (ty := .boolean) (C := RX5) (T := TX5) (N := 10) hx hb hts i_X5_setLocal_X5 tyX5 tyX5_ok nmX5 hown hK hP hD hS 0 rfl rfl 7 (by decide) k_4 (fun _ h9 => h9) rfl (by decide +kernel) rfl rfl (Nat.le_of_ble_eq_true rfl) dX5_setLocal_111 (fun H locs hP hD hS => ?_)
                  have hP : va_P (dC, dI) vwCl [(o5, .inr (5, [.ref o7, .ref a5_1, .int v5_2, .int v5_3, .int v5_4, .int v5_5, .int v5_6, .int 1, .int v5_8, .int v5_9])), (a5_1, .inl (cyI, 400, .inl (upd (upd g5_1 (Int32.toNatClampNeg (p1 + (1 : Int32))) 0) (Int32.toNatClampNeg p1) p2)))] H := hP
                  have hD : va_D A [(o5, .inr (5, [.ref o7, .ref a5_1, .int v5_2, .int v5_3, .int v5_4, .int v5_5, .int v5_6, .int 1, .int v5_8, .int v5_9])), (a5_1, .inl (cyI, 400, .inl (upd (upd g5_1 (Int32.toNatClampNeg (p1 + (1 : Int32))) 0) (Int32.toNatClampNeg p1) p2)))] := hD
                  obtain rfl := Option.some.inj hf
                  have hP9 := hP.sub (ws' := [(o5, .inr (5, [.ref o7, .ref a5_1, .int v5_2, .int v5_3, .int v5_4, .int v5_5, .int v5_6, .int 1, .int v5_8, .int v5_9])), (a5_1, .inl (cyI, 400, .inl (upd (upd g5_1 (Int32.toNatClampNeg (p1 + (1 : Int32))) 0) (Int32.toNatClampNeg p1) p2)))]) [0, 1] rfl
                  have hD9 := hD.sub (ws' := [(o5, .inr (5, [.ref o7, .ref a5_1, .int v5_2, .int v5_3, .int v5_4, .int v5_5, .int v5_6, .int 1, .int v5_8, .int v5_9])), (a5_1, .inl (cyI, 400, .inl (upd (upd g5_1 (Int32.toNatClampNeg (p1 + (1 : Int32))) 0) (Int32.toNatClampNeg p1) p2)))]) [0, 1] (by decide) rfl
                  exact W.vret hx hb hr (fun t ht hW => ⟨⟨(), rfl, trivial, by rw [ht]; exact hP9, va_K.moved hW.alike hK, hD9⟩, hS.F ht⟩) hS.2.2 dX5_setLocal_114
                · replace hf := x_in c_32 hf
                  refine lv_aload_n hx hb dX5_setLocal_101 rfl (lv_at hl 1 rfl) ?_
                  refine va_get (D := (dC, dI)) (ci := 5) (v := .ref a5_1) (C := RX5) (T := TX5) (N := 10) hx hb hts i_X5_setLocal_X5 hown hK hP 0 rfl rfl 1 (by decide) k_3 (fun _ h9 => h9) rfl dX5_setLocal_102 ?_
                  refine lv_iload_n hx hb dX5_setLocal_105 rfl (lv_at hl 0 rfl) ?_
                  refine lv_bipush (v := 7) hx hb dX5_setLocal_106 (by decide) ?_
                  obtain ⟨g_33, hf⟩ := x_gu hf
                  refine va_iast hx hb hK hP hD hS 1 0 rfl rfl (x_gdin g_33) dX5_setLocal_108 (fun H locs hP hD hS => ?_)
                  have hP : va_P (dC, dI) vwCl [(o5, .inr (5, [.ref o7, .ref a5_1, .int v5_2, .int v5_3, .int v5_4, .int v5_5, .int v5_6, .int v5_7, .int v5_8, .int v5_9])), (a5_1, .inl (cyI, 400, .inl (upd (upd (upd g5_1 (Int32.toNatClampNeg (p1 + (1 : Int32))) 0) (Int32.toNatClampNeg p1) p2) (Int32.toNatClampNeg p1) 7)))] H := hP
                  have hD : va_D A [(o5, .inr (5, [.ref o7, .ref a5_1, .int v5_2, .int v5_3, .int v5_4, .int v5_5, .int v5_6, .int v5_7, .int v5_8, .int v5_9])), (a5_1, .inl (cyI, 400, .inl (upd (upd (upd g5_1 (Int32.toNatClampNeg (p1 + (1 : Int32))) 0) (Int32.toNatClampNeg p1) p2) (Int32.toNatClampNeg p1) 7)))] := hD
                  refine lv_aload_n hx hb dX5_setLocal_109 rfl (lv_at hl 1 rfl) ?_
                  refine lv_iconst (v := 1) hx hb dX5_setLocal_110 (by decide) ?_
                  refine va_put (D := (dC, dI)) (ci := 5) (v := .int 1) (ty := .boolean) (C := RX5) (T := TX5) (N := 10) hx hb hts i_X5_setLocal_X5 tyX5 tyX5_ok nmX5 hown hK hP hD hS 0 rfl rfl 7 (by decide) k_4 (fun _ h9 => h9) rfl (by decide +kernel) rfl rfl (Nat.le_of_ble_eq_true rfl) dX5_setLocal_111 (fun H locs hP hD hS => ?_)
                  have hP : va_P (dC, dI) vwCl [(o5, .inr (5, [.ref o7, .ref a5_1, .int v5_2, .int v5_3, .int v5_4, .int v5_5, .int v5_6, .int 1, .int v5_8, .int v5_9])), (a5_1, .inl (cyI, 400, .inl (upd (upd (upd g5_1 (Int32.toNatClampNeg (p1 + (1 : Int32))) 0) (Int32.toNatClampNeg p1) p2) (Int32.toNatClampNeg p1) 7)))] H := hP
                  have hD : va_D A [(o5, .inr (5, [.ref o7, .ref a5_1, .int v5_2, .int v5_3, .int v5_4, .int v5_5, .int v5_6, .int 1, .int v5_8, .int v5_9])), (a5_1, .inl (cyI, 400, .inl (upd (upd (upd g5_1 (Int32.toNatClampNeg (p1 + (1 : Int32))) 0) (Int32.toNatClampNeg p1) p2) (Int32.toNatClampNeg p1) 7)))] := hD
                  obtain rfl := Option.some.inj hf
                  have hP9 := hP.sub (ws' := [(o5, .inr (5, [.ref o7, .ref a5_1, .int v5_2, .int v5_3, .int v5_4, .int v5_5, .int v5_6, .int 1, .int v5_8, .int v5_9])), (a5_1, .inl (cyI, 400, .inl (upd (upd (upd g5_1 (Int32.toNatClampNeg (p1 + (1 : Int32))) 0) (Int32.toNatClampNeg p1) p2) (Int32.toNatClampNeg p1) 7)))]) [0, 1] rfl
                  have hD9 := hD.sub (ws' := [(o5, .inr (5, [.ref o7, .ref a5_1, .int v5_2, .int v5_3, .int v5_4, .int v5_5, .int v5_6, .int 1, .int v5_8, .int v5_9])), (a5_1, .inl (cyI, 400, .inl (upd (upd (upd g5_1 (Int32.toNatClampNeg (p1 + (1 : Int32))) 0) (Int32.toNatClampNeg p1) p2) (Int32.toNatClampNeg p1) 7)))]) [0, 1] (by decide) rfl
                  exact W.vret hx hb hr (fun t ht hW => ⟨⟨(), rfl, trivial, by rw [ht]; exact hP9, va_K.moved hW.alike hK, hD9⟩, hS.F ht⟩) hS.2.2 dX5_setLocal_114
          · replace hf := x_ip c_20 hf
            refine lv_aload_n hx hb dX5_setLocal_48 rfl (lv_at hl 1 rfl) ?_
            refine va_get (D := (dC, dI)) (ci := 5) (v := .ref a5_1) (C := RX5) (T := TX5) (N := 10) hx hb hts i_X5_setLocal_X5 hown hK hP 0 rfl rfl 1 (by decide) k_3 (fun _ h9 => h9) rfl dX5_setLocal_49 ?_
            refine lv_iload_n hx hb dX5_setLocal_52 rfl (lv_at hl 2 rfl) ?_
            refine lv_iconst (v := 1) hx hb dX5_setLocal_53 (by decide) ?_
            refine lv_isub hx hb dX5_setLocal_54 ?_
            refine lv_iconst (v := 0) hx hb dX5_setLocal_55 (by decide) ?_
            obtain ⟨g_34, hf⟩ := x_gu hf
            refine va_iast hx hb hK hP hD hS 1 0 rfl rfl (x_gdin g_34) dX5_setLocal_56 (fun H locs hP hD hS => ?_)
            have hP : va_P (dC, dI) vwCl [(o5, .inr (5, [.ref o7, .ref a5_1, .int v5_2, .int v5_3, .int v5_4, .int v5_5, .int v5_6, .int v5_7, .int v5_8, .int v5_9])), (a5_1, .inl (cyI, 400, .inl (upd g5_1 (Int32.toNatClampNeg (p1 - (1 : Int32))) 0)))] H := hP
            have hD : va_D A [(o5, .inr (5, [.ref o7, .ref a5_1, .int v5_2, .int v5_3, .int v5_4, .int v5_5, .int v5_6, .int v5_7, .int v5_8, .int v5_9])), (a5_1, .inl (cyI, 400, .inl (upd g5_1 (Int32.toNatClampNeg (p1 - (1 : Int32))) 0)))] := hD
            refine lv_iload_n hx hb dX5_setLocal_57 rfl (lv_at hl 0 rfl) ?_
            refine lv_iconst (v := 1) hx hb dX5_setLocal_58 (by decide) ?_
            refine lv_iadd hx hb dX5_setLocal_59 ?_
            refine lv_aload_n hx hb dX5_setLocal_60 rfl (lv_at hl 1 rfl) ?_
            refine va_get (D := (dC, dI)) (ci := 5) (v := .int v5_2) (C := RX5) (T := TX5) (N := 10) hx hb hts i_X5_setLocal_X5 hown hK hP 0 rfl rfl 2 (by decide) k_2 (fun _ h9 => h9) rfl dX5_setLocal_61 ?_
            refine lv_icmp_ge (tgt := 89) hx hb dX5_setLocal_64 (by decide) (fun c_35 => ?_) (fun c_35 => ?_)
            · replace hf := x_ip c_35 hf
              refine lv_aload_n hx hb dX5_setLocal_89 rfl (lv_at hl 1 rfl) ?_
              refine va_get (D := (dC, dI)) (ci := 5) (v := .ref a5_1) (C := RX5) (T := TX5) (N := 10) hx hb hts i_X5_setLocal_X5 hown hK hP 0 rfl rfl 1 (by decide) k_3 (fun _ h9 => h9) rfl dX5_setLocal_90 ?_
              refine lv_iload_n hx hb dX5_setLocal_93 rfl (lv_at hl 2 rfl) ?_
              refine lv_iload_n hx hb dX5_setLocal_94 rfl (lv_at hl 3 rfl) ?_
              obtain ⟨g_36, hf⟩ := x_gu hf
              refine va_iast hx hb hK hP hD hS 1 0 rfl rfl (x_gdin g_36) dX5_setLocal_95 (fun H locs hP hD hS => ?_)
              have hP : va_P (dC, dI) vwCl [(o5, .inr (5, [.ref o7, .ref a5_1, .int v5_2, .int v5_3, .int v5_4, .int v5_5, .int v5_6, .int v5_7, .int v5_8, .int v5_9])), (a5_1, .inl (cyI, 400, .inl (upd (upd g5_1 (Int32.toNatClampNeg (p1 - (1 : Int32))) 0) (Int32.toNatClampNeg p1) p2)))] H := hP
              have hD : va_D A [(o5, .inr (5, [.ref o7, .ref a5_1, .int v5_2, .int v5_3, .int v5_4, .int v5_5, .int v5_6, .int v5_7, .int v5_8, .int v5_9])), (a5_1, .inl (cyI, 400, .inl (upd (upd g5_1 (Int32.toNatClampNeg (p1 - (1 : Int32))) 0) (Int32.toNatClampNeg p1) p2)))] := hD
              refine lv_iload_n hx hb dX5_setLocal_96 rfl (lv_at hl 0 rfl) ?_
              refine lv_iload_n hx hb dX5_setLocal_97 rfl (lv_at hl 2 rfl) ?_
              refine lv_icmp_le (tgt := 109) hx hb dX5_setLocal_98 (by decide) (fun c_37 => ?_) (fun c_37 => ?_)
              · replace hf := x_ip c_37 hf
                refine lv_aload_n hx hb dX5_setLocal_109 rfl (lv_at hl 1 rfl) ?_
                refine lv_iconst (v := 1) hx hb dX5_setLocal_110 (by decide) ?_
                refine va_put (D := (dC, dI)) (ci := 5) (v := .int 1) (ty := .boolean) (C := RX5) (T := TX5) (N := 10) hx hb hts i_X5_setLocal_X5 tyX5 tyX5_ok nmX5 hown hK hP hD hS 0 rfl rfl 7 (by decide) k_4 (fun _ h9 => h9) rfl (by decide +kernel) rfl rfl (Nat.le_of_ble_eq_true rfl) dX5_setLocal_111 (fun H locs hP hD hS => ?_)
                have hP : va_P (dC, dI) vwCl [(o5, .inr (5, [.ref o7, .ref a5_1, .int v5_2, .int v5_3, .int v5_4, .int v5_5, .int v5_6, .int 1, .int v5_8, .int v5_9])), (a5_1, .inl (cyI, 400, .inl (upd (upd g5_1 (Int32.toNatClampNeg (p1 - (1 : Int32))) 0) (Int32.toNatClampNeg p1) p2)))] H := hP
                have hD : va_D A [(o5, .inr (5, [.ref o7, .ref a5_1, .int v5_2, .int v5_3, .int v5_4, .int v5_5, .int v5_6, .int 1, .int v5_8, .int v5_9])), (a5_1, .inl (cyI, 400, .inl (upd (upd g5_1 (Int32.toNatClampNeg (p1 - (1 : Int32))) 0) (Int32.toNatClampNeg p1) p2)))] := hD
                obtain rfl := Option.some.inj hf
                have hP9 := hP.sub (ws' := [(o5, .inr (5, [.ref o7, .ref a5_1, .int v5_2, .int v5_3, .int v5_4, .int v5_5, .int v5_6, .int 1, .int v5_8, .int v5_9])), (a5_1, .inl (cyI, 400, .inl (upd (upd g5_1 (Int32.toNatClampNeg (p1 - (1 : Int32))) 0) (Int32.toNatClampNeg p1) p2)))]) [0, 1] rfl
                have hD9 := hD.sub (ws' := [(o5, .inr (5, [.ref o7, .ref a5_1, .int v5_2, .int v5_3, .int v5_4, .int v5_5, .int v5_6, .int 1, .int v5_8, .int v5_9])), (a5_1, .inl (cyI, 400, .inl (upd (upd g5_1 (Int32.toNatClampNeg (p1 - (1 : Int32))) 0) (Int32.toNatClampNeg p1) p2)))]) [0, 1] (by decide) rfl
                exact W.vret hx hb hr (fun t ht hW => ⟨⟨(), rfl, trivial, by rw [ht]; exact hP9, va_K.moved hW.alike hK, hD9⟩, hS.F ht⟩) hS.2.2 dX5_setLocal_114
              · replace hf := x_in c_37 hf
                refine lv_aload_n hx hb dX5_setLocal_101 rfl (lv_at hl 1 rfl) ?_
                refine va_get (D := (dC, dI)) (ci := 5) (v := .ref a5_1) (C := RX5) (T := TX5) (N := 10) hx hb hts i_X5_setLocal_X5 hown hK hP 0 rfl rfl 1 (by decide) k_3 (fun _ h9 => h9) rfl dX5_setLocal_102 ?_
                refine lv_iload_n hx hb dX5_setLocal_105 rfl (lv_at hl 0 rfl) ?_
                refine lv_bipush (v := 7) hx hb dX5_setLocal_106 (by decide) ?_
                obtain ⟨g_38, hf⟩ := x_gu hf
                refine va_iast hx hb hK hP hD hS 1 0 rfl rfl (x_gdin g_38) dX5_setLocal_108 (fun H locs hP hD hS => ?_)
                have hP : va_P (dC, dI) vwCl [(o5, .inr (5, [.ref o7, .ref a5_1, .int v5_2, .int v5_3, .int v5_4, .int v5_5, .int v5_6, .int v5_7, .int v5_8, .int v5_9])), (a5_1, .inl (cyI, 400, .inl (upd (upd (upd g5_1 (Int32.toNatClampNeg (p1 - (1 : Int32))) 0) (Int32.toNatClampNeg p1) p2) (Int32.toNatClampNeg p1) 7)))] H := hP
                have hD : va_D A [(o5, .inr (5, [.ref o7, .ref a5_1, .int v5_2, .int v5_3, .int v5_4, .int v5_5, .int v5_6, .int v5_7, .int v5_8, .int v5_9])), (a5_1, .inl (cyI, 400, .inl (upd (upd (upd g5_1 (Int32.toNatClampNeg (p1 - (1 : Int32))) 0) (Int32.toNatClampNeg p1) p2) (Int32.toNatClampNeg p1) 7)))] := hD
                refine lv_aload_n hx hb dX5_setLocal_109 rfl (lv_at hl 1 rfl) ?_
                refine lv_iconst (v := 1) hx hb dX5_setLocal_110 (by decide) ?_
                refine va_put (D := (dC, dI)) (ci := 5) (v := .int 1) (ty := .boolean) (C := RX5) (T := TX5) (N := 10) hx hb hts i_X5_setLocal_X5 tyX5 tyX5_ok nmX5 hown hK hP hD hS 0 rfl rfl 7 (by decide) k_4 (fun _ h9 => h9) rfl (by decide +kernel) rfl rfl (Nat.le_of_ble_eq_true rfl) dX5_setLocal_111 (fun H locs hP hD hS => ?_)
                have hP : va_P (dC, dI) vwCl [(o5, .inr (5, [.ref o7, .ref a5_1, .int v5_2, .int v5_3, .int v5_4, .int v5_5, .int v5_6, .int 1, .int v5_8, .int v5_9])), (a5_1, .inl (cyI, 400, .inl (upd (upd (upd g5_1 (Int32.toNatClampNeg (p1 - (1 : Int32))) 0) (Int32.toNatClampNeg p1) p2) (Int32.toNatClampNeg p1) 7)))] H := hP
                have hD : va_D A [(o5, .inr (5, [.ref o7, .ref a5_1, .int v5_2, .int v5_3, .int v5_4, .int v5_5, .int v5_6, .int 1, .int v5_8, .int v5_9])), (a5_1, .inl (cyI, 400, .inl (upd (upd (upd g5_1 (Int32.toNatClampNeg (p1 - (1 : Int32))) 0) (Int32.toNatClampNeg p1) p2) (Int32.toNatClampNeg p1) 7)))] := hD
                obtain rfl := Option.some.inj hf
                have hP9 := hP.sub (ws' := [(o5, .inr (5, [.ref o7, .ref a5_1, .int v5_2, .int v5_3, .int v5_4, .int v5_5, .int v5_6, .int 1, .int v5_8, .int v5_9])), (a5_1, .inl (cyI, 400, .inl (upd (upd (upd g5_1 (Int32.toNatClampNeg (p1 - (1 : Int32))) 0) (Int32.toNatClampNeg p1) p2) (Int32.toNatClampNeg p1) 7)))]) [0, 1] rfl
                have hD9 := hD.sub (ws' := [(o5, .inr (5, [.ref o7, .ref a5_1, .int v5_2, .int v5_3, .int v5_4, .int v5_5, .int v5_6, .int 1, .int v5_8, .int v5_9])), (a5_1, .inl (cyI, 400, .inl (upd (upd (upd g5_1 (Int32.toNatClampNeg (p1 - (1 : Int32))) 0) (Int32.toNatClampNeg p1) p2) (Int32.toNatClampNeg p1) 7)))]) [0, 1] (by decide) rfl
                exact W.vret hx hb hr (fun t ht hW => ⟨⟨(), rfl, trivial, by rw [ht]; exact hP9, va_K.moved hW.alike hK, hD9⟩, hS.F ht⟩) hS.2.2 dX5_setLocal_114
            · replace hf := x_in c_35 hf
              refine lv_aload_n hx hb dX5_setLocal_67 rfl (lv_at hl 1 rfl) ?_
              refine va_get (D := (dC, dI)) (ci := 5) (v := .ref a5_1) (C := RX5) (T := TX5) (N := 10) hx hb hts i_X5_setLocal_X5 hown hK hP 0 rfl rfl 1 (by decide) k_3 (fun _ h9 => h9) rfl dX5_setLocal_68 ?_
              refine lv_iload_n hx hb dX5_setLocal_71 rfl (lv_at hl 0 rfl) ?_
              refine lv_iconst (v := 1) hx hb dX5_setLocal_72 (by decide) ?_
              refine lv_iadd hx hb dX5_setLocal_73 ?_
              obtain ⟨g_39, hf⟩ := x_gu hf
              refine va_iald hx hb hK hP 1 0 rfl rfl (x_gdin g_39) dX5_setLocal_74 ?_
              refine lv_bipush (v := 7) hx hb dX5_setLocal_75 (by decide) ?_
              refine lv_icmp_ne (tgt := 89) hx hb dX5_setLocal_77 (by decide) (fun c_40 => ?_) (fun c_40 => ?_)
              · replace hf := x_in c_40 hf
                refine lv_aload_n hx hb dX5_setLocal_89 rfl (lv_at hl 1 rfl) ?_
                refine va_get (D := (dC, dI)) (ci := 5) (v := .ref a5_1) (C := RX5) (T := TX5) (N := 10) hx hb hts i_X5_setLocal_X5 hown hK hP 0 rfl rfl 1 (by decide) k_3 (fun _ h9 => h9) rfl dX5_setLocal_90 ?_
                refine lv_iload_n hx hb dX5_setLocal_93 rfl (lv_at hl 2 rfl) ?_
                refine lv_iload_n hx hb dX5_setLocal_94 rfl (lv_at hl 3 rfl) ?_
                obtain ⟨g_41, hf⟩ := x_gu hf
                refine va_iast hx hb hK hP hD hS 1 0 rfl rfl (x_gdin g_41) dX5_setLocal_95 (fun H locs hP hD hS => ?_)
                have hP : va_P (dC, dI) vwCl [(o5, .inr (5, [.ref o7, .ref a5_1, .int v5_2, .int v5_3, .int v5_4, .int v5_5, .int v5_6, .int v5_7, .int v5_8, .int v5_9])), (a5_1, .inl (cyI, 400, .inl (upd (upd g5_1 (Int32.toNatClampNeg (p1 - (1 : Int32))) 0) (Int32.toNatClampNeg p1) p2)))] H := hP
                have hD : va_D A [(o5, .inr (5, [.ref o7, .ref a5_1, .int v5_2, .int v5_3, .int v5_4, .int v5_5, .int v5_6, .int v5_7, .int v5_8, .int v5_9])), (a5_1, .inl (cyI, 400, .inl (upd (upd g5_1 (Int32.toNatClampNeg (p1 - (1 : Int32))) 0) (Int32.toNatClampNeg p1) p2)))] := hD
                refine lv_iload_n hx hb dX5_setLocal_96 rfl (lv_at hl 0 rfl) ?_
                refine lv_iload_n hx hb dX5_setLocal_97 rfl (lv_at hl 2 rfl) ?_
                refine lv_icmp_le (tgt := 109) hx hb dX5_setLocal_98 (by decide) (fun c_42 => ?_) (fun c_42 => ?_)
                · replace hf := x_ip c_42 hf
                  refine lv_aload_n hx hb dX5_setLocal_109 rfl (lv_at hl 1 rfl) ?_
                  refine lv_iconst (v := 1) hx hb dX5_setLocal_110 (by decide) ?_
                  refine va_put (D := (dC, dI)) (ci := 5) (v := .int 1) (ty := .boolean) (C := RX5) (T := TX5) (N := 10) hx hb hts i_X5_setLocal_X5 tyX5 tyX5_ok nmX5 hown hK hP hD hS 0 rfl rfl 7 (by decide) k_4 (fun _ h9 => h9) rfl (by decide +kernel) rfl rfl (Nat.le_of_ble_eq_true rfl) dX5_setLocal_111 (fun H locs hP hD hS => ?_)
                  have hP : va_P (dC, dI) vwCl [(o5, .inr (5, [.ref o7, .ref a5_1, .int v5_2, .int v5_3, .int v5_4, .int v5_5, .int v5_6, .int 1, .int v5_8, .int v5_9])), (a5_1, .inl (cyI, 400, .inl (upd (upd g5_1 (Int32.toNatClampNeg (p1 - (1 : Int32))) 0) (Int32.toNatClampNeg p1) p2)))] H := hP
                  have hD : va_D A [(o5, .inr (5, [.ref o7, .ref a5_1, .int v5_2, .int v5_3, .int v5_4, .int v5_5, .int v5_6, .int 1, .int v5_8, .int v5_9])), (a5_1, .inl (cyI, 400, .inl (upd (upd g5_1 (Int32.toNatClampNeg (p1 - (1 : Int32))) 0) (Int32.toNatClampNeg p1) p2)))] := hD
                  obtain rfl := Option.some.inj hf
                  have hP9 := hP.sub (ws' := [(o5, .inr (5, [.ref o7, .ref a5_1, .int v5_2, .int v5_3, .int v5_4, .int v5_5, .int v5_6, .int 1, .int v5_8, .int v5_9])), (a5_1, .inl (cyI, 400, .inl (upd (upd g5_1 (Int32.toNatClampNeg (p1 - (1 : Int32))) 0) (Int32.toNatClampNeg p1) p2)))]) [0, 1] rfl
                  have hD9 := hD.sub (ws' := [(o5, .inr (5, [.ref o7, .ref a5_1, .int v5_2, .int v5_3, .int v5_4, .int v5_5, .int v5_6, .int 1, .int v5_8, .int v5_9])), (a5_1, .inl (cyI, 400, .inl (upd (upd g5_1 (Int32.toNatClampNeg (p1 - (1 : Int32))) 0) (Int32.toNatClampNeg p1) p2)))]) [0, 1] (by decide) rfl
                  exact W.vret hx hb hr (fun t ht hW => ⟨⟨(), rfl, trivial, by rw [ht]; exact hP9, va_K.moved hW.alike hK, hD9⟩, hS.F ht⟩) hS.2.2 dX5_setLocal_114
                · replace hf := x_in c_42 hf
                  refine lv_aload_n hx hb dX5_setLocal_101 rfl (lv_at hl 1 rfl) ?_
                  refine va_get (D := (dC, dI)) (ci := 5) (v := .ref a5_1) (C := RX5) (T := TX5) (N := 10) hx hb hts i_X5_setLocal_X5 hown hK hP 0 rfl rfl 1 (by decide) k_3 (fun _ h9 => h9) rfl dX5_setLocal_102 ?_
                  refine lv_iload_n hx hb dX5_setLocal_105 rfl (lv_at hl 0 rfl) ?_
                  refine lv_bipush (v := 7) hx hb dX5_setLocal_106 (by decide) ?_
                  obtain ⟨g_43, hf⟩ := x_gu hf
                  refine va_iast hx hb hK hP hD hS 1 0 rfl rfl (x_gdin g_43) dX5_setLocal_108 (fun H locs hP hD hS => ?_)
                  have hP : va_P (dC, dI) vwCl [(o5, .inr (5, [.ref o7, .ref a5_1, .int v5_2, .int v5_3, .int v5_4, .int v5_5, .int v5_6, .int v5_7, .int v5_8, .int v5_9])), (a5_1, .inl (cyI, 400, .inl (upd (upd (upd g5_1 (Int32.toNatClampNeg (p1 - (1 : Int32))) 0) (Int32.toNatClampNeg p1) p2) (Int32.toNatClampNeg p1) 7)))] H := hP
                  have hD : va_D A [(o5, .inr (5, [.ref o7, .ref a5_1, .int v5_2, .int v5_3, .int v5_4, .int v5_5, .int v5_6, .int v5_7, .int v5_8, .int v5_9])), (a5_1, .inl (cyI, 400, .inl (upd (upd (upd g5_1 (Int32.toNatClampNeg (p1 - (1 : Int32))) 0) (Int32.toNatClampNeg p1) p2) (Int32.toNatClampNeg p1) 7)))] := hD
                  refine lv_aload_n hx hb dX5_setLocal_109 rfl (lv_at hl 1 rfl) ?_
                  refine lv_iconst (v := 1) hx hb dX5_setLocal_110 (by decide) ?_
                  refine va_put (D := (dC, dI)) (ci := 5) (v := .int 1) (ty := .boolean) (C := RX5) (T := TX5) (N := 10) hx hb hts i_X5_setLocal_X5 tyX5 tyX5_ok nmX5 hown hK hP hD hS 0 rfl rfl 7 (by decide) k_4 (fun _ h9 => h9) rfl (by decide +kernel) rfl rfl (Nat.le_of_ble_eq_true rfl) dX5_setLocal_111 (fun H locs hP hD hS => ?_)
                  have hP : va_P (dC, dI) vwCl [(o5, .inr (5, [.ref o7, .ref a5_1, .int v5_2, .int v5_3, .int v5_4, .int v5_5, .int v5_6, .int 1, .int v5_8, .int v5_9])), (a5_1, .inl (cyI, 400, .inl (upd (upd (upd g5_1 (Int32.toNatClampNeg (p1 - (1 : Int32))) 0) (Int32.toNatClampNeg p1) p2) (Int32.toNatClampNeg p1) 7)))] H := hP
                  have hD : va_D A [(o5, .inr (5, [.ref o7, .ref a5_1, .int v5_2, .int v5_3, .int v5_4, .int v5_5, .int v5_6, .int 1, .int v5_8, .int v5_9])), (a5_1, .inl (cyI, 400, .inl (upd (upd (upd g5_1 (Int32.toNatClampNeg (p1 - (1 : Int32))) 0) (Int32.toNatClampNeg p1) p2) (Int32.toNatClampNeg p1) 7)))] := hD
                  obtain rfl := Option.some.inj hf
                  have hP9 := hP.sub (ws' := [(o5, .inr (5, [.ref o7, .ref a5_1, .int v5_2, .int v5_3, .int v5_4, .int v5_5, .int v5_6, .int 1, .int v5_8, .int v5_9])), (a5_1, .inl (cyI, 400, .inl (upd (upd (upd g5_1 (Int32.toNatClampNeg (p1 - (1 : Int32))) 0) (Int32.toNatClampNeg p1) p2) (Int32.toNatClampNeg p1) 7)))]) [0, 1] rfl
                  have hD9 := hD.sub (ws' := [(o5, .inr (5, [.ref o7, .ref a5_1, .int v5_2, .int v5_3, .int v5_4, .int v5_5, .int v5_6, .int 1, .int v5_8, .int v5_9])), (a5_1, .inl (cyI, 400, .inl (upd (upd (upd g5_1 (Int32.toNatClampNeg (p1 - (1 : Int32))) 0) (Int32.toNatClampNeg p1) p2) (Int32.toNatClampNeg p1) 7)))]) [0, 1] (by decide) rfl
                  exact W.vret hx hb hr (fun t ht hW => ⟨⟨(), rfl, trivial, by rw [ht]; exact hP9, va_K.moved hW.alike hK, hD9⟩, hS.F ht⟩) hS.2.2 dX5_setLocal_114
              · replace hf := x_ip c_40 hf
                refine lv_aload_n hx hb dX5_setLocal_80 rfl (lv_at hl 1 rfl) ?_
                refine va_get (D := (dC, dI)) (ci := 5) (v := .ref a5_1) (C := RX5) (T := TX5) (N := 10) hx hb hts i_X5_setLocal_X5 hown hK hP 0 rfl rfl 1 (by decide) k_3 (fun _ h9 => h9) rfl dX5_setLocal_81 ?_
                refine lv_iload_n hx hb dX5_setLocal_84 rfl (lv_at hl 0 rfl) ?_
                refine lv_iconst (v := 1) hx hb dX5_setLocal_85 (by decide) ?_
                refine lv_iadd hx hb dX5_setLocal_86 ?_
                refine lv_iconst (v := 0) hx hb dX5_setLocal_87 (by decide) ?_
                obtain ⟨g_44, hf⟩ := x_gu hf
                refine va_iast hx hb hK hP hD hS 1 0 rfl rfl (x_gdin g_44) dX5_setLocal_88 (fun H locs hP hD hS => ?_)
                have hP : va_P (dC, dI) vwCl [(o5, .inr (5, [.ref o7, .ref a5_1, .int v5_2, .int v5_3, .int v5_4, .int v5_5, .int v5_6, .int v5_7, .int v5_8, .int v5_9])), (a5_1, .inl (cyI, 400, .inl (upd (upd g5_1 (Int32.toNatClampNeg (p1 - (1 : Int32))) 0) (Int32.toNatClampNeg (p1 + (1 : Int32))) 0)))] H := hP
                have hD : va_D A [(o5, .inr (5, [.ref o7, .ref a5_1, .int v5_2, .int v5_3, .int v5_4, .int v5_5, .int v5_6, .int v5_7, .int v5_8, .int v5_9])), (a5_1, .inl (cyI, 400, .inl (upd (upd g5_1 (Int32.toNatClampNeg (p1 - (1 : Int32))) 0) (Int32.toNatClampNeg (p1 + (1 : Int32))) 0)))] := hD
                refine lv_aload_n hx hb dX5_setLocal_89 rfl (lv_at hl 1 rfl) ?_
                refine va_get (D := (dC, dI)) (ci := 5) (v := .ref a5_1) (C := RX5) (T := TX5) (N := 10) hx hb hts i_X5_setLocal_X5 hown hK hP 0 rfl rfl 1 (by decide) k_3 (fun _ h9 => h9) rfl dX5_setLocal_90 ?_
                refine lv_iload_n hx hb dX5_setLocal_93 rfl (lv_at hl 2 rfl) ?_
                refine lv_iload_n hx hb dX5_setLocal_94 rfl (lv_at hl 3 rfl) ?_
                obtain ⟨g_45, hf⟩ := x_gu hf
                refine va_iast hx hb hK hP hD hS 1 0 rfl rfl (x_gdin g_45) dX5_setLocal_95 (fun H locs hP hD hS => ?_)
                have hP : va_P (dC, dI) vwCl [(o5, .inr (5, [.ref o7, .ref a5_1, .int v5_2, .int v5_3, .int v5_4, .int v5_5, .int v5_6, .int v5_7, .int v5_8, .int v5_9])), (a5_1, .inl (cyI, 400, .inl (upd (upd (upd g5_1 (Int32.toNatClampNeg (p1 - (1 : Int32))) 0) (Int32.toNatClampNeg (p1 + (1 : Int32))) 0) (Int32.toNatClampNeg p1) p2)))] H := hP
                have hD : va_D A [(o5, .inr (5, [.ref o7, .ref a5_1, .int v5_2, .int v5_3, .int v5_4, .int v5_5, .int v5_6, .int v5_7, .int v5_8, .int v5_9])), (a5_1, .inl (cyI, 400, .inl (upd (upd (upd g5_1 (Int32.toNatClampNeg (p1 - (1 : Int32))) 0) (Int32.toNatClampNeg (p1 + (1 : Int32))) 0) (Int32.toNatClampNeg p1) p2)))] := hD
                refine lv_iload_n hx hb dX5_setLocal_96 rfl (lv_at hl 0 rfl) ?_
                refine lv_iload_n hx hb dX5_setLocal_97 rfl (lv_at hl 2 rfl) ?_
                refine lv_icmp_le (tgt := 109) hx hb dX5_setLocal_98 (by decide) (fun c_46 => ?_) (fun c_46 => ?_)
                · replace hf := x_ip c_46 hf
                  refine lv_aload_n hx hb dX5_setLocal_109 rfl (lv_at hl 1 rfl) ?_
                  refine lv_iconst (v := 1) hx hb dX5_setLocal_110 (by decide) ?_
                  refine va_put (D := (dC, dI)) (ci := 5) (v := .int 1) (ty := .boolean) (C := RX5) (T := TX5) (N := 10) hx hb hts i_X5_setLocal_X5 tyX5 tyX5_ok nmX5 hown hK hP hD hS 0 rfl rfl 7 (by decide) k_4 (fun _ h9 => h9) rfl (by decide +kernel) rfl rfl (Nat.le_of_ble_eq_true rfl) dX5_setLocal_111 (fun H locs hP hD hS => ?_)
                  have hP : va_P (dC, dI) vwCl [(o5, .inr (5, [.ref o7, .ref a5_1, .int v5_2, .int v5_3, .int v5_4, .int v5_5, .int v5_6, .int 1, .int v5_8, .int v5_9])), (a5_1, .inl (cyI, 400, .inl (upd (upd (upd g5_1 (Int32.toNatClampNeg (p1 - (1 : Int32))) 0) (Int32.toNatClampNeg (p1 + (1 : Int32))) 0) (Int32.toNatClampNeg p1) p2)))] H := hP
                  have hD : va_D A [(o5, .inr (5, [.ref o7, .ref a5_1, .int v5_2, .int v5_3, .int v5_4, .int v5_5, .int v5_6, .int 1, .int v5_8, .int v5_9])), (a5_1, .inl (cyI, 400, .inl (upd (upd (upd g5_1 (Int32.toNatClampNeg (p1 - (1 : Int32))) 0) (Int32.toNatClampNeg (p1 + (1 : Int32))) 0) (Int32.toNatClampNeg p1) p2)))] := hD
                  obtain rfl := Option.some.inj hf
                  have hP9 := hP.sub (ws' := [(o5, .inr (5, [.ref o7, .ref a5_1, .int v5_2, .int v5_3, .int v5_4, .int v5_5, .int v5_6, .int 1, .int v5_8, .int v5_9])), (a5_1, .inl (cyI, 400, .inl (upd (upd (upd g5_1 (Int32.toNatClampNeg (p1 - (1 : Int32))) 0) (Int32.toNatClampNeg (p1 + (1 : Int32))) 0) (Int32.toNatClampNeg p1) p2)))]) [0, 1] rfl
                  have hD9 := hD.sub (ws' := [(o5, .inr (5, [.ref o7, .ref a5_1, .int v5_2, .int v5_3, .int v5_4, .int v5_5, .int v5_6, .int 1, .int v5_8, .int v5_9])), (a5_1, .inl (cyI, 400, .inl (upd (upd (upd g5_1 (Int32.toNatClampNeg (p1 - (1 : Int32))) 0) (Int32.toNatClampNeg (p1 + (1 : Int32))) 0) (Int32.toNatClampNeg p1) p2)))]) [0, 1] (by decide) rfl
                  exact W.vret hx hb hr (fun t ht hW => ⟨⟨(), rfl, trivial, by rw [ht]; exact hP9, va_K.moved hW.alike hK, hD9⟩, hS.F ht⟩) hS.2.2 dX5_setLocal_114
                · replace hf := x_in c_46 hf
                  refine lv_aload_n hx hb dX5_setLocal_101 rfl (lv_at hl 1 rfl) ?_
                  refine va_get (D := (dC, dI)) (ci := 5) (v := .ref a5_1) (C := RX5) (T := TX5) (N := 10) hx hb hts i_X5_setLocal_X5 hown hK hP 0 rfl rfl 1 (by decide) k_3 (fun _ h9 => h9) rfl dX5_setLocal_102 ?_
                  refine lv_iload_n hx hb dX5_setLocal_105 rfl (lv_at hl 0 rfl) ?_
                  refine lv_bipush (v := 7) hx hb dX5_setLocal_106 (by decide) ?_
                  obtain ⟨g_47, hf⟩ := x_gu hf
                  refine va_iast hx hb hK hP hD hS 1 0 rfl rfl (x_gdin g_47) dX5_setLocal_108 (fun H locs hP hD hS => ?_)
                  have hP : va_P (dC, dI) vwCl [(o5, .inr (5, [.ref o7, .ref a5_1, .int v5_2, .int v5_3, .int v5_4, .int v5_5, .int v5_6, .int v5_7, .int v5_8, .int v5_9])), (a5_1, .inl (cyI, 400, .inl (upd (upd (upd (upd g5_1 (Int32.toNatClampNeg (p1 - (1 : Int32))) 0) (Int32.toNatClampNeg (p1 + (1 : Int32))) 0) (Int32.toNatClampNeg p1) p2) (Int32.toNatClampNeg p1) 7)))] H := hP
                  have hD : va_D A [(o5, .inr (5, [.ref o7, .ref a5_1, .int v5_2, .int v5_3, .int v5_4, .int v5_5, .int v5_6, .int v5_7, .int v5_8, .int v5_9])), (a5_1, .inl (cyI, 400, .inl (upd (upd (upd (upd g5_1 (Int32.toNatClampNeg (p1 - (1 : Int32))) 0) (Int32.toNatClampNeg (p1 + (1 : Int32))) 0) (Int32.toNatClampNeg p1) p2) (Int32.toNatClampNeg p1) 7)))] := hD
                  refine lv_aload_n hx hb dX5_setLocal_109 rfl (lv_at hl 1 rfl) ?_
                  refine lv_iconst (v := 1) hx hb dX5_setLocal_110 (by decide) ?_
                  refine va_put (D := (dC, dI)) (ci := 5) (v := .int 1) (ty := .boolean) (C := RX5) (T := TX5) (N := 10) hx hb hts i_X5_setLocal_X5 tyX5 tyX5_ok nmX5 hown hK hP hD hS 0 rfl rfl 7 (by decide) k_4 (fun _ h9 => h9) rfl (by decide +kernel) rfl rfl (Nat.le_of_ble_eq_true rfl) dX5_setLocal_111 (fun H locs hP hD hS => ?_)
                  have hP : va_P (dC, dI) vwCl [(o5, .inr (5, [.ref o7, .ref a5_1, .int v5_2, .int v5_3, .int v5_4, .int v5_5, .int v5_6, .int 1, .int v5_8, .int v5_9])), (a5_1, .inl (cyI, 400, .inl (upd (upd (upd (upd g5_1 (Int32.toNatClampNeg (p1 - (1 : Int32))) 0) (Int32.toNatClampNeg (p1 + (1 : Int32))) 0) (Int32.toNatClampNeg p1) p2) (Int32.toNatClampNeg p1) 7)))] H := hP
                  have hD : va_D A [(o5, .inr (5, [.ref o7, .ref a5_1, .int v5_2, .int v5_3, .int v5_4, .int v5_5, .int v5_6, .int 1, .int v5_8, .int v5_9])), (a5_1, .inl (cyI, 400, .inl (upd (upd (upd (upd g5_1 (Int32.toNatClampNeg (p1 - (1 : Int32))) 0) (Int32.toNatClampNeg (p1 + (1 : Int32))) 0) (Int32.toNatClampNeg p1) p2) (Int32.toNatClampNeg p1) 7)))] := hD
                  obtain rfl := Option.some.inj hf
                  have hP9 := hP.sub (ws' := [(o5, .inr (5, [.ref o7, .ref a5_1, .int v5_2, .int v5_3, .int v5_4, .int v5_5, .int v5_6, .int 1, .int v5_8, .int v5_9])), (a5_1, .inl (cyI, 400, .inl (upd (upd (upd (upd g5_1 (Int32.toNatClampNeg (p1 - (1 : Int32))) 0) (Int32.toNatClampNeg (p1 + (1 : Int32))) 0) (Int32.toNatClampNeg p1) p2) (Int32.toNatClampNeg p1) 7)))]) [0, 1] rfl
                  have hD9 := hD.sub (ws' := [(o5, .inr (5, [.ref o7, .ref a5_1, .int v5_2, .int v5_3, .int v5_4, .int v5_5, .int v5_6, .int 1, .int v5_8, .int v5_9])), (a5_1, .inl (cyI, 400, .inl (upd (upd (upd (upd g5_1 (Int32.toNatClampNeg (p1 - (1 : Int32))) 0) (Int32.toNatClampNeg (p1 + (1 : Int32))) 0) (Int32.toNatClampNeg p1) p2) (Int32.toNatClampNeg p1) 7)))]) [0, 1] (by decide) rfl
                  exact W.vret hx hb hr (fun t ht hW => ⟨⟨(), rfl, trivial, by rw [ht]; exact hP9, va_K.moved hW.alike hK, hD9⟩, hS.F ht⟩) hS.2.2 dX5_setLocal_114
      · replace hf := x_in c_4 hf
        refine lv_aload_n hx hb dX5_setLocal_27 rfl (lv_at hl 1 rfl) ?_
        refine lv_iconst (v := 1) hx hb dX5_setLocal_28 (by decide) ?_
        refine va_put (D := (dC, dI)) (ci := 5) (v := .int 1) (ty := .boolean) (C := RX5) (T := TX5) (N := 10) hx hb hts i_X5_setLocal_X5 tyX5 tyX5_ok nmX5 hown hK hP hD hS 0 rfl rfl 6 (by decide) k_1 (fun _ h9 => h9) rfl (by decide +kernel) rfl rfl (Nat.le_of_ble_eq_true rfl) dX5_setLocal_29 (fun H locs hP hD hS => ?_)
        have hP : va_P (dC, dI) vwCl [(o5, .inr (5, [.ref o7, .ref a5_1, .int v5_2, .int v5_3, .int v5_4, .int v5_5, .int 1, .int v5_7, .int v5_8, .int v5_9])), (a5_1, .inl (cyI, 400, .inl g5_1))] H := hP
        have hD : va_D A [(o5, .inr (5, [.ref o7, .ref a5_1, .int v5_2, .int v5_3, .int v5_4, .int v5_5, .int 1, .int v5_7, .int v5_8, .int v5_9])), (a5_1, .inl (cyI, 400, .inl g5_1))] := hD
        obtain rfl := Option.some.inj hf
        have hP9 := hP.sub (ws' := [(o5, .inr (5, [.ref o7, .ref a5_1, .int v5_2, .int v5_3, .int v5_4, .int v5_5, .int 1, .int v5_7, .int v5_8, .int v5_9])), (a5_1, .inl (cyI, 400, .inl g5_1))]) [0, 1] rfl
        have hD9 := hD.sub (ws' := [(o5, .inr (5, [.ref o7, .ref a5_1, .int v5_2, .int v5_3, .int v5_4, .int v5_5, .int 1, .int v5_7, .int v5_8, .int v5_9])), (a5_1, .inl (cyI, 400, .inl g5_1))]) [0, 1] (by decide) rfl
        exact W.vret hx hb hr (fun t ht hW => ⟨⟨(), rfl, trivial, by rw [ht]; exact hP9, va_K.moved hW.alike hK, hD9⟩, hS.F ht⟩) hS.2.2 dX5_setLocal_32
  · replace hf := x_in c_2 hf
    refine lv_iload_n hx hb dX5_setLocal_7 rfl (lv_at hl 1 rfl) ?_
    refine lv_iconst (v := 1) hx hb dX5_setLocal_8 (by decide) ?_
    refine lv_iadd hx hb dX5_setLocal_9 ?_
    refine lv_goto (tgt := 14) hx hb dX5_setLocal_10 (by decide) ?_
    refine lv_istore_n (lv' := [(3, .int (p1 + (1 : Int32))), (0, .ref o5), (1, .int p1), (2, .int p2)]) hx hb dX5_setLocal_14 rfl hl (by decide) rfl (fun ls hl => ?_)
    refine lv_iload_n hx hb dX5_setLocal_15 rfl (lv_at hl 2 rfl) ?_
    refine lv_if_lt (tgt := 27) hx hb dX5_setLocal_16 (by decide) (fun c_48 => ?_) (fun c_48 => ?_)
    · replace hf := x_ip c_48 hf
      refine lv_aload_n hx hb dX5_setLocal_27 rfl (lv_at hl 1 rfl) ?_
      refine lv_iconst (v := 1) hx hb dX5_setLocal_28 (by decide) ?_
      refine va_put (D := (dC, dI)) (ci := 5) (v := .int 1) (ty := .boolean) (C := RX5) (T := TX5) (N := 10) hx hb hts i_X5_setLocal_X5 tyX5 tyX5_ok nmX5 hown hK hP hD hS 0 rfl rfl 6 (by decide) k_1 (fun _ h9 => h9) rfl (by decide +kernel) rfl rfl (Nat.le_of_ble_eq_true rfl) dX5_setLocal_29 (fun H locs hP hD hS => ?_)
      have hP : va_P (dC, dI) vwCl [(o5, .inr (5, [.ref o7, .ref a5_1, .int v5_2, .int v5_3, .int v5_4, .int v5_5, .int 1, .int v5_7, .int v5_8, .int v5_9])), (a5_1, .inl (cyI, 400, .inl g5_1))] H := hP
      have hD : va_D A [(o5, .inr (5, [.ref o7, .ref a5_1, .int v5_2, .int v5_3, .int v5_4, .int v5_5, .int 1, .int v5_7, .int v5_8, .int v5_9])), (a5_1, .inl (cyI, 400, .inl g5_1))] := hD
      obtain rfl := Option.some.inj hf
      have hP9 := hP.sub (ws' := [(o5, .inr (5, [.ref o7, .ref a5_1, .int v5_2, .int v5_3, .int v5_4, .int v5_5, .int 1, .int v5_7, .int v5_8, .int v5_9])), (a5_1, .inl (cyI, 400, .inl g5_1))]) [0, 1] rfl
      have hD9 := hD.sub (ws' := [(o5, .inr (5, [.ref o7, .ref a5_1, .int v5_2, .int v5_3, .int v5_4, .int v5_5, .int 1, .int v5_7, .int v5_8, .int v5_9])), (a5_1, .inl (cyI, 400, .inl g5_1))]) [0, 1] (by decide) rfl
      exact W.vret hx hb hr (fun t ht hW => ⟨⟨(), rfl, trivial, by rw [ht]; exact hP9, va_K.moved hW.alike hK, hD9⟩, hS.F ht⟩) hS.2.2 dX5_setLocal_32
    · replace hf := x_in c_48 hf
      refine lv_iload_n hx hb dX5_setLocal_19 rfl (lv_at hl 0 rfl) ?_
      refine lv_aload_n hx hb dX5_setLocal_20 rfl (lv_at hl 1 rfl) ?_
      refine va_get (D := (dC, dI)) (ci := 5) (v := .int v5_2) (C := RX5) (T := TX5) (N := 10) hx hb hts i_X5_setLocal_X5 hown hK hP 0 rfl rfl 2 (by decide) k_2 (fun _ h9 => h9) rfl dX5_setLocal_21 ?_
      refine lv_icmp_lt (tgt := 33) hx hb dX5_setLocal_24 (by decide) (fun c_49 => ?_) (fun c_49 => ?_)
      · replace hf := x_ip c_49 hf
        refine lv_iload_n hx hb dX5_setLocal_33 rfl (lv_at hl 2 rfl) ?_
        refine lv_if_le (tgt := 57) hx hb dX5_setLocal_34 (by decide) (fun c_50 => ?_) (fun c_50 => ?_)
        · replace hf := x_ip c_50 hf
          refine lv_iload_n hx hb dX5_setLocal_57 rfl (lv_at hl 0 rfl) ?_
          refine lv_iconst (v := 1) hx hb dX5_setLocal_58 (by decide) ?_
          refine lv_iadd hx hb dX5_setLocal_59 ?_
          refine lv_aload_n hx hb dX5_setLocal_60 rfl (lv_at hl 1 rfl) ?_
          refine va_get (D := (dC, dI)) (ci := 5) (v := .int v5_2) (C := RX5) (T := TX5) (N := 10) hx hb hts i_X5_setLocal_X5 hown hK hP 0 rfl rfl 2 (by decide) k_2 (fun _ h9 => h9) rfl dX5_setLocal_61 ?_
          refine lv_icmp_ge (tgt := 89) hx hb dX5_setLocal_64 (by decide) (fun c_51 => ?_) (fun c_51 => ?_)
          · replace hf := x_ip c_51 hf
            refine lv_aload_n hx hb dX5_setLocal_89 rfl (lv_at hl 1 rfl) ?_
            refine va_get (D := (dC, dI)) (ci := 5) (v := .ref a5_1) (C := RX5) (T := TX5) (N := 10) hx hb hts i_X5_setLocal_X5 hown hK hP 0 rfl rfl 1 (by decide) k_3 (fun _ h9 => h9) rfl dX5_setLocal_90 ?_
            refine lv_iload_n hx hb dX5_setLocal_93 rfl (lv_at hl 2 rfl) ?_
            refine lv_iload_n hx hb dX5_setLocal_94 rfl (lv_at hl 3 rfl) ?_
            obtain ⟨g_52, hf⟩ := x_gu hf
            refine va_iast hx hb hK hP hD hS 1 0 rfl rfl (x_gdin g_52) dX5_setLocal_95 (fun H locs hP hD hS => ?_)
            have hP : va_P (dC, dI) vwCl [(o5, .inr (5, [.ref o7, .ref a5_1, .int v5_2, .int v5_3, .int v5_4, .int v5_5, .int v5_6, .int v5_7, .int v5_8, .int v5_9])), (a5_1, .inl (cyI, 400, .inl (upd g5_1 (Int32.toNatClampNeg p1) p2)))] H := hP
            have hD : va_D A [(o5, .inr (5, [.ref o7, .ref a5_1, .int v5_2, .int v5_3, .int v5_4, .int v5_5, .int v5_6, .int v5_7, .int v5_8, .int v5_9])), (a5_1, .inl (cyI, 400, .inl (upd g5_1 (Int32.toNatClampNeg p1) p2)))] := hD
            refine lv_iload_n hx hb dX5_setLocal_96 rfl (lv_at hl 0 rfl) ?_
            refine lv_iload_n hx hb dX5_setLocal_97 rfl (lv_at hl 2 rfl) ?_
            refine lv_icmp_le (tgt := 109) hx hb dX5_setLocal_98 (by decide) (fun c_53 => ?_) (fun c_53 => ?_)
            · replace hf := x_ip c_53 hf
              refine lv_aload_n hx hb dX5_setLocal_109 rfl (lv_at hl 1 rfl) ?_
              refine lv_iconst (v := 1) hx hb dX5_setLocal_110 (by decide) ?_
              refine va_put (D := (dC, dI)) (ci := 5) (v := .int 1) (ty := .boolean) (C := RX5) (T := TX5) (N := 10) hx hb hts i_X5_setLocal_X5 tyX5 tyX5_ok nmX5 hown hK hP hD hS 0 rfl rfl 7 (by decide) k_4 (fun _ h9 => h9) rfl (by decide +kernel) rfl rfl (Nat.le_of_ble_eq_true rfl) dX5_setLocal_111 (fun H locs hP hD hS => ?_)
              have hP : va_P (dC, dI) vwCl [(o5, .inr (5, [.ref o7, .ref a5_1, .int v5_2, .int v5_3, .int v5_4, .int v5_5, .int v5_6, .int 1, .int v5_8, .int v5_9])), (a5_1, .inl (cyI, 400, .inl (upd g5_1 (Int32.toNatClampNeg p1) p2)))] H := hP
              have hD : va_D A [(o5, .inr (5, [.ref o7, .ref a5_1, .int v5_2, .int v5_3, .int v5_4, .int v5_5, .int v5_6, .int 1, .int v5_8, .int v5_9])), (a5_1, .inl (cyI, 400, .inl (upd g5_1 (Int32.toNatClampNeg p1) p2)))] := hD
              obtain rfl := Option.some.inj hf
              have hP9 := hP.sub (ws' := [(o5, .inr (5, [.ref o7, .ref a5_1, .int v5_2, .int v5_3, .int v5_4, .int v5_5, .int v5_6, .int 1, .int v5_8, .int v5_9])), (a5_1, .inl (cyI, 400, .inl (upd g5_1 (Int32.toNatClampNeg p1) p2)))]) [0, 1] rfl
              have hD9 := hD.sub (ws' := [(o5, .inr (5, [.ref o7, .ref a5_1, .int v5_2, .int v5_3, .int v5_4, .int v5_5, .int v5_6, .int 1, .int v5_8, .int v5_9])), (a5_1, .inl (cyI, 400, .inl (upd g5_1 (Int32.toNatClampNeg p1) p2)))]) [0, 1] (by decide) rfl
              exact W.vret hx hb hr (fun t ht hW => ⟨⟨(), rfl, trivial, by rw [ht]; exact hP9, va_K.moved hW.alike hK, hD9⟩, hS.F ht⟩) hS.2.2 dX5_setLocal_114
            · replace hf := x_in c_53 hf
              refine lv_aload_n hx hb dX5_setLocal_101 rfl (lv_at hl 1 rfl) ?_
              refine va_get (D := (dC, dI)) (ci := 5) (v := .ref a5_1) (C := RX5) (T := TX5) (N := 10) hx hb hts i_X5_setLocal_X5 hown hK hP 0 rfl rfl 1 (by decide) k_3 (fun _ h9 => h9) rfl dX5_setLocal_102 ?_
              refine lv_iload_n hx hb dX5_setLocal_105 rfl (lv_at hl 0 rfl) ?_
              refine lv_bipush (v := 7) hx hb dX5_setLocal_106 (by decide) ?_
              obtain ⟨g_54, hf⟩ := x_gu hf
              refine va_iast hx hb hK hP hD hS 1 0 rfl rfl (x_gdin g_54) dX5_setLocal_108 (fun H locs hP hD hS => ?_)
              have hP : va_P (dC, dI) vwCl [(o5, .inr (5, [.ref o7, .ref a5_1, .int v5_2, .int v5_3, .int v5_4, .int v5_5, .int v5_6, .int v5_7, .int v5_8, .int v5_9])), (a5_1, .inl (cyI, 400, .inl (upd (upd g5_1 (Int32.toNatClampNeg p1) p2) (Int32.toNatClampNeg (p1 + (1 : Int32))) 7)))] H := hP
              have hD : va_D A [(o5, .inr (5, [.ref o7, .ref a5_1, .int v5_2, .int v5_3, .int v5_4, .int v5_5, .int v5_6, .int v5_7, .int v5_8, .int v5_9])), (a5_1, .inl (cyI, 400, .inl (upd (upd g5_1 (Int32.toNatClampNeg p1) p2) (Int32.toNatClampNeg (p1 + (1 : Int32))) 7)))] := hD
              refine lv_aload_n hx hb dX5_setLocal_109 rfl (lv_at hl 1 rfl) ?_
              refine lv_iconst (v := 1) hx hb dX5_setLocal_110 (by decide) ?_
              refine va_put (D := (dC, dI)) (ci := 5) (v := .int 1) (ty := .boolean) (C := RX5) (T := TX5) (N := 10) hx hb hts i_X5_setLocal_X5 tyX5 tyX5_ok nmX5 hown hK hP hD hS 0 rfl rfl 7 (by decide) k_4 (fun _ h9 => h9) rfl (by decide +kernel) rfl rfl (Nat.le_of_ble_eq_true rfl) dX5_setLocal_111 (fun H locs hP hD hS => ?_)
              have hP : va_P (dC, dI) vwCl [(o5, .inr (5, [.ref o7, .ref a5_1, .int v5_2, .int v5_3, .int v5_4, .int v5_5, .int v5_6, .int 1, .int v5_8, .int v5_9])), (a5_1, .inl (cyI, 400, .inl (upd (upd g5_1 (Int32.toNatClampNeg p1) p2) (Int32.toNatClampNeg (p1 + (1 : Int32))) 7)))] H := hP
              have hD : va_D A [(o5, .inr (5, [.ref o7, .ref a5_1, .int v5_2, .int v5_3, .int v5_4, .int v5_5, .int v5_6, .int 1, .int v5_8, .int v5_9])), (a5_1, .inl (cyI, 400, .inl (upd (upd g5_1 (Int32.toNatClampNeg p1) p2) (Int32.toNatClampNeg (p1 + (1 : Int32))) 7)))] := hD
              obtain rfl := Option.some.inj hf
              have hP9 := hP.sub (ws' := [(o5, .inr (5, [.ref o7, .ref a5_1, .int v5_2, .int v5_3, .int v5_4, .int v5_5, .int v5_6, .int 1, .int v5_8, .int v5_9])), (a5_1, .inl (cyI, 400, .inl (upd (upd g5_1 (Int32.toNatClampNeg p1) p2) (Int32.toNatClampNeg (p1 + (1 : Int32))) 7)))]) [0, 1] rfl
              have hD9 := hD.sub (ws' := [(o5, .inr (5, [.ref o7, .ref a5_1, .int v5_2, .int v5_3, .int v5_4, .int v5_5, .int v5_6, .int 1, .int v5_8, .int v5_9])), (a5_1, .inl (cyI, 400, .inl (upd (upd g5_1 (Int32.toNatClampNeg p1) p2) (Int32.toNatClampNeg (p1 + (1 : Int32))) 7)))]) [0, 1] (by decide) rfl
              exact W.vret hx hb hr (fun t ht hW => ⟨⟨(), rfl, trivial, by rw [ht]; exact hP9, va_K.moved hW.alike hK, hD9⟩, hS.F ht⟩) hS.2.2 dX5_setLocal_114
          · replace hf := x_in c_51 hf
            refine lv_aload_n hx hb dX5_setLocal_67 rfl (lv_at hl 1 rfl) ?_
            refine va_get (D := (dC, dI)) (ci := 5) (v := .ref a5_1) (C := RX5) (T := TX5) (N := 10) hx hb hts i_X5_setLocal_X5 hown hK hP 0 rfl rfl 1 (by decide) k_3 (fun _ h9 => h9) rfl dX5_setLocal_68 ?_
            refine lv_iload_n hx hb dX5_setLocal_71 rfl (lv_at hl 0 rfl) ?_
            refine lv_iconst (v := 1) hx hb dX5_setLocal_72 (by decide) ?_
            refine lv_iadd hx hb dX5_setLocal_73 ?_
            obtain ⟨g_55, hf⟩ := x_gu hf
            refine va_iald hx hb hK hP 1 0 rfl rfl (x_gdin g_55) dX5_setLocal_74 ?_
            refine lv_bipush (v := 7) hx hb dX5_setLocal_75 (by decide) ?_
            refine lv_icmp_ne (tgt := 89) hx hb dX5_setLocal_77 (by decide) (fun c_56 => ?_) (fun c_56 => ?_)
            · replace hf := x_in c_56 hf
              refine lv_aload_n hx hb dX5_setLocal_89 rfl (lv_at hl 1 rfl) ?_
              refine va_get (D := (dC, dI)) (ci := 5) (v := .ref a5_1) (C := RX5) (T := TX5) (N := 10) hx hb hts i_X5_setLocal_X5 hown hK hP 0 rfl rfl 1 (by decide) k_3 (fun _ h9 => h9) rfl dX5_setLocal_90 ?_
              refine lv_iload_n hx hb dX5_setLocal_93 rfl (lv_at hl 2 rfl) ?_
              refine lv_iload_n hx hb dX5_setLocal_94 rfl (lv_at hl 3 rfl) ?_
              obtain ⟨g_57, hf⟩ := x_gu hf
              refine va_iast hx hb hK hP hD hS 1 0 rfl rfl (x_gdin g_57) dX5_setLocal_95 (fun H locs hP hD hS => ?_)
              have hP : va_P (dC, dI) vwCl [(o5, .inr (5, [.ref o7, .ref a5_1, .int v5_2, .int v5_3, .int v5_4, .int v5_5, .int v5_6, .int v5_7, .int v5_8, .int v5_9])), (a5_1, .inl (cyI, 400, .inl (upd g5_1 (Int32.toNatClampNeg p1) p2)))] H := hP
              have hD : va_D A [(o5, .inr (5, [.ref o7, .ref a5_1, .int v5_2, .int v5_3, .int v5_4, .int v5_5, .int v5_6, .int v5_7, .int v5_8, .int v5_9])), (a5_1, .inl (cyI, 400, .inl (upd g5_1 (Int32.toNatClampNeg p1) p2)))] := hD
              refine lv_iload_n hx hb dX5_setLocal_96 rfl (lv_at hl 0 rfl) ?_
              refine lv_iload_n hx hb dX5_setLocal_97 rfl (lv_at hl 2 rfl) ?_
              refine lv_icmp_le (tgt := 109) hx hb dX5_setLocal_98 (by decide) (fun c_58 => ?_) (fun c_58 => ?_)
              · replace hf := x_ip c_58 hf
                refine lv_aload_n hx hb dX5_setLocal_109 rfl (lv_at hl 1 rfl) ?_
                refine lv_iconst (v := 1) hx hb dX5_setLocal_110 (by decide) ?_
                refine va_put (D := (dC, dI)) (ci := 5) (v := .int 1) (ty := .boolean) (C := RX5) (T := TX5) (N := 10) hx hb hts i_X5_setLocal_X5 tyX5 tyX5_ok nmX5 hown hK hP hD hS 0 rfl rfl 7 (by decide) k_4 (fun _ h9 => h9) rfl (by decide +kernel) rfl rfl (Nat.le_of_ble_eq_true rfl) dX5_setLocal_111 (fun H locs hP hD hS => ?_)
                have hP : va_P (dC, dI) vwCl [(o5, .inr (5, [.ref o7, .ref a5_1, .int v5_2, .int v5_3, .int v5_4, .int v5_5, .int v5_6, .int 1, .int v5_8, .int v5_9])), (a5_1, .inl (cyI, 400, .inl (upd g5_1 (Int32.toNatClampNeg p1) p2)))] H := hP
                have hD : va_D A [(o5, .inr (5, [.ref o7, .ref a5_1, .int v5_2, .int v5_3, .int v5_4, .int v5_5, .int v5_6, .int 1, .int v5_8, .int v5_9])), (a5_1, .inl (cyI, 400, .inl (upd g5_1 (Int32.toNatClampNeg p1) p2)))] := hD
                obtain rfl := Option.some.inj hf
                have hP9 := hP.sub (ws' := [(o5, .inr (5, [.ref o7, .ref a5_1, .int v5_2, .int v5_3, .int v5_4, .int v5_5, .int v5_6, .int 1, .int v5_8, .int v5_9])), (a5_1, .inl (cyI, 400, .inl (upd g5_1 (Int32.toNatClampNeg p1) p2)))]) [0, 1] rfl
                have hD9 := hD.sub (ws' := [(o5, .inr (5, [.ref o7, .ref a5_1, .int v5_2, .int v5_3, .int v5_4, .int v5_5, .int v5_6, .int 1, .int v5_8, .int v5_9])), (a5_1, .inl (cyI, 400, .inl (upd g5_1 (Int32.toNatClampNeg p1) p2)))]) [0, 1] (by decide) rfl
                exact W.vret hx hb hr (fun t ht hW => ⟨⟨(), rfl, trivial, by rw [ht]; exact hP9, va_K.moved hW.alike hK, hD9⟩, hS.F ht⟩) hS.2.2 dX5_setLocal_114
              · replace hf := x_in c_58 hf
                refine lv_aload_n hx hb dX5_setLocal_101 rfl (lv_at hl 1 rfl) ?_
                refine va_get (D := (dC, dI)) (ci := 5) (v := .ref a5_1) (C := RX5) (T := TX5) (N := 10) hx hb hts i_X5_setLocal_X5 hown hK hP 0 rfl rfl 1 (by decide) k_3 (fun _ h9 => h9) rfl dX5_setLocal_102 ?_
                refine lv_iload_n hx hb dX5_setLocal_105 rfl (lv_at hl 0 rfl) ?_
                refine lv_bipush (v := 7) hx hb dX5_setLocal_106 (by decide) ?_
                obtain ⟨g_59, hf⟩ := x_gu hf
                refine va_iast hx hb hK hP hD hS 1 0 rfl rfl (x_gdin g_59) dX5_setLocal_108 (fun H locs hP hD hS => ?_)
                have hP : va_P (dC, dI) vwCl [(o5, .inr (5, [.ref o7, .ref a5_1, .int v5_2, .int v5_3, .int v5_4, .int v5_5, .int v5_6, .int v5_7, .int v5_8, .int v5_9])), (a5_1, .inl (cyI, 400, .inl (upd (upd g5_1 (Int32.toNatClampNeg p1) p2) (Int32.toNatClampNeg (p1 + (1 : Int32))) 7)))] H := hP
                have hD : va_D A [(o5, .inr (5, [.ref o7, .ref a5_1, .int v5_2, .int v5_3, .int v5_4, .int v5_5, .int v5_6, .int v5_7, .int v5_8, .int v5_9])), (a5_1, .inl (cyI, 400, .inl (upd (upd g5_1 (Int32.toNatClampNeg p1) p2) (Int32.toNatClampNeg (p1 + (1 : Int32))) 7)))] := hD
                refine lv_aload_n hx hb dX5_setLocal_109 rfl (lv_at hl 1 rfl) ?_
                refine lv_iconst (v := 1) hx hb dX5_setLocal_110 (by decide) ?_
                refine va_put (D := (dC, dI)) (ci := 5) (v := .int 1) (ty := .boolean) (C := RX5) (T := TX5) (N := 10) hx hb hts i_X5_setLocal_X5 tyX5 tyX5_ok nmX5 hown hK hP hD hS 0 rfl rfl 7 (by decide) k_4 (fun _ h9 => h9) rfl (by decide +kernel) rfl rfl (Nat.le_of_ble_eq_true rfl) dX5_setLocal_111 (fun H locs hP hD hS => ?_)
                have hP : va_P (dC, dI) vwCl [(o5, .inr (5, [.ref o7, .ref a5_1, .int v5_2, .int v5_3, .int v5_4, .int v5_5, .int v5_6, .int 1, .int v5_8, .int v5_9])), (a5_1, .inl (cyI, 400, .inl (upd (upd g5_1 (Int32.toNatClampNeg p1) p2) (Int32.toNatClampNeg (p1 + (1 : Int32))) 7)))] H := hP
                have hD : va_D A [(o5, .inr (5, [.ref o7, .ref a5_1, .int v5_2, .int v5_3, .int v5_4, .int v5_5, .int v5_6, .int 1, .int v5_8, .int v5_9])), (a5_1, .inl (cyI, 400, .inl (upd (upd g5_1 (Int32.toNatClampNeg p1) p2) (Int32.toNatClampNeg (p1 + (1 : Int32))) 7)))] := hD
                obtain rfl := Option.some.inj hf
                have hP9 := hP.sub (ws' := [(o5, .inr (5, [.ref o7, .ref a5_1, .int v5_2, .int v5_3, .int v5_4, .int v5_5, .int v5_6, .int 1, .int v5_8, .int v5_9])), (a5_1, .inl (cyI, 400, .inl (upd (upd g5_1 (Int32.toNatClampNeg p1) p2) (Int32.toNatClampNeg (p1 + (1 : Int32))) 7)))]) [0, 1] rfl
                have hD9 := hD.sub (ws' := [(o5, .inr (5, [.ref o7, .ref a5_1, .int v5_2, .int v5_3, .int v5_4, .int v5_5, .int v5_6, .int 1, .int v5_8, .int v5_9])), (a5_1, .inl (cyI, 400, .inl (upd (upd g5_1 (Int32.toNatClampNeg p1) p2) (Int32.toNatClampNeg (p1 + (1 : Int32))) 7)))]) [0, 1] (by decide) rfl
                exact W.vret hx hb hr (fun t ht hW => ⟨⟨(), rfl, trivial, by rw [ht]; exact hP9, va_K.moved hW.alike hK, hD9⟩, hS.F ht⟩) hS.2.2 dX5_setLocal_114
            · replace hf := x_ip c_56 hf
              refine lv_aload_n hx hb dX5_setLocal_80 rfl (lv_at hl 1 rfl) ?_
              refine va_get (D := (dC, dI)) (ci := 5) (v := .ref a5_1) (C := RX5) (T := TX5) (N := 10) hx hb hts i_X5_setLocal_X5 hown hK hP 0 rfl rfl 1 (by decide) k_3 (fun _ h9 => h9) rfl dX5_setLocal_81 ?_
              refine lv_iload_n hx hb dX5_setLocal_84 rfl (lv_at hl 0 rfl) ?_
              refine lv_iconst (v := 1) hx hb dX5_setLocal_85 (by decide) ?_
              refine lv_iadd hx hb dX5_setLocal_86 ?_
              refine lv_iconst (v := 0) hx hb dX5_setLocal_87 (by decide) ?_
              obtain ⟨g_60, hf⟩ := x_gu hf
              refine va_iast hx hb hK hP hD hS 1 0 rfl rfl (x_gdin g_60) dX5_setLocal_88 (fun H locs hP hD hS => ?_)
              have hP : va_P (dC, dI) vwCl [(o5, .inr (5, [.ref o7, .ref a5_1, .int v5_2, .int v5_3, .int v5_4, .int v5_5, .int v5_6, .int v5_7, .int v5_8, .int v5_9])), (a5_1, .inl (cyI, 400, .inl (upd g5_1 (Int32.toNatClampNeg ((p1 + (1 : Int32)) + (1 : Int32))) 0)))] H := hP
              have hD : va_D A [(o5, .inr (5, [.ref o7, .ref a5_1, .int v5_2, .int v5_3, .int v5_4, .int v5_5, .int v5_6, .int v5_7, .int v5_8, .int v5_9])), (a5_1, .inl (cyI, 400, .inl (upd g5_1 (Int32.toNatClampNeg ((p1 + (1 : Int32)) + (1 : Int32))) 0)))] := hD
              refine lv_aload_n hx hb dX5_setLocal_89 rfl (lv_at hl 1 rfl) ?_
              refine va_get (D := (dC, dI)) (ci := 5) (v := .ref a5_1) (C := RX5) (T := TX5) (N := 10) hx hb hts i_X5_setLocal_X5 hown hK hP 0 rfl rfl 1 (by decide) k_3 (fun _ h9 => h9) rfl dX5_setLocal_90 ?_
              refine lv_iload_n hx hb dX5_setLocal_93 rfl (lv_at hl 2 rfl) ?_
              refine lv_iload_n hx hb dX5_setLocal_94 rfl (lv_at hl 3 rfl) ?_
              obtain ⟨g_61, hf⟩ := x_gu hf
              refine va_iast hx hb hK hP hD hS 1 0 rfl rfl (x_gdin g_61) dX5_setLocal_95 (fun H locs hP hD hS => ?_)
              have hP : va_P (dC, dI) vwCl [(o5, .inr (5, [.ref o7, .ref a5_1, .int v5_2, .int v5_3, .int v5_4, .int v5_5, .int v5_6, .int v5_7, .int v5_8, .int v5_9])), (a5_1, .inl (cyI, 400, .inl (upd (upd g5_1 (Int32.toNatClampNeg ((p1 + (1 : Int32)) + (1 : Int32))) 0) (Int32.toNatClampNeg p1) p2)))] H := hP
              have hD : va_D A [(o5, .inr (5, [.ref o7, .ref a5_1, .int v5_2, .int v5_3, .int v5_4, .int v5_5, .int v5_6, .int v5_7, .int v5_8, .int v5_9])), (a5_1, .inl (cyI, 400, .inl (upd (upd g5_1 (Int32.toNatClampNeg ((p1 + (1 : Int32)) + (1 : Int32))) 0) (Int32.toNatClampNeg p1) p2)))] := hD
              refine lv_iload_n hx hb dX5_setLocal_96 rfl (lv_at hl 0 rfl) ?_
              refine lv_iload_n hx hb dX5_setLocal_97 rfl (lv_at hl 2 rfl) ?_
              refine lv_icmp_le (tgt := 109) hx hb dX5_setLocal_98 (by decide) (fun c_62 => ?_) (fun c_62 => ?_)
              · replace hf := x_ip c_62 hf
                refine lv_aload_n hx hb dX5_setLocal_109 rfl (lv_at hl 1 rfl) ?_
                refine lv_iconst (v := 1) hx hb dX5_setLocal_110 (by decide) ?_
                refine va_put (D := (dC, dI)) (ci := 5) (v := .int 1) (ty := .boolean) (C := RX5) (T := TX5) (N := 10) hx hb hts i_X5_setLocal_X5 tyX5 tyX5_ok nmX5 hown hK hP hD hS 0 rfl rfl 7 (by decide) k_4 (fun _ h9 => h9) rfl (by decide +kernel) rfl rfl (Nat.le_of_ble_eq_true rfl) dX5_setLocal_111 (fun H locs hP hD hS => ?_)
                have hP : va_P (dC, dI) vwCl [(o5, .inr (5, [.ref o7, .ref a5_1, .int v5_2, .int v5_3, .int v5_4, .int v5_5, .int v5_6, .int 1, .int v5_8, .int v5_9])), (a5_1, .inl (cyI, 400, .inl (upd (upd g5_1 (Int32.toNatClampNeg ((p1 + (1 : Int32)) + (1 : Int32))) 0) (Int32.toNatClampNeg p1) p2)))] H := hP
                have hD : va_D A [(o5, .inr (5, [.ref o7, .ref a5_1, .int v5_2, .int v5_3, .int v5_4, .int v5_5, .int v5_6, .int 1, .int v5_8, .int v5_9])), (a5_1, .inl (cyI, 400, .inl (upd (upd g5_1 (Int32.toNatClampNeg ((p1 + (1 : Int32)) + (1 : Int32))) 0) (Int32.toNatClampNeg p1) p2)))] := hD
                obtain rfl := Option.some.inj hf
                have hP9 := hP.sub (ws' := [(o5, .inr (5, [.ref o7, .ref a5_1, .int v5_2, .int v5_3, .int v5_4, .int v5_5, .int v5_6, .int 1, .int v5_8, .int v5_9])), (a5_1, .inl (cyI, 400, .inl (upd (upd g5_1 (Int32.toNatClampNeg ((p1 + (1 : Int32)) + (1 : Int32))) 0) (Int32.toNatClampNeg p1) p2)))]) [0, 1] rfl
                have hD9 := hD.sub (ws' := [(o5, .inr (5, [.ref o7, .ref a5_1, .int v5_2, .int v5_3, .int v5_4, .int v5_5, .int v5_6, .int 1, .int v5_8, .int v5_9])), (a5_1, .inl (cyI, 400, .inl (upd (upd g5_1 (Int32.toNatClampNeg ((p1 + (1 : Int32)) + (1 : Int32))) 0) (Int32.toNatClampNeg p1) p2)))]) [0, 1] (by decide) rfl
                exact W.vret hx hb hr (fun t ht hW => ⟨⟨(), rfl, trivial, by rw [ht]; exact hP9, va_K.moved hW.alike hK, hD9⟩, hS.F ht⟩) hS.2.2 dX5_setLocal_114
              · replace hf := x_in c_62 hf
                refine lv_aload_n hx hb dX5_setLocal_101 rfl (lv_at hl 1 rfl) ?_
                refine va_get (D := (dC, dI)) (ci := 5) (v := .ref a5_1) (C := RX5) (T := TX5) (N := 10) hx hb hts i_X5_setLocal_X5 hown hK hP 0 rfl rfl 1 (by decide) k_3 (fun _ h9 => h9) rfl dX5_setLocal_102 ?_
                refine lv_iload_n hx hb dX5_setLocal_105 rfl (lv_at hl 0 rfl) ?_
                refine lv_bipush (v := 7) hx hb dX5_setLocal_106 (by decide) ?_
                obtain ⟨g_63, hf⟩ := x_gu hf
                refine va_iast hx hb hK hP hD hS 1 0 rfl rfl (x_gdin g_63) dX5_setLocal_108 (fun H locs hP hD hS => ?_)
                have hP : va_P (dC, dI) vwCl [(o5, .inr (5, [.ref o7, .ref a5_1, .int v5_2, .int v5_3, .int v5_4, .int v5_5, .int v5_6, .int v5_7, .int v5_8, .int v5_9])), (a5_1, .inl (cyI, 400, .inl (upd (upd (upd g5_1 (Int32.toNatClampNeg ((p1 + (1 : Int32)) + (1 : Int32))) 0) (Int32.toNatClampNeg p1) p2) (Int32.toNatClampNeg (p1 + (1 : Int32))) 7)))] H := hP
                have hD : va_D A [(o5, .inr (5, [.ref o7, .ref a5_1, .int v5_2, .int v5_3, .int v5_4, .int v5_5, .int v5_6, .int v5_7, .int v5_8, .int v5_9])), (a5_1, .inl (cyI, 400, .inl (upd (upd (upd g5_1 (Int32.toNatClampNeg ((p1 + (1 : Int32)) + (1 : Int32))) 0) (Int32.toNatClampNeg p1) p2) (Int32.toNatClampNeg (p1 + (1 : Int32))) 7)))] := hD
                refine lv_aload_n hx hb dX5_setLocal_109 rfl (lv_at hl 1 rfl) ?_
                refine lv_iconst (v := 1) hx hb dX5_setLocal_110 (by decide) ?_
                refine va_put (D := (dC, dI)) (ci := 5) (v := .int 1) (ty := .boolean) (C := RX5) (T := TX5) (N := 10) hx hb hts i_X5_setLocal_X5 tyX5 tyX5_ok nmX5 hown hK hP hD hS 0 rfl rfl 7 (by decide) k_4 (fun _ h9 => h9) rfl (by decide +kernel) rfl rfl (Nat.le_of_ble_eq_true rfl) dX5_setLocal_111 (fun H locs hP hD hS => ?_)
                have hP : va_P (dC, dI) vwCl [(o5, .inr (5, [.ref o7, .ref a5_1, .int v5_2, .int v5_3, .int v5_4, .int v5_5, .int v5_6, .int 1, .int v5_8, .int v5_9])), (a5_1, .inl (cyI, 400, .inl (upd (upd (upd g5_1 (Int32.toNatClampNeg ((p1 + (1 : Int32)) + (1 : Int32))) 0) (Int32.toNatClampNeg p1) p2) (Int32.toNatClampNeg (p1 + (1 : Int32))) 7)))] H := hP
                have hD : va_D A [(o5, .inr (5, [.ref o7, .ref a5_1, .int v5_2, .int v5_3, .int v5_4, .int v5_5, .int v5_6, .int 1, .int v5_8, .int v5_9])), (a5_1, .inl (cyI, 400, .inl (upd (upd (upd g5_1 (Int32.toNatClampNeg ((p1 + (1 : Int32)) + (1 : Int32))) 0) (Int32.toNatClampNeg p1) p2) (Int32.toNatClampNeg (p1 + (1 : Int32))) 7)))] := hD
                obtain rfl := Option.some.inj hf
                have hP9 := hP.sub (ws' := [(o5, .inr (5, [.ref o7, .ref a5_1, .int v5_2, .int v5_3, .int v5_4, .int v5_5, .int v5_6, .int 1, .int v5_8, .int v5_9])), (a5_1, .inl (cyI, 400, .inl (upd (upd (upd g5_1 (Int32.toNatClampNeg ((p1 + (1 : Int32)) + (1 : Int32))) 0) (Int32.toNatClampNeg p1) p2) (Int32.toNatClampNeg (p1 + (1 : Int32))) 7)))]) [0, 1] rfl
                have hD9 := hD.sub (ws' := [(o5, .inr (5, [.ref o7, .ref a5_1, .int v5_2, .int v5_3, .int v5_4, .int v5_5, .int v5_6, .int 1, .int v5_8, .int v5_9])), (a5_1, .inl (cyI, 400, .inl (upd (upd (upd g5_1 (Int32.toNatClampNeg ((p1 + (1 : Int32)) + (1 : Int32))) 0) (Int32.toNatClampNeg p1) p2) (Int32.toNatClampNeg (p1 + (1 : Int32))) 7)))]) [0, 1] (by decide) rfl
                exact W.vret hx hb hr (fun t ht hW => ⟨⟨(), rfl, trivial, by rw [ht]; exact hP9, va_K.moved hW.alike hK, hD9⟩, hS.F ht⟩) hS.2.2 dX5_setLocal_114
        · replace hf := x_in c_50 hf
          refine lv_aload_n hx hb dX5_setLocal_37 rfl (lv_at hl 1 rfl) ?_
          refine va_get (D := (dC, dI)) (ci := 5) (v := .ref a5_1) (C := RX5) (T := TX5) (N := 10) hx hb hts i_X5_setLocal_X5 hown hK hP 0 rfl rfl 1 (by decide) k_3 (fun _ h9 => h9) rfl dX5_setLocal_38 ?_
          refine lv_iload_n hx hb dX5_setLocal_41 rfl (lv_at hl 2 rfl) ?_
          obtain ⟨g_64, hf⟩ := x_gu hf
          refine va_iald hx hb hK hP 1 0 rfl rfl (x_gdin g_64) dX5_setLocal_42 ?_
          refine lv_bipush (v := 7) hx hb dX5_setLocal_43 (by decide) ?_
          refine lv_icmp_ne (tgt := 57) hx hb dX5_setLocal_45 (by decide) (fun c_65 => ?_) (fun c_65 => ?_)
          · replace hf := x_in c_65 hf
            refine lv_iload_n hx hb dX5_setLocal_57 rfl (lv_at hl 0 rfl) ?_
            refine lv_iconst (v := 1) hx hb dX5_setLocal_58 (by decide) ?_
            refine lv_iadd hx hb dX5_setLocal_59 ?_
            refine lv_aload_n hx hb dX5_setLocal_60 rfl (lv_at hl 1 rfl) ?_
            refine va_get (D := (dC, dI)) (ci := 5) (v := .int v5_2) (C := RX5) (T := TX5) (N := 10) hx hb hts i_X5_setLocal_X5 hown hK hP 0 rfl rfl 2 (by decide) k_2 (fun _ h9 => h9) rfl dX5_setLocal_61 ?_
            refine lv_icmp_ge (tgt := 89) hx hb dX5_setLocal_64 (by decide) (fun c_66 => ?_) (fun c_66 => ?_)
            · replace hf := x_ip c_66 hf
              refine lv_aload_n hx hb dX5_setLocal_89 rfl (lv_at hl 1 rfl) ?_
              refine va_get (D := (dC, dI)) (ci := 5) (v := .ref a5_1) (C := RX5) (T := TX5) (N := 10) hx hb hts i_X5_setLocal_X5 hown hK hP 0 rfl rfl 1 (by decide) k_3 (fun _ h9 => h9) rfl dX5_setLocal_90 ?_
              refine lv_iload_n hx hb dX5_setLocal_93 rfl (lv_at hl 2 rfl) ?_
              refine lv_iload_n hx hb dX5_setLocal_94 rfl (lv_at hl 3 rfl) ?_
              obtain ⟨g_67, hf⟩ := x_gu hf
              refine va_iast hx hb hK hP hD hS 1 0 rfl rfl (x_gdin g_67) dX5_setLocal_95 (fun H locs hP hD hS => ?_)
              have hP : va_P (dC, dI) vwCl [(o5, .inr (5, [.ref o7, .ref a5_1, .int v5_2, .int v5_3, .int v5_4, .int v5_5, .int v5_6, .int v5_7, .int v5_8, .int v5_9])), (a5_1, .inl (cyI, 400, .inl (upd g5_1 (Int32.toNatClampNeg p1) p2)))] H := hP
              have hD : va_D A [(o5, .inr (5, [.ref o7, .ref a5_1, .int v5_2, .int v5_3, .int v5_4, .int v5_5, .int v5_6, .int v5_7, .int v5_8, .int v5_9])), (a5_1, .inl (cyI, 400, .inl (upd g5_1 (Int32.toNatClampNeg p1) p2)))] := hD
              refine lv_iload_n hx hb dX5_setLocal_96 rfl (lv_at hl 0 rfl) ?_
              refine lv_iload_n hx hb dX5_setLocal_97 rfl (lv_at hl 2 rfl) ?_
              refine lv_icmp_le (tgt := 109) hx hb dX5_setLocal_98 (by decide) (fun c_68 => ?_) (fun c_68 => ?_)
              · replace hf := x_ip c_68 hf
                refine lv_aload_n hx hb dX5_setLocal_109 rfl (lv_at hl 1 rfl) ?_
                refine lv_iconst (v := 1) hx hb dX5_setLocal_110 (by decide) ?_
                refine va_put (D := (dC, dI)) (ci := 5) (v := .int 1) (ty := .boolean) (C := RX5) (T := TX5) (N := 10) hx hb hts i_X5_setLocal_X5 tyX5 tyX5_ok nmX5 hown hK hP hD hS 0 rfl rfl 7 (by decide) k_4 (fun _ h9 => h9) rfl (by decide +kernel) rfl rfl (Nat.le_of_ble_eq_true rfl) dX5_setLocal_111 (fun H locs hP hD hS => ?_)
                have hP : va_P (dC, dI) vwCl [(o5, .inr (5, [.ref o7, .ref a5_1, .int v5_2, .int v5_3, .int v5_4, .int v5_5, .int v5_6, .int 1, .int v5_8, .int v5_9])), (a5_1, .inl (cyI, 400, .inl (upd g5_1 (Int32.toNatClampNeg p1) p2)))] H := hP
                have hD : va_D A [(o5, .inr (5, [.ref o7, .ref a5_1, .int v5_2, .int v5_3, .int v5_4, .int v5_5, .int v5_6, .int 1, .int v5_8, .int v5_9])), (a5_1, .inl (cyI, 400, .inl (upd g5_1 (Int32.toNatClampNeg p1) p2)))] := hD
                obtain rfl := Option.some.inj hf
                have hP9 := hP.sub (ws' := [(o5, .inr (5, [.ref o7, .ref a5_1, .int v5_2, .int v5_3, .int v5_4, .int v5_5, .int v5_6, .int 1, .int v5_8, .int v5_9])), (a5_1, .inl (cyI, 400, .inl (upd g5_1 (Int32.toNatClampNeg p1) p2)))]) [0, 1] rfl
                have hD9 := hD.sub (ws' := [(o5, .inr (5, [.ref o7, .ref a5_1, .int v5_2, .int v5_3, .int v5_4, .int v5_5, .int v5_6, .int 1, .int v5_8, .int v5_9])), (a5_1, .inl (cyI, 400, .inl (upd g5_1 (Int32.toNatClampNeg p1) p2)))]) [0, 1] (by decide) rfl
                exact W.vret hx hb hr (fun t ht hW => ⟨⟨(), rfl, trivial, by rw [ht]; exact hP9, va_K.moved hW.alike hK, hD9⟩, hS.F ht⟩) hS.2.2 dX5_setLocal_114
              · replace hf := x_in c_68 hf
                refine lv_aload_n hx hb dX5_setLocal_101 rfl (lv_at hl 1 rfl) ?_
                refine va_get (D := (dC, dI)) (ci := 5) (v := .ref a5_1) (C := RX5) (T := TX5) (N := 10) hx hb hts i_X5_setLocal_X5 hown hK hP 0 rfl rfl 1 (by decide) k_3 (fun _ h9 => h9) rfl dX5_setLocal_102 ?_
                refine lv_iload_n hx hb dX5_setLocal_105 rfl (lv_at hl 0 rfl) ?_
                refine lv_bipush (v := 7) hx hb dX5_setLocal_106 (by decide) ?_
                obtain ⟨g_69, hf⟩ := x_gu hf
                refine va_iast hx hb hK hP hD hS 1 0 rfl rfl (x_gdin g_69) dX5_setLocal_108 (fun H locs hP hD hS => ?_)
                have hP : va_P (dC, dI) vwCl [(o5, .inr (5, [.ref o7, .ref a5_1, .int v5_2, .int v5_3, .int v5_4, .int v5_5, .int v5_6, .int v5_7, .int v5_8, .int v5_9])), (a5_1, .inl (cyI, 400, .inl (upd (upd g5_1 (Int32.toNatClampNeg p1) p2) (Int32.toNatClampNeg (p1 + (1 : Int32))) 7)))] H := hP
                have hD : va_D A [(o5, .inr (5, [.ref o7, .ref a5_1, .int v5_2, .int v5_3, .int v5_4, .int v5_5, .int v5_6, .int v5_7, .int v5_8, .int v5_9])), (a5_1, .inl (cyI, 400, .inl (upd (upd g5_1 (Int32.toNatClampNeg p1) p2) (Int32.toNatClampNeg (p1 + (1 : Int32))) 7)))] := hD
                refine lv_aload_n hx hb dX5_setLocal_109 rfl (lv_at hl 1 rfl) ?_
                refine lv_iconst (v := 1) hx hb dX5_setLocal_110 (by decide) ?_
                refine va_put (D := (dC, dI)) (ci := 5) (v := .int 1) (ty := .boolean) (C := RX5) (T := TX5) (N := 10) hx hb hts i_X5_setLocal_X5 tyX5 tyX5_ok nmX5 hown hK hP hD hS 0 rfl rfl 7 (by decide) k_4 (fun _ h9 => h9) rfl (by decide +kernel) rfl rfl (Nat.le_of_ble_eq_true rfl) dX5_setLocal_111 (fun H locs hP hD hS => ?_)
                have hP : va_P (dC, dI) vwCl [(o5, .inr (5, [.ref o7, .ref a5_1, .int v5_2, .int v5_3, .int v5_4, .int v5_5, .int v5_6, .int 1, .int v5_8, .int v5_9])), (a5_1, .inl (cyI, 400, .inl (upd (upd g5_1 (Int32.toNatClampNeg p1) p2) (Int32.toNatClampNeg (p1 + (1 : Int32))) 7)))] H := hP
                have hD : va_D A [(o5, .inr (5, [.ref o7, .ref a5_1, .int v5_2, .int v5_3, .int v5_4, .int v5_5, .int v5_6, .int 1, .int v5_8, .int v5_9])), (a5_1, .inl (cyI, 400, .inl (upd (upd g5_1 (Int32.toNatClampNeg p1) p2) (Int32.toNatClampNeg (p1 + (1 : Int32))) 7)))] := hD
                obtain rfl := Option.some.inj hf
                have hP9 := hP.sub (ws' := [(o5, .inr (5, [.ref o7, .ref a5_1, .int v5_2, .int v5_3, .int v5_4, .int v5_5, .int v5_6, .int 1, .int v5_8, .int v5_9])), (a5_1, .inl (cyI, 400, .inl (upd (upd g5_1 (Int32.toNatClampNeg p1) p2) (Int32.toNatClampNeg (p1 + (1 : Int32))) 7)))]) [0, 1] rfl
                have hD9 := hD.sub (ws' := [(o5, .inr (5, [.ref o7, .ref a5_1, .int v5_2, .int v5_3, .int v5_4, .int v5_5, .int v5_6, .int 1, .int v5_8, .int v5_9])), (a5_1, .inl (cyI, 400, .inl (upd (upd g5_1 (Int32.toNatClampNeg p1) p2) (Int32.toNatClampNeg (p1 + (1 : Int32))) 7)))]) [0, 1] (by decide) rfl
                exact W.vret hx hb hr (fun t ht hW => ⟨⟨(), rfl, trivial, by rw [ht]; exact hP9, va_K.moved hW.alike hK, hD9⟩, hS.F ht⟩) hS.2.2 dX5_setLocal_114
            · replace hf := x_in c_66 hf
              refine lv_aload_n hx hb dX5_setLocal_67 rfl (lv_at hl 1 rfl) ?_
              refine va_get (D := (dC, dI)) (ci := 5) (v := .ref a5_1) (C := RX5) (T := TX5) (N := 10) hx hb hts i_X5_setLocal_X5 hown hK hP 0 rfl rfl 1 (by decide) k_3 (fun _ h9 => h9) rfl dX5_setLocal_68 ?_
              refine lv_iload_n hx hb dX5_setLocal_71 rfl (lv_at hl 0 rfl) ?_
              refine lv_iconst (v := 1) hx hb dX5_setLocal_72 (by decide) ?_
              refine lv_iadd hx hb dX5_setLocal_73 ?_
              obtain ⟨g_70, hf⟩ := x_gu hf
              refine va_iald hx hb hK hP 1 0 rfl rfl (x_gdin g_70) dX5_setLocal_74 ?_
              refine lv_bipush (v := 7) hx hb dX5_setLocal_75 (by decide) ?_
              refine lv_icmp_ne (tgt := 89) hx hb dX5_setLocal_77 (by decide) (fun c_71 => ?_) (fun c_71 => ?_)
              · replace hf := x_in c_71 hf
                refine lv_aload_n hx hb dX5_setLocal_89 rfl (lv_at hl 1 rfl) ?_
                refine va_get (D := (dC, dI)) (ci := 5) (v := .ref a5_1) (C := RX5) (T := TX5) (N := 10) hx hb hts i_X5_setLocal_X5 hown hK hP 0 rfl rfl 1 (by decide) k_3 (fun _ h9 => h9) rfl dX5_setLocal_90 ?_
                refine lv_iload_n hx hb dX5_setLocal_93 rfl (lv_at hl 2 rfl) ?_
                refine lv_iload_n hx hb dX5_setLocal_94 rfl (lv_at hl 3 rfl) ?_
                obtain ⟨g_72, hf⟩ := x_gu hf
                refine va_iast hx hb hK hP hD hS 1 0 rfl rfl (x_gdin g_72) dX5_setLocal_95 (fun H locs hP hD hS => ?_)
                have hP : va_P (dC, dI) vwCl [(o5, .inr (5, [.ref o7, .ref a5_1, .int v5_2, .int v5_3, .int v5_4, .int v5_5, .int v5_6, .int v5_7, .int v5_8, .int v5_9])), (a5_1, .inl (cyI, 400, .inl (upd g5_1 (Int32.toNatClampNeg p1) p2)))] H := hP
                have hD : va_D A [(o5, .inr (5, [.ref o7, .ref a5_1, .int v5_2, .int v5_3, .int v5_4, .int v5_5, .int v5_6, .int v5_7, .int v5_8, .int v5_9])), (a5_1, .inl (cyI, 400, .inl (upd g5_1 (Int32.toNatClampNeg p1) p2)))] := hD
                refine lv_iload_n hx hb dX5_setLocal_96 rfl (lv_at hl 0 rfl) ?_
                refine lv_iload_n hx hb dX5_setLocal_97 rfl (lv_at hl 2 rfl) ?_
                refine lv_icmp_le (tgt := 109) hx hb dX5_setLocal_98 (by decide) (fun c_73 => ?_) (fun c_73 => ?_)
                · replace hf := x_ip c_73 hf
                  refine lv_aload_n hx hb dX5_setLocal_109 rfl (lv_at hl 1 rfl) ?_
                  refine lv_iconst (v := 1) hx hb dX5_setLocal_110 (by decide) ?_
                  refine va_put (D := (dC, dI)) (ci := 5) (v := .int 1) (ty := .boolean) (C := RX5) (T := TX5) (N := 10) hx hb hts i_X5_setLocal_X5 tyX5 tyX5_ok nmX5 hown hK hP hD hS 0 rfl rfl 7 (by decide) k_4 (fun _ h9 => h9) rfl (by decide +kernel) rfl rfl (Nat.le_of_ble_eq_true rfl) dX5_setLocal_111 (fun H locs hP hD hS => ?_)
                  have hP : va_P (dC, dI) vwCl [(o5, .inr (5, [.ref o7, .ref a5_1, .int v5_2, .int v5_3, .int v5_4, .int v5_5, .int v5_6, .int 1, .int v5_8, .int v5_9])), (a5_1, .inl (cyI, 400, .inl (upd g5_1 (Int32.toNatClampNeg p1) p2)))] H := hP
                  have hD : va_D A [(o5, .inr (5, [.ref o7, .ref a5_1, .int v5_2, .int v5_3, .int v5_4, .int v5_5, .int v5_6, .int 1, .int v5_8, .int v5_9])), (a5_1, .inl (cyI, 400, .inl (upd g5_1 (Int32.toNatClampNeg p1) p2)))] := hD
                  obtain rfl := Option.some.inj hf
                  have hP9 := hP.sub (ws' := [(o5, .inr (5, [.ref o7, .ref a5_1, .int v5_2, .int v5_3, .int v5_4, .int v5_5, .int v5_6, .int 1, .int v5_8, .int v5_9])), (a5_1, .inl (cyI, 400, .inl (upd g5_1 (Int32.toNatClampNeg p1) p2)))]) [0, 1] rfl
                  have hD9 := hD.sub (ws' := [(o5, .inr (5, [.ref o7, .ref a5_1, .int v5_2, .int v5_3, .int v5_4, .int v5_5, .int v5_6, .int 1, .int v5_8, .int v5_9])), (a5_1, .inl (cyI, 400, .inl (upd g5_1 (Int32.toNatClampNeg p1) p2)))]) [0, 1] (by decide) rfl
                  exact W.vret hx hb hr (fun t ht hW => ⟨⟨(), rfl, trivial, by rw [ht]; exact hP9, va_K.moved hW.alike hK, hD9⟩, hS.F ht⟩) hS.2.2 dX5_setLocal_114
                · replace hf := x_in c_73 hf
                  refine lv_aload_n hx hb dX5_setLocal_101 rfl (lv_at hl 1 rfl) ?_
                  refine va_get (D := (dC, dI)) (ci := 5) (v := .ref a5_1) (C := RX5) (T := TX5) (N := 10) hx hb hts i_X5_setLocal_X5 hown hK hP 0 rfl rfl 1 (by decide) k_3 (fun _ h9 => h9) rfl dX5_setLocal_102 ?_
                  refine lv_iload_n hx hb dX5_setLocal_105 rfl (lv_at hl 0 rfl) ?_
                  refine lv_bipush (v := 7) hx hb dX5_setLocal_106 (by decide) ?_
                  obtain ⟨g_74, hf⟩ := x_gu hf
                  refine va_iast hx hb hK hP hD hS 1 0 rfl rfl (x_gdin g_74) dX5_setLocal_108 (fun H locs hP hD hS => ?_)
                  have hP : va_P (dC, dI) vwCl [(o5, .inr (5, [.ref o7, .ref a5_1, .int v5_2, .int v5_3, .int v5_4, .int v5_5, .int v5_6, .int v5_7, .int v5_8, .int v5_9])), (a5_1, .inl (cyI, 400, .inl (upd (upd g5_1 (Int32.toNatClampNeg p1) p2) (Int32.toNatClampNeg (p1 + (1 : Int32))) 7)))] H := hP
                  have hD : va_D A [(o5, .inr (5, [.ref o7, .ref a5_1, .int v5_2, .int v5_3, .int v5_4, .int v5_5, .int v5_6, .int v5_7, .int v5_8, .int v5_9])), (a5_1, .inl (cyI, 400, .inl (upd (upd g5_1 (Int32.toNatClampNeg p1) p2) (Int32.toNatClampNeg (p1 + (1 : Int32))) 7)))] := hD
                  refine lv_aload_n hx hb dX5_setLocal_109 rfl (lv_at hl 1 rfl) ?_
                  refine lv_iconst (v := 1) hx hb dX5_setLocal_110 (by decide) ?_
                  refine va_put (D := (dC, dI)) (ci := 5) (v := .int 1) (ty := .boolean) (C := RX5) (T := TX5) (N := 10) hx hb hts i_X5_setLocal_X5 tyX5 tyX5_ok nmX5 hown hK hP hD hS 0 rfl rfl 7 (by decide) k_4 (fun _ h9 => h9) rfl (by decide +kernel) rfl rfl (Nat.le_of_ble_eq_true rfl) dX5_setLocal_111 (fun H locs hP hD hS => ?_)
                  have hP : va_P (dC, dI) vwCl [(o5, .inr (5, [.ref o7, .ref a5_1, .int v5_2, .int v5_3, .int v5_4, .int v5_5, .int v5_6, .int 1, .int v5_8, .int v5_9])), (a5_1, .inl (cyI, 400, .inl (upd (upd g5_1 (Int32.toNatClampNeg p1) p2) (Int32.toNatClampNeg (p1 + (1 : Int32))) 7)))] H := hP
                  have hD : va_D A [(o5, .inr (5, [.ref o7, .ref a5_1, .int v5_2, .int v5_3, .int v5_4, .int v5_5, .int v5_6, .int 1, .int v5_8, .int v5_9])), (a5_1, .inl (cyI, 400, .inl (upd (upd g5_1 (Int32.toNatClampNeg p1) p2) (Int32.toNatClampNeg (p1 + (1 : Int32))) 7)))] := hD
                  obtain rfl := Option.some.inj hf
                  have hP9 := hP.sub (ws' := [(o5, .inr (5, [.ref o7, .ref a5_1, .int v5_2, .int v5_3, .int v5_4, .int v5_5, .int v5_6, .int 1, .int v5_8, .int v5_9])), (a5_1, .inl (cyI, 400, .inl (upd (upd g5_1 (Int32.toNatClampNeg p1) p2) (Int32.toNatClampNeg (p1 + (1 : Int32))) 7)))]) [0, 1] rfl
                  have hD9 := hD.sub (ws' := [(o5, .inr (5, [.ref o7, .ref a5_1, .int v5_2, .int v5_3, .int v5_4, .int v5_5, .int v5_6, .int 1, .int v5_8, .int v5_9])), (a5_1, .inl (cyI, 400, .inl (upd (upd g5_1 (Int32.toNatClampNeg p1) p2) (Int32.toNatClampNeg (p1 + (1 : Int32))) 7)))]) [0, 1] (by decide) rfl
                  exact W.vret hx hb hr (fun t ht hW => ⟨⟨(), rfl, trivial, by rw [ht]; exact hP9, va_K.moved hW.alike hK, hD9⟩, hS.F ht⟩) hS.2.2 dX5_setLocal_114
              · replace hf := x_ip c_71 hf
                refine lv_aload_n hx hb dX5_setLocal_80 rfl (lv_at hl 1 rfl) ?_
                refine va_get (D := (dC, dI)) (ci := 5) (v := .ref a5_1) (C := RX5) (T := TX5) (N := 10) hx hb hts i_X5_setLocal_X5 hown hK hP 0 rfl rfl 1 (by decide) k_3 (fun _ h9 => h9) rfl dX5_setLocal_81 ?_
                refine lv_iload_n hx hb dX5_setLocal_84 rfl (lv_at hl 0 rfl) ?_
                refine lv_iconst (v := 1) hx hb dX5_setLocal_85 (by decide) ?_
                refine lv_iadd hx hb dX5_setLocal_86 ?_
                refine lv_iconst (v := 0) hx hb dX5_setLocal_87 (by decide) ?_
                obtain ⟨g_75, hf⟩ := x_gu hf
                refine va_iast hx hb hK hP hD hS 1 0 rfl rfl (x_gdin g_75) dX5_setLocal_88 (fun H locs hP hD hS => ?_)
                have hP : va_P (dC, dI) vwCl [(o5, .inr (5, [.ref o7, .ref a5_1, .int v5_2, .int v5_3, .int v5_4, .int v5_5, .int v5_6, .int v5_7, .int v5_8, .int v5_9])), (a5_1, .inl (cyI, 400, .inl (upd g5_1 (Int32.toNatClampNeg ((p1 + (1 : Int32)) + (1 : Int32))) 0)))] H := hP
                have hD : va_D A [(o5, .inr (5, [.ref o7, .ref a5_1, .int v5_2, .int v5_3, .int v5_4, .int v5_5, .int v5_6, .int v5_7, .int v5_8, .int v5_9])), (a5_1, .inl (cyI, 400, .inl (upd g5_1 (Int32.toNatClampNeg ((p1 + (1 : Int32)) + (1 : Int32))) 0)))] := hD
                refine lv_aload_n hx hb dX5_setLocal_89 rfl (lv_at hl 1 rfl) ?_
                refine va_get (D := (dC, dI)) (ci := 5) (v := .ref a5_1) (C := RX5) (T := TX5) (N := 10) hx hb hts i_X5_setLocal_X5 hown hK hP 0 rfl rfl 1 (by decide) k_3 (fun _ h9 => h9) rfl dX5_setLocal_90 ?_
                refine lv_iload_n hx hb dX5_setLocal_93 rfl (lv_at hl 2 rfl) ?_
                refine lv_iload_n hx hb dX5_setLocal_94 rfl (lv_at hl 3 rfl) ?_
                obtain ⟨g_76, hf⟩ := x_gu hf
                refine va_iast hx hb hK hP hD hS 1 0 rfl rfl (x_gdin g_76) dX5_setLocal_95 (fun H locs hP hD hS => ?_)
                have hP : va_P (dC, dI) vwCl [(o5, .inr (5, [.ref o7, .ref a5_1, .int v5_2, .int v5_3, .int v5_4, .int v5_5, .int v5_6, .int v5_7, .int v5_8, .int v5_9])), (a5_1, .inl (cyI, 400, .inl (upd (upd g5_1 (Int32.toNatClampNeg ((p1 + (1 : Int32)) + (1 : Int32))) 0) (Int32.toNatClampNeg p1) p2)))] H := hP
                have hD : va_D A [(o5, .inr (5, [.ref o7, .ref a5_1, .int v5_2, .int v5_3, .int v5_4, .int v5_5, .int v5_6, .int v5_7, .int v5_8, .int v5_9])), (a5_1, .inl (cyI, 400, .inl (upd (upd g5_1 (Int32.toNatClampNeg ((p1 + (1 : Int32)) + (1 : Int32))) 0) (Int32.toNatClampNeg p1) p2)))] := hD
                refine lv_iload_n hx hb dX5_setLocal_96 rfl (lv_at hl 0 rfl) ?_
                refine lv_iload_n hx hb dX5_setLocal_97 rfl (lv_at hl 2 rfl) ?_
                refine lv_icmp_le (tgt := 109) hx hb dX5_setLocal_98 (by decide) (fun c_77 => ?_) (fun c_77 => ?_)
                · replace hf := x_ip c_77 hf
                  refine lv_aload_n hx hb dX5_setLocal_109 rfl (lv_at hl 1 rfl) ?_
                  refine lv_iconst (v := 1) hx hb dX5_setLocal_110 (by decide) ?_
                  refine va_put (D := (dC, dI)) (ci := 5) (v := .int 1) (ty := .boolean) (C := RX5) (T := TX5) (N := 10) hx hb hts i_X5_setLocal_X5 tyX5 tyX5_ok nmX5 hown hK hP hD hS 0 rfl rfl 7 (by decide) k_4 (fun _ h9 => h9) rfl (by decide +kernel) rfl rfl (Nat.le_of_ble_eq_true rfl) dX5_setLocal_111 (fun H locs hP hD hS => ?_)
                  have hP : va_P (dC, dI) vwCl [(o5, .inr (5, [.ref o7, .ref a5_1, .int v5_2, .int v5_3, .int v5_4, .int v5_5, .int v5_6, .int 1, .int v5_8, .int v5_9])), (a5_1, .inl (cyI, 400, .inl (upd (upd g5_1 (Int32.toNatClampNeg ((p1 + (1 : Int32)) + (1 : Int32))) 0) (Int32.toNatClampNeg p1) p2)))] H := hP
                  have hD : va_D A [(o5, .inr (5, [.ref o7, .ref a5_1, .int v5_2, .int v5_3, .int v5_4, .int v5_5, .int v5_6, .int 1, .int v5_8, .int v5_9])), (a5_1, .inl (cyI, 400, .inl (upd (upd g5_1 (Int32.toNatClampNeg ((p1 + (1 : Int32)) + (1 : Int32))) 0) (Int32.toNatClampNeg p1) p2)))] := hD
                  obtain rfl := Option.some.inj hf
                  have hP9 := hP.sub (ws' := [(o5, .inr (5, [.ref o7, .ref a5_1, .int v5_2, .int v5_3, .int v5_4, .int v5_5, .int v5_6, .int 1, .int v5_8, .int v5_9])), (a5_1, .inl (cyI, 400, .inl (upd (upd g5_1 (Int32.toNatClampNeg ((p1 + (1 : Int32)) + (1 : Int32))) 0) (Int32.toNatClampNeg p1) p2)))]) [0, 1] rfl
                  have hD9 := hD.sub (ws' := [(o5, .inr (5, [.ref o7, .ref a5_1, .int v5_2, .int v5_3, .int v5_4, .int v5_5, .int v5_6, .int 1, .int v5_8, .int v5_9])), (a5_1, .inl (cyI, 400, .inl (upd (upd g5_1 (Int32.toNatClampNeg ((p1 + (1 : Int32)) + (1 : Int32))) 0) (Int32.toNatClampNeg p1) p2)))]) [0, 1] (by decide) rfl
                  exact W.vret hx hb hr (fun t ht hW => ⟨⟨(), rfl, trivial, by rw [ht]; exact hP9, va_K.moved hW.alike hK, hD9⟩, hS.F ht⟩) hS.2.2 dX5_setLocal_114
                · replace hf := x_in c_77 hf
                  refine lv_aload_n hx hb dX5_setLocal_101 rfl (lv_at hl 1 rfl) ?_
                  refine va_get (D := (dC, dI)) (ci := 5) (v := .ref a5_1) (C := RX5) (T := TX5) (N := 10) hx hb hts i_X5_setLocal_X5 hown hK hP 0 rfl rfl 1 (by decide) k_3 (fun _ h9 => h9) rfl dX5_setLocal_102 ?_
                  refine lv_iload_n hx hb dX5_setLocal_105 rfl (lv_at hl 0 rfl) ?_
                  refine lv_bipush (v := 7) hx hb dX5_setLocal_106 (by decide) ?_
                  obtain ⟨g_78, hf⟩ := x_gu hf
                  refine va_iast hx hb hK hP hD hS 1 0 rfl rfl (x_gdin g_78) dX5_setLocal_108 (fun H locs hP hD hS => ?_)
                  have hP : va_P (dC, dI) vwCl [(o5, .inr (5, [.ref o7, .ref a5_1, .int v5_2, .int v5_3, .int v5_4, .int v5_5, .int v5_6, .int v5_7, .int v5_8, .int v5_9])), (a5_1, .inl (cyI, 400, .inl (upd (upd (upd g5_1 (Int32.toNatClampNeg ((p1 + (1 : Int32)) + (1 : Int32))) 0) (Int32.toNatClampNeg p1) p2) (Int32.toNatClampNeg (p1 + (1 : Int32))) 7)))] H := hP
                  have hD : va_D A [(o5, .inr (5, [.ref o7, .ref a5_1, .int v5_2, .int v5_3, .int v5_4, .int v5_5, .int v5_6, .int v5_7, .int v5_8, .int v5_9])), (a5_1, .inl (cyI, 400, .inl (upd (upd (upd g5_1 (Int32.toNatClampNeg ((p1 + (1 : Int32)) + (1 : Int32))) 0) (Int32.toNatClampNeg p1) p2) (Int32.toNatClampNeg (p1 + (1 : Int32))) 7)))] := hD
                  refine lv_aload_n hx hb dX5_setLocal_109 rfl (lv_at hl 1 rfl) ?_
                  refine lv_iconst (v := 1) hx hb dX5_setLocal_110 (by decide) ?_
                  refine va_put (D := (dC, dI)) (ci := 5) (v := .int 1) (ty := .boolean) (C := RX5) (T := TX5) (N := 10) hx hb hts i_X5_setLocal_X5 tyX5 tyX5_ok nmX5 hown hK hP hD hS 0 rfl rfl 7 (by decide) k_4 (fun _ h9 => h9) rfl (by decide +kernel) rfl rfl (Nat.le_of_ble_eq_true rfl) dX5_setLocal_111 (fun H locs hP hD hS => ?_)
                  have hP : va_P (dC, dI) vwCl [(o5, .inr (5, [.ref o7, .ref a5_1, .int v5_2, .int v5_3, .int v5_4, .int v5_5, .int v5_6, .int 1, .int v5_8, .int v5_9])), (a5_1, .inl (cyI, 400, .inl (upd (upd (upd g5_1 (Int32.toNatClampNeg ((p1 + (1 : Int32)) + (1 : Int32))) 0) (Int32.toNatClampNeg p1) p2) (Int32.toNatClampNeg (p1 + (1 : Int32))) 7)))] H := hP
                  have hD : va_D A [(o5, .inr (5, [.ref o7, .ref a5_1, .int v5_2, .int v5_3, .int v5_4, .int v5_5, .int v5_6, .int 1, .int v5_8, .int v5_9])), (a5_1, .inl (cyI, 400, .inl (upd (upd (upd g5_1 (Int32.toNatClampNeg ((p1 + (1 : Int32)) + (1 : Int32))) 0) (Int32.toNatClampNeg p1) p2) (Int32.toNatClampNeg (p1 + (1 : Int32))) 7)))] := hD
                  obtain rfl := Option.some.inj hf
                  have hP9 := hP.sub (ws' := [(o5, .inr (5, [.ref o7, .ref a5_1, .int v5_2, .int v5_3, .int v5_4, .int v5_5, .int v5_6, .int 1, .int v5_8, .int v5_9])), (a5_1, .inl (cyI, 400, .inl (upd (upd (upd g5_1 (Int32.toNatClampNeg ((p1 + (1 : Int32)) + (1 : Int32))) 0) (Int32.toNatClampNeg p1) p2) (Int32.toNatClampNeg (p1 + (1 : Int32))) 7)))]) [0, 1] rfl
                  have hD9 := hD.sub (ws' := [(o5, .inr (5, [.ref o7, .ref a5_1, .int v5_2, .int v5_3, .int v5_4, .int v5_5, .int v5_6, .int 1, .int v5_8, .int v5_9])), (a5_1, .inl (cyI, 400, .inl (upd (upd (upd g5_1 (Int32.toNatClampNeg ((p1 + (1 : Int32)) + (1 : Int32))) 0) (Int32.toNatClampNeg p1) p2) (Int32.toNatClampNeg (p1 + (1 : Int32))) 7)))]) [0, 1] (by decide) rfl
                  exact W.vret hx hb hr (fun t ht hW => ⟨⟨(), rfl, trivial, by rw [ht]; exact hP9, va_K.moved hW.alike hK, hD9⟩, hS.F ht⟩) hS.2.2 dX5_setLocal_114
          · replace hf := x_ip c_65 hf
            refine lv_aload_n hx hb dX5_setLocal_48 rfl (lv_at hl 1 rfl) ?_
            refine va_get (D := (dC, dI)) (ci := 5) (v := .ref a5_1) (C := RX5) (T := TX5) (N := 10) hx hb hts i_X5_setLocal_X5 hown hK hP 0 rfl rfl 1 (by decide) k_3 (fun _ h9 => h9) rfl dX5_setLocal_49 ?_
            refine lv_iload_n hx hb dX5_setLocal_52 rfl (lv_at hl 2 rfl) ?_
            refine lv_iconst (v := 1) hx hb dX5_setLocal_53 (by decide) ?_
            refine lv_isub hx hb dX5_setLocal_54 ?_
            refine lv_iconst (v := 0) hx hb dX5_setLocal_55 (by decide) ?_
            obtain ⟨g_79, hf⟩ := x_gu hf
            refine va_iast hx hb hK hP hD hS 1 0 rfl rfl (x_gdin g_79) dX5_setLocal_56 (fun H locs hP hD hS => ?_)
            have hP : va_P (dC, dI) vwCl [(o5, .inr (5, [.ref o7, .ref a5_1, .int v5_2, .int v5_3, .int v5_4, .int v5_5, .int v5_6, .int v5_7, .int v5_8, .int v5_9])), (a5_1, .inl (cyI, 400, .inl (upd g5_1 (Int32.toNatClampNeg (p1 - (1 : Int32))) 0)))] H := hP
            have hD : va_D A [(o5, .inr (5, [.ref o7, .ref a5_1, .int v5_2, .int v5_3, .int v5_4, .int v5_5, .int v5_6, .int v5_7, .int v5_8, .int v5_9])), (a5_1, .inl (cyI, 400, .inl (upd g5_1 (Int32.toNatClampNeg (p1 - (1 : Int32))) 0)))] := hD
            refine lv_iload_n hx hb dX5_setLocal_57 rfl (lv_at hl 0 rfl) ?_
            refine lv_iconst (v := 1) hx hb dX5_setLocal_58 (by decide) ?_
            refine lv_iadd hx hb dX5_setLocal_59 ?_
            refine lv_aload_n hx hb dX5_setLocal_60 rfl (lv_at hl 1 rfl) ?_
            refine va_get (D := (dC, dI)) (ci := 5) (v := .int v5_2) (C := RX5) (T := TX5) (N := 10) hx hb hts i_X5_setLocal_X5 hown hK hP 0 rfl rfl 2 (by decide) k_2 (fun _ h9 => h9) rfl dX5_setLocal_61 ?_
            refine lv_icmp_ge (tgt := 89) hx hb dX5_setLocal_64 (by decide) (fun c_80 => ?_) (fun c_80 => ?_)
            · replace hf := x_ip c_80 hf
              refine lv_aload_n hx hb dX5_setLocal_89 rfl (lv_at hl 1 rfl) ?_
              refine va_get (D := (dC, dI)) (ci := 5) (v := .ref a5_1) (C := RX5) (T := TX5) (N := 10) hx hb hts i_X5_setLocal_X5 hown hK hP 0 rfl rfl 1 (by decide) k_3 (fun _ h9 => h9) rfl dX5_setLocal_90 ?_
              refine lv_iload_n hx hb dX5_setLocal_93 rfl (lv_at hl 2 rfl) ?_
              refine lv_iload_n hx hb dX5_setLocal_94 rfl (lv_at hl 3 rfl) ?_
              obtain ⟨g_81, hf⟩ := x_gu hf
              refine va_iast hx hb hK hP hD hS 1 0 rfl rfl (x_gdin g_81) dX5_setLocal_95 (fun H locs hP hD hS => ?_)
              have hP : va_P (dC, dI) vwCl [(o5, .inr (5, [.ref o7, .ref a5_1, .int v5_2, .int v5_3, .int v5_4, .int v5_5, .int v5_6, .int v5_7, .int v5_8, .int v5_9])), (a5_1, .inl (cyI, 400, .inl (upd (upd g5_1 (Int32.toNatClampNeg (p1 - (1 : Int32))) 0) (Int32.toNatClampNeg p1) p2)))] H := hP
              have hD : va_D A [(o5, .inr (5, [.ref o7, .ref a5_1, .int v5_2, .int v5_3, .int v5_4, .int v5_5, .int v5_6, .int v5_7, .int v5_8, .int v5_9])), (a5_1, .inl (cyI, 400, .inl (upd (upd g5_1 (Int32.toNatClampNeg (p1 - (1 : Int32))) 0) (Int32.toNatClampNeg p1) p2)))] := hD
              refine lv_iload_n hx hb dX5_setLocal_96 rfl (lv_at hl 0 rfl) ?_
              refine lv_iload_n hx hb dX5_setLocal_97 rfl (lv_at hl 2 rfl) ?_
              refine lv_icmp_le (tgt := 109) hx hb dX5_setLocal_98 (by decide) (fun c_82 => ?_) (fun c_82 => ?_)
              · replace hf := x_ip c_82 hf
                refine lv_aload_n hx hb dX5_setLocal_109 rfl (lv_at hl 1 rfl) ?_
                refine lv_iconst (v := 1) hx hb dX5_setLocal_110 (by decide) ?_
                refine va_put (D := (dC, dI)) (ci := 5) (v := .int 1) (ty := .boolean) (C := RX5) (T := TX5) (N := 10) hx hb hts i_X5_setLocal_X5 tyX5 tyX5_ok nmX5 hown hK hP hD hS 0 rfl rfl 7 (by decide) k_4 (fun _ h9 => h9) rfl (by decide +kernel) rfl rfl (Nat.le_of_ble_eq_true rfl) dX5_setLocal_111 (fun H locs hP hD hS => ?_)
                have hP : va_P (dC, dI) vwCl [(o5, .inr (5, [.ref o7, .ref a5_1, .int v5_2, .int v5_3, .int v5_4, .int v5_5, .int v5_6, .int 1, .int v5_8, .int v5_9])), (a5_1, .inl (cyI, 400, .inl (upd (upd g5_1 (Int32.toNatClampNeg (p1 - (1 : Int32))) 0) (Int32.toNatClampNeg p1) p2)))] H := hP
                have hD : va_D A [(o5, .inr (5, [.ref o7, .ref a5_1, .int v5_2, .int v5_3, .int v5_4, .int v5_5, .int v5_6, .int 1, .int v5_8, .int v5_9])), (a5_1, .inl (cyI, 400, .inl (upd (upd g5_1 (Int32.toNatClampNeg (p1 - (1 : Int32))) 0) (Int32.toNatClampNeg p1) p2)))] := hD
                obtain rfl := Option.some.inj hf
                have hP9 := hP.sub (ws' := [(o5, .inr (5, [.ref o7, .ref a5_1, .int v5_2, .int v5_3, .int v5_4, .int v5_5, .int v5_6, .int 1, .int v5_8, .int v5_9])), (a5_1, .inl (cyI, 400, .inl (upd (upd g5_1 (Int32.toNatClampNeg (p1 - (1 : Int32))) 0) (Int32.toNatClampNeg p1) p2)))]) [0, 1] rfl
                have hD9 := hD.sub (ws' := [(o5, .inr (5, [.ref o7, .ref a5_1, .int v5_2, .int v5_3, .int v5_4, .int v5_5, .int v5_6, .int 1, .int v5_8, .int v5_9])), (a5_1, .inl (cyI, 400, .inl (upd (upd g5_1 (Int32.toNatClampNeg (p1 - (1 : Int32))) 0) (Int32.toNatClampNeg p1) p2)))]) [0, 1] (by decide) rfl
                exact W.vret hx hb hr (fun t ht hW => ⟨⟨(), rfl, trivial, by rw [ht]; exact hP9, va_K.moved hW.alike hK, hD9⟩, hS.F ht⟩) hS.2.2 dX5_setLocal_114
              · replace hf := x_in c_82 hf
                refine lv_aload_n hx hb dX5_setLocal_101 rfl (lv_at hl 1 rfl) ?_
                refine va_get (D := (dC, dI)) (ci := 5) (v := .ref a5_1) (C := RX5) (T := TX5) (N := 10) hx hb hts i_X5_setLocal_X5 hown hK hP 0 rfl rfl 1 (by decide) k_3 (fun _ h9 => h9) rfl dX5_setLocal_102 ?_
                refine lv_iload_n hx hb dX5_setLocal_105 rfl (lv_at hl 0 rfl) ?_
                refine lv_bipush (v := 7) hx hb dX5_setLocal_106 (by decide) ?_
                obtain ⟨g_83, hf⟩ := x_gu hf
                refine va_iast hx hb hK hP hD hS 1 0 rfl rfl (x_gdin g_83) dX5_setLocal_108 (fun H locs hP hD hS => ?_)
                have hP : va_P (dC, dI) vwCl [(o5, .inr (5, [.ref o7, .ref a5_1, .int v5_2, .int v5_3, .int v5_4, .int v5_5, .int v5_6, .int v5_7, .int v5_8, .int v5_9])), (a5_1, .inl (cyI, 400, .inl (upd (upd (upd g5_1 (Int32.toNatClampNeg (p1 - (1 : Int32))) 0) (Int32.toNatClampNeg p1) p2) (Int32.toNatClampNeg (p1 + (1 : Int32))) 7)))] H := hP
                have hD : va_D A [(o5, .inr (5, [.ref o7, .ref a5_1, .int v5_2, .int v5_3, .int v5_4, .int v5_5, .int v5_6, .int v5_7, .int v5_8, .int v5_9])), (a5_1, .inl (cyI, 400, .inl (upd (upd (upd g5_1 (Int32.toNatClampNeg (p1 - (1 : Int32))) 0) (Int32.toNatClampNeg p1) p2) (Int32.toNatClampNeg (p1 + (1 : Int32))) 7)))] := hD
                refine lv_aload_n hx hb dX5_setLocal_109 rfl (lv_at hl 1 rfl) ?_
                refine lv_iconst (v := 1) hx hb dX5_setLocal_110 (by decide) ?_
                refine va_put (D := (dC, dI)) (ci := 5) (v := .int 1) (ty := .boolean) (C := RX5) (T := TX5) (N := 10) hx hb hts i_X5_setLocal_X5 tyX5 tyX5_ok nmX5 hown hK hP hD hS 0 rfl rfl 7 (by decide) k_4 (fun _ h9 => h9) rfl (by decide +kernel) rfl rfl (Nat.le_of_ble_eq_true rfl) dX5_setLocal_111 (fun H locs hP hD hS => ?_)
                have hP : va_P (dC, dI) vwCl [(o5, .inr (5, [.ref o7, .ref a5_1, .int v5_2, .int v5_3, .int v5_4, .int v5_5, .int v5_6, .int 1, .int v5_8, .int v5_9])), (a5_1, .inl (cyI, 400, .inl (upd (upd (upd g5_1 (Int32.toNatClampNeg (p1 - (1 : Int32))) 0) (Int32.toNatClampNeg p1) p2) (Int32.toNatClampNeg (p1 + (1 : Int32))) 7)))] H := hP
                have hD : va_D A [(o5, .inr (5, [.ref o7, .ref a5_1, .int v5_2, .int v5_3, .int v5_4, .int v5_5, .int v5_6, .int 1, .int v5_8, .int v5_9])), (a5_1, .inl (cyI, 400, .inl (upd (upd (upd g5_1 (Int32.toNatClampNeg (p1 - (1 : Int32))) 0) (Int32.toNatClampNeg p1) p2) (Int32.toNatClampNeg (p1 + (1 : Int32))) 7)))] := hD
                obtain rfl := Option.some.inj hf
                have hP9 := hP.sub (ws' := [(o5, .inr (5, [.ref o7, .ref a5_1, .int v5_2, .int v5_3, .int v5_4, .int v5_5, .int v5_6, .int 1, .int v5_8, .int v5_9])), (a5_1, .inl (cyI, 400, .inl (upd (upd (upd g5_1 (Int32.toNatClampNeg (p1 - (1 : Int32))) 0) (Int32.toNatClampNeg p1) p2) (Int32.toNatClampNeg (p1 + (1 : Int32))) 7)))]) [0, 1] rfl
                have hD9 := hD.sub (ws' := [(o5, .inr (5, [.ref o7, .ref a5_1, .int v5_2, .int v5_3, .int v5_4, .int v5_5, .int v5_6, .int 1, .int v5_8, .int v5_9])), (a5_1, .inl (cyI, 400, .inl (upd (upd (upd g5_1 (Int32.toNatClampNeg (p1 - (1 : Int32))) 0) (Int32.toNatClampNeg p1) p2) (Int32.toNatClampNeg (p1 + (1 : Int32))) 7)))]) [0, 1] (by decide) rfl
                exact W.vret hx hb hr (fun t ht hW => ⟨⟨(), rfl, trivial, by rw [ht]; exact hP9, va_K.moved hW.alike hK, hD9⟩, hS.F ht⟩) hS.2.2 dX5_setLocal_114
            · replace hf := x_in c_80 hf
              refine lv_aload_n hx hb dX5_setLocal_67 rfl (lv_at hl 1 rfl) ?_
              refine va_get (D := (dC, dI)) (ci := 5) (v := .ref a5_1) (C := RX5) (T := TX5) (N := 10) hx hb hts i_X5_setLocal_X5 hown hK hP 0 rfl rfl 1 (by decide) k_3 (fun _ h9 => h9) rfl dX5_setLocal_68 ?_
              refine lv_iload_n hx hb dX5_setLocal_71 rfl (lv_at hl 0 rfl) ?_
              refine lv_iconst (v := 1) hx hb dX5_setLocal_72 (by decide) ?_
              refine lv_iadd hx hb dX5_setLocal_73 ?_
              obtain ⟨g_84, hf⟩ := x_gu hf
              refine va_iald hx hb hK hP 1 0 rfl rfl (x_gdin g_84) dX5_setLocal_74 ?_
              refine lv_bipush (v := 7) hx hb dX5_setLocal_75 (by decide) ?_
              refine lv_icmp_ne (tgt := 89) hx hb dX5_setLocal_77 (by decide) (fun c_85 => ?_) (fun c_85 => ?_)
              · replace hf := x_in c_85 hf
                refine lv_aload_n hx hb dX5_setLocal_89 rfl (lv_at hl 1 rfl) ?_
                refine va_get (D := (dC, dI)) (ci := 5) (v := .ref a5_1) (C := RX5) (T := TX5) (N := 10) hx hb hts i_X5_setLocal_X5 hown hK hP 0 rfl rfl 1 (by decide) k_3 (fun _ h9 => h9) rfl dX5_setLocal_90 ?_
                refine lv_iload_n hx hb dX5_setLocal_93 rfl (lv_at hl 2 rfl) ?_
                refine lv_iload_n hx hb dX5_setLocal_94 rfl (lv_at hl 3 rfl) ?_
                obtain ⟨g_86, hf⟩ := x_gu hf
                refine va_iast hx hb hK hP hD hS 1 0 rfl rfl (x_gdin g_86) dX5_setLocal_95 (fun H locs hP hD hS => ?_)
                have hP : va_P (dC, dI) vwCl [(o5, .inr (5, [.ref o7, .ref a5_1, .int v5_2, .int v5_3, .int v5_4, .int v5_5, .int v5_6, .int v5_7, .int v5_8, .int v5_9])), (a5_1, .inl (cyI, 400, .inl (upd (upd g5_1 (Int32.toNatClampNeg (p1 - (1 : Int32))) 0) (Int32.toNatClampNeg p1) p2)))] H := hP
                have hD : va_D A [(o5, .inr (5, [.ref o7, .ref a5_1, .int v5_2, .int v5_3, .int v5_4, .int v5_5, .int v5_6, .int v5_7, .int v5_8, .int v5_9])), (a5_1, .inl (cyI, 400, .inl (upd (upd g5_1 (Int32.toNatClampNeg (p1 - (1 : Int32))) 0) (Int32.toNatClampNeg p1) p2)))] := hD
                refine lv_iload_n hx hb dX5_setLocal_96 rfl (lv_at hl 0 rfl) ?_
                refine lv_iload_n hx hb dX5_setLocal_97 rfl (lv_at hl 2 rfl) ?_
                refine lv_icmp_le (tgt := 109) hx hb dX5_setLocal_98 (by decide) (fun c_87 => ?_) (fun c_87 => ?_)
                · replace hf := x_ip c_87 hf
                  refine lv_aload_n hx hb dX5_setLocal_109 rfl (lv_at hl 1 rfl) ?_
                  refine lv_iconst (v := 1) hx hb dX5_setLocal_110 (by decide) ?_
                  refine va_put (D := (dC, dI)) (ci := 5) (v := .int 1) (ty := .boolean) (C := RX5) (T := TX5) (N := 10) hx hb hts i_X5_setLocal_X5 tyX5 tyX5_ok nmX5 hown hK hP hD hS 0 rfl rfl 7 (by decide) k_4 (fun _ h9 => h9) rfl (by decide +kernel) rfl rfl (Nat.le_of_ble_eq_true rfl) dX5_setLocal_111 (fun H locs hP hD hS => ?_)
                  have hP : va_P (dC, dI) vwCl [(o5, .inr (5, [.ref o7, .ref a5_1, .int v5_2, .int v5_3, .int v5_4, .int v5_5, .int v5_6, .int 1, .int v5_8, .int v5_9])), (a5_1, .inl (cyI, 400, .inl (upd (upd g5_1 (Int32.toNatClampNeg (p1 - (1 : Int32))) 0) (Int32.toNatClampNeg p1) p2)))] H := hP
                  have hD : va_D A [(o5, .inr (5, [.ref o7, .ref a5_1, .int v5_2, .int v5_3, .int v5_4, .int v5_5, .int v5_6, .int 1, .int v5_8, .int v5_9])), (a5_1, .inl (cyI, 400, .inl (upd (upd g5_1 (Int32.toNatClampNeg (p1 - (1 : Int32))) 0) (Int32.toNatClampNeg p1) p2)))] := hD
                  obtain rfl := Option.some.inj hf
                  have hP9 := hP.sub (ws' := [(o5, .inr (5, [.ref o7, .ref a5_1, .int v5_2, .int v5_3, .int v5_4, .int v5_5, .int v5_6, .int 1, .int v5_8, .int v5_9])), (a5_1, .inl (cyI, 400, .inl (upd (upd g5_1 (Int32.toNatClampNeg (p1 - (1 : Int32))) 0) (Int32.toNatClampNeg p1) p2)))]) [0, 1] rfl
                  have hD9 := hD.sub (ws' := [(o5, .inr (5, [.ref o7, .ref a5_1, .int v5_2, .int v5_3, .int v5_4, .int v5_5, .int v5_6, .int 1, .int v5_8, .int v5_9])), (a5_1, .inl (cyI, 400, .inl (upd (upd g5_1 (Int32.toNatClampNeg (p1 - (1 : Int32))) 0) (Int32.toNatClampNeg p1) p2)))]) [0, 1] (by decide) rfl
                  exact W.vret hx hb hr (fun t ht hW => ⟨⟨(), rfl, trivial, by rw [ht]; exact hP9, va_K.moved hW.alike hK, hD9⟩, hS.F ht⟩) hS.2.2 dX5_setLocal_114
                · replace hf := x_in c_87 hf
                  refine lv_aload_n hx hb dX5_setLocal_101 rfl (lv_at hl 1 rfl) ?_
                  refine va_get (D := (dC, dI)) (ci := 5) (v := .ref a5_1) (C := RX5) (T := TX5) (N := 10) hx hb hts i_X5_setLocal_X5 hown hK hP 0 rfl rfl 1 (by decide) k_3 (fun _ h9 => h9) rfl dX5_setLocal_102 ?_
                  refine lv_iload_n hx hb dX5_setLocal_105 rfl (lv_at hl 0 rfl) ?_
                  refine lv_bipush (v := 7) hx hb dX5_setLocal_106 (by decide) ?_
                  obtain ⟨g_88, hf⟩ := x_gu hf
                  refine va_iast hx hb hK hP hD hS 1 0 rfl rfl (x_gdin g_88) dX5_setLocal_108 (fun H locs hP hD hS => ?_)
                  have hP : va_P (dC, dI) vwCl [(o5, .inr (5, [.ref o7, .ref a5_1, .int v5_2, .int v5_3, .int v5_4, .int v5_5, .int v5_6, .int v5_7, .int v5_8, .int v5_9])), (a5_1, .inl (cyI, 400, .inl (upd (upd (upd g5_1 (Int32.toNatClampNeg (p1 - (1 : Int32))) 0) (Int32.toNatClampNeg p1) p2) (Int32.toNatClampNeg (p1 + (1 : Int32))) 7)))] H := hP
                  have hD : va_D A [(o5, .inr (5, [.ref o7, .ref a5_1, .int v5_2, .int v5_3, .int v5_4, .int v5_5, .int v5_6, .int v5_7, .int v5_8, .int v5_9])), (a5_1, .inl (cyI, 400, .inl (upd (upd (upd g5_1 (Int32.toNatClampNeg (p1 - (1 : Int32))) 0) (Int32.toNatClampNeg p1) p2) (Int32.toNatClampNeg (p1 + (1 : Int32))) 7)))] := hD
                  refine lv_aload_n hx hb dX5_setLocal_109 rfl (lv_at hl 1 rfl) ?_
                  refine lv_iconst (v := 1) hx hb dX5_setLocal_110 (by decide) ?_
                  refine va_put (D := (dC, dI)) (ci := 5) (v := .int 1) (ty := .boolean) (C := RX5) (T := TX5) (N := 10) hx hb hts i_X5_setLocal_X5 tyX5 tyX5_ok nmX5 hown hK hP hD hS 0 rfl rfl 7 (by decide) k_4 (fun _ h9 => h9) rfl (by decide +kernel) rfl rfl (Nat.le_of_ble_eq_true rfl) dX5_setLocal_111 (fun H locs hP hD hS => ?_)
                  have hP : va_P (dC, dI) vwCl [(o5, .inr (5, [.ref o7, .ref a5_1, .int v5_2, .int v5_3, .int v5_4, .int v5_5, .int v5_6, .int 1, .int v5_8, .int v5_9])), (a5_1, .inl (cyI, 400, .inl (upd (upd (upd g5_1 (Int32.toNatClampNeg (p1 - (1 : Int32))) 0) (Int32.toNatClampNeg p1) p2) (Int32.toNatClampNeg (p1 + (1 : Int32))) 7)))] H := hP
                  have hD : va_D A [(o5, .inr (5, [.ref o7, .ref a5_1, .int v5_2, .int v5_3, .int v5_4, .int v5_5, .int v5_6, .int 1, .int v5_8, .int v5_9])), (a5_1, .inl (cyI, 400, .inl (upd (upd (upd g5_1 (Int32.toNatClampNeg (p1 - (1 : Int32))) 0) (Int32.toNatClampNeg p1) p2) (Int32.toNatClampNeg (p1 + (1 : Int32))) 7)))] := hD
                  obtain rfl := Option.some.inj hf
                  have hP9 := hP.sub (ws' := [(o5, .inr (5, [.ref o7, .ref a5_1, .int v5_2, .int v5_3, .int v5_4, .int v5_5, .int v5_6, .int 1, .int v5_8, .int v5_9])), (a5_1, .inl (cyI, 400, .inl (upd (upd (upd g5_1 (Int32.toNatClampNeg (p1 - (1 : Int32))) 0) (Int32.toNatClampNeg p1) p2) (Int32.toNatClampNeg (p1 + (1 : Int32))) 7)))]) [0, 1] rfl
                  have hD9 := hD.sub (ws' := [(o5, .inr (5, [.ref o7, .ref a5_1, .int v5_2, .int v5_3, .int v5_4, .int v5_5, .int v5_6, .int 1, .int v5_8, .int v5_9])), (a5_1, .inl (cyI, 400, .inl (upd (upd (upd g5_1 (Int32.toNatClampNeg (p1 - (1 : Int32))) 0) (Int32.toNatClampNeg p1) p2) (Int32.toNatClampNeg (p1 + (1 : Int32))) 7)))]) [0, 1] (by decide) rfl
                  exact W.vret hx hb hr (fun t ht hW => ⟨⟨(), rfl, trivial, by rw [ht]; exact hP9, va_K.moved hW.alike hK, hD9⟩, hS.F ht⟩) hS.2.2 dX5_setLocal_114
              · replace hf := x_ip c_85 hf
                refine lv_aload_n hx hb dX5_setLocal_80 rfl (lv_at hl 1 rfl) ?_
                refine va_get (D := (dC, dI)) (ci := 5) (v := .ref a5_1) (C := RX5) (T := TX5) (N := 10) hx hb hts i_X5_setLocal_X5 hown hK hP 0 rfl rfl 1 (by decide) k_3 (fun _ h9 => h9) rfl dX5_setLocal_81 ?_
                refine lv_iload_n hx hb dX5_setLocal_84 rfl (lv_at hl 0 rfl) ?_
                refine lv_iconst (v := 1) hx hb dX5_setLocal_85 (by decide) ?_
                refine lv_iadd hx hb dX5_setLocal_86 ?_
                refine lv_iconst (v := 0) hx hb dX5_setLocal_87 (by decide) ?_
                obtain ⟨g_89, hf⟩ := x_gu hf
                refine va_iast hx hb hK hP hD hS 1 0 rfl rfl (x_gdin g_89) dX5_setLocal_88 (fun H locs hP hD hS => ?_)
                have hP : va_P (dC, dI) vwCl [(o5, .inr (5, [.ref o7, .ref a5_1, .int v5_2, .int v5_3, .int v5_4, .int v5_5, .int v5_6, .int v5_7, .int v5_8, .int v5_9])), (a5_1, .inl (cyI, 400, .inl (upd (upd g5_1 (Int32.toNatClampNeg (p1 - (1 : Int32))) 0) (Int32.toNatClampNeg ((p1 + (1 : Int32)) + (1 : Int32))) 0)))] H := hP
                have hD : va_D A [(o5, .inr (5, [.ref o7, .ref a5_1, .int v5_2, .int v5_3, .int v5_4, .int v5_5, .int v5_6, .int v5_7, .int v5_8, .int v5_9])), (a5_1, .inl (cyI, 400, .inl (upd (upd g5_1 (Int32.toNatClampNeg (p1 - (1 : Int32))) 0) (Int32.toNatClampNeg ((p1 + (1 : Int32)) + (1 : Int32))) 0)))] := hD
                refine lv_aload_n hx hb dX5_setLocal_89 rfl (lv_at hl 1 rfl) ?_
                refine va_get (D := (dC, dI)) (ci := 5) (v := .ref a5_1) (C := RX5) (T := TX5) (N := 10) hx hb hts i_X5_setLocal_X5 hown hK hP 0 rfl rfl 1 (by decide) k_3 (fun _ h9 => h9) rfl dX5_setLocal_90 ?_
                refine lv_iload_n hx hb dX5_setLocal_93 rfl (lv_at hl 2 rfl) ?_
                refine lv_iload_n hx hb dX5_setLocal_94 rfl (lv_at hl 3 rfl) ?_
                obtain ⟨g_90, hf⟩ := x_gu hf
                refine va_iast hx hb hK hP hD hS 1 0 rfl rfl (x_gdin g_90) dX5_setLocal_95 (fun H locs hP hD hS => ?_)
                have hP : va_P (dC, dI) vwCl [(o5, .inr (5, [.ref o7, .ref a5_1, .int v5_2, .int v5_3, .int v5_4, .int v5_5, .int v5_6, .int v5_7, .int v5_8, .int v5_9])), (a5_1, .inl (cyI, 400, .inl (upd (upd (upd g5_1 (Int32.toNatClampNeg (p1 - (1 : Int32))) 0) (Int32.toNatClampNeg ((p1 + (1 : Int32)) + (1 : Int32))) 0) (Int32.toNatClampNeg p1) p2)))] H := hP
                have hD : va_D A [(o5, .inr (5, [.ref o7, .ref a5_1, .int v5_2, .int v5_3, .int v5_4, .int v5_5, .int v5_6, .int v5_7, .int v5_8, .int v5_9])), (a5_1, .inl (cyI, 400, .inl (upd (upd (upd g5_1 (Int32.toNatClampNeg (p1 - (1 : Int32))) 0) (Int32.toNatClampNeg ((p1 + (1 : Int32)) + (1 : Int32))) 0) (Int32.toNatClampNeg p1) p2)))] := hD
                refine lv_iload_n hx hb dX5_setLocal_96 rfl (lv_at hl 0 rfl) ?_
                refine lv_iload_n hx hb dX5_setLocal_97 rfl (lv_at hl 2 rfl) ?_
                refine lv_icmp_le (tgt := 109) hx hb dX5_setLocal_98 (by decide) (fun c_91 => ?_) (fun c_91 => ?_)
                · replace hf := x_ip c_91 hf
                  refine lv_aload_n hx hb dX5_setLocal_109 rfl (lv_at hl 1 rfl) ?_
                  refine lv_iconst (v := 1) hx hb dX5_setLocal_110 (by decide) ?_
                  refine va_put (D := (dC, dI)) (ci := 5) (v := .int 1) (ty := .boolean) (C := RX5) (T := TX5) (N := 10) hx hb hts i_X5_setLocal_X5 tyX5 tyX5_ok nmX5 hown hK hP hD hS 0 rfl rfl 7 (by decide) k_4 (fun _ h9 => h9) rfl (by decide +kernel) rfl rfl (Nat.le_of_ble_eq_true rfl) dX5_setLocal_111 (fun H locs hP hD hS => ?_)
                  have hP : va_P (dC, dI) vwCl [(o5, .inr (5, [.ref o7, .ref a5_1, .int v5_2, .int v5_3, .int v5_4, .int v5_5, .int v5_6, .int 1, .int v5_8, .int v5_9])), (a5_1, .inl (cyI, 400, .inl (upd (upd (upd g5_1 (Int32.toNatClampNeg (p1 - (1 : Int32))) 0) (Int32.toNatClampNeg ((p1 + (1 : Int32)) + (1 : Int32))) 0) (Int32.toNatClampNeg p1) p2)))] H := hP
                  have hD : va_D A [(o5, .inr (5, [.ref o7, .ref a5_1, .int v5_2, .int v5_3, .int v5_4, .int v5_5, .int v5_6, .int 1, .int v5_8, .int v5_9])), (a5_1, .inl (cyI, 400, .inl (upd (upd (upd g5_1 (Int32.toNatClampNeg (p1 - (1 : Int32))) 0) (Int32.toNatClampNeg ((p1 + (1 : Int32)) + (1 : Int32))) 0) (Int32.toNatClampNeg p1) p2)))] := hD
                  obtain rfl := Option.some.inj hf
                  have hP9 := hP.sub (ws' := [(o5, .inr (5, [.ref o7, .ref a5_1, .int v5_2, .int v5_3, .int v5_4, .int v5_5, .int v5_6, .int 1, .int v5_8, .int v5_9])), (a5_1, .inl (cyI, 400, .inl (upd (upd (upd g5_1 (Int32.toNatClampNeg (p1 - (1 : Int32))) 0) (Int32.toNatClampNeg ((p1 + (1 : Int32)) + (1 : Int32))) 0) (Int32.toNatClampNeg p1) p2)))]) [0, 1] rfl
                  have hD9 := hD.sub (ws' := [(o5, .inr (5, [.ref o7, .ref a5_1, .int v5_2, .int v5_3, .int v5_4, .int v5_5, .int v5_6, .int 1, .int v5_8, .int v5_9])), (a5_1, .inl (cyI, 400, .inl (upd (upd (upd g5_1 (Int32.toNatClampNeg (p1 - (1 : Int32))) 0) (Int32.toNatClampNeg ((p1 + (1 : Int32)) + (1 : Int32))) 0) (Int32.toNatClampNeg p1) p2)))]) [0, 1] (by decide) rfl
                  exact W.vret hx hb hr (fun t ht hW => ⟨⟨(), rfl, trivial, by rw [ht]; exact hP9, va_K.moved hW.alike hK, hD9⟩, hS.F ht⟩) hS.2.2 dX5_setLocal_114
                · replace hf := x_in c_91 hf
                  refine lv_aload_n hx hb dX5_setLocal_101 rfl (lv_at hl 1 rfl) ?_
                  refine va_get (D := (dC, dI)) (ci := 5) (v := .ref a5_1) (C := RX5) (T := TX5) (N := 10) hx hb hts i_X5_setLocal_X5 hown hK hP 0 rfl rfl 1 (by decide) k_3 (fun _ h9 => h9) rfl dX5_setLocal_102 ?_
                  refine lv_iload_n hx hb dX5_setLocal_105 rfl (lv_at hl 0 rfl) ?_
                  refine lv_bipush (v := 7) hx hb dX5_setLocal_106 (by decide) ?_
                  obtain ⟨g_92, hf⟩ := x_gu hf
                  refine va_iast hx hb hK hP hD hS 1 0 rfl rfl (x_gdin g_92) dX5_setLocal_108 (fun H locs hP hD hS => ?_)
                  have hP : va_P (dC, dI) vwCl [(o5, .inr (5, [.ref o7, .ref a5_1, .int v5_2, .int v5_3, .int v5_4, .int v5_5, .int v5_6, .int v5_7, .int v5_8, .int v5_9])), (a5_1, .inl (cyI, 400, .inl (upd (upd (upd (upd g5_1 (Int32.toNatClampNeg (p1 - (1 : Int32))) 0) (Int32.toNatClampNeg ((p1 + (1 : Int32)) + (1 : Int32))) 0) (Int32.toNatClampNeg p1) p2) (Int32.toNatClampNeg (p1 + (1 : Int32))) 7)))] H := hP
                  have hD : va_D A [(o5, .inr (5, [.ref o7, .ref a5_1, .int v5_2, .int v5_3, .int v5_4, .int v5_5, .int v5_6, .int v5_7, .int v5_8, .int v5_9])), (a5_1, .inl (cyI, 400, .inl (upd (upd (upd (upd g5_1 (Int32.toNatClampNeg (p1 - (1 : Int32))) 0) (Int32.toNatClampNeg ((p1 + (1 : Int32)) + (1 : Int32))) 0) (Int32.toNatClampNeg p1) p2) (Int32.toNatClampNeg (p1 + (1 : Int32))) 7)))] := hD
                  refine lv_aload_n hx hb dX5_setLocal_109 rfl (lv_at hl 1 rfl) ?_
                  refine lv_iconst (v := 1) hx hb dX5_setLocal_110 (by decide) ?_
                  refine va_put (D := (dC, dI)) (ci := 5) (v := .int 1) (ty := .boolean) (C := RX5) (T := TX5) (N := 10) hx hb hts i_X5_setLocal_X5 tyX5 tyX5_ok nmX5 hown hK hP hD hS 0 rfl rfl 7 (by decide) k_4 (fun _ h9 => h9) rfl (by decide +kernel) rfl rfl (Nat.le_of_ble_eq_true rfl) dX5_setLocal_111 (fun H locs hP hD hS => ?_)
                  have hP : va_P (dC, dI) vwCl [(o5, .inr (5, [.ref o7, .ref a5_1, .int v5_2, .int v5_3, .int v5_4, .int v5_5, .int v5_6, .int 1, .int v5_8, .int v5_9])), (a5_1, .inl (cyI, 400, .inl (upd (upd (upd (upd g5_1 (Int32.toNatClampNeg (p1 - (1 : Int32))) 0) (Int32.toNatClampNeg ((p1 + (1 : Int32)) + (1 : Int32))) 0) (Int32.toNatClampNeg p1) p2) (Int32.toNatClampNeg (p1 + (1 : Int32))) 7)))] H := hP
                  have hD : va_D A [(o5, .inr (5, [.ref o7, .ref a5_1, .int v5_2, .int v5_3, .int v5_4, .int v5_5, .int v5_6, .int 1, .int v5_8, .int v5_9])), (a5_1, .inl (cyI, 400, .inl (upd (upd (upd (upd g5_1 (Int32.toNatClampNeg (p1 - (1 : Int32))) 0) (Int32.toNatClampNeg ((p1 + (1 : Int32)) + (1 : Int32))) 0) (Int32.toNatClampNeg p1) p2) (Int32.toNatClampNeg (p1 + (1 : Int32))) 7)))] := hD
                  obtain rfl := Option.some.inj hf
                  have hP9 := hP.sub (ws' := [(o5, .inr (5, [.ref o7, .ref a5_1, .int v5_2, .int v5_3, .int v5_4, .int v5_5, .int v5_6, .int 1, .int v5_8, .int v5_9])), (a5_1, .inl (cyI, 400, .inl (upd (upd (upd (upd g5_1 (Int32.toNatClampNeg (p1 - (1 : Int32))) 0) (Int32.toNatClampNeg ((p1 + (1 : Int32)) + (1 : Int32))) 0) (Int32.toNatClampNeg p1) p2) (Int32.toNatClampNeg (p1 + (1 : Int32))) 7)))]) [0, 1] rfl
                  have hD9 := hD.sub (ws' := [(o5, .inr (5, [.ref o7, .ref a5_1, .int v5_2, .int v5_3, .int v5_4, .int v5_5, .int v5_6, .int 1, .int v5_8, .int v5_9])), (a5_1, .inl (cyI, 400, .inl (upd (upd (upd (upd g5_1 (Int32.toNatClampNeg (p1 - (1 : Int32))) 0) (Int32.toNatClampNeg ((p1 + (1 : Int32)) + (1 : Int32))) 0) (Int32.toNatClampNeg p1) p2) (Int32.toNatClampNeg (p1 + (1 : Int32))) 7)))]) [0, 1] (by decide) rfl
                  exact W.vret hx hb hr (fun t ht hW => ⟨⟨(), rfl, trivial, by rw [ht]; exact hP9, va_K.moved hW.alike hK, hD9⟩, hS.F ht⟩) hS.2.2 dX5_setLocal_114
      · replace hf := x_in c_49 hf
        refine lv_aload_n hx hb dX5_setLocal_27 rfl (lv_at hl 1 rfl) ?_
        refine lv_iconst (v := 1) hx hb dX5_setLocal_28 (by decide) ?_
        refine va_put (D := (dC, dI)) (ci := 5) (v := .int 1) (ty := .boolean) (C := RX5) (T := TX5) (N := 10) hx hb hts i_X5_setLocal_X5 tyX5 tyX5_ok nmX5 hown hK hP hD hS 0 rfl rfl 6 (by decide) k_1 (fun _ h9 => h9) rfl (by decide +kernel) rfl rfl (Nat.le_of_ble_eq_true rfl) dX5_setLocal_29 (fun H locs hP hD hS => ?_)
        have hP : va_P (dC, dI) vwCl [(o5, .inr (5, [.ref o7, .ref a5_1, .int v5_2, .int v5_3, .int v5_4, .int v5_5, .int 1, .int v5_7, .int v5_8, .int v5_9])), (a5_1, .inl (cyI, 400, .inl g5_1))] H := hP
        have hD : va_D A [(o5, .inr (5, [.ref o7, .ref a5_1, .int v5_2, .int v5_3, .int v5_4, .int v5_5, .int 1, .int v5_7, .int v5_8, .int v5_9])), (a5_1, .inl (cyI, 400, .inl g5_1))] := hD
        obtain rfl := Option.some.inj hf
        have hP9 := hP.sub (ws' := [(o5, .inr (5, [.ref o7, .ref a5_1, .int v5_2, .int v5_3, .int v5_4, .int v5_5, .int 1, .int v5_7, .int v5_8, .int v5_9])), (a5_1, .inl (cyI, 400, .inl g5_1))]) [0, 1] rfl
        have hD9 := hD.sub (ws' := [(o5, .inr (5, [.ref o7, .ref a5_1, .int v5_2, .int v5_3, .int v5_4, .int v5_5, .int 1, .int v5_7, .int v5_8, .int v5_9])), (a5_1, .inl (cyI, 400, .inl g5_1))]) [0, 1] (by decide) rfl
        exact W.vret hx hb hr (fun t ht hW => ⟨⟨(), rfl, trivial, by rw [ht]; exact hP9, va_K.moved hW.alike hK, hD9⟩, hS.F ht⟩) hS.2.2 dX5_setLocal_32

