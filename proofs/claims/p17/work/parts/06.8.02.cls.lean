def f_X1_makeRoom (v1_5 : Int32) (g1_0 : Nat → Int32) (n1_0 : Nat) (g1_1 : Nat → Int32) (n1_1 : Nat) (g1_2 : Nat → Int32) (n1_2 : Nat) (g1_3 : Nat → Int32) (n1_3 : Nat) (g1_4 : Nat → Int32) (n1_4 : Nat) : Option ((Nat → Int32) × Nat × (Nat → Int32) × Nat × (Nat → Int32) × Nat × (Nat → Int32) × Nat × (Nat → Int32) × Nat × Nat × Nat) := if (Int32.ofNat n1_0) ≤ v1_5 then if x_ng n1_0 ((2 : Int32) * v1_5) = true then (if x_ng n1_1 ((2 : Int32) * v1_5) = true then (if x_ng n1_2 ((2 : Int32) * v1_5) = true then (if x_ng n1_3 ((2 : Int32) * v1_5) = true then (if x_ng n1_4 ((2 : Int32) * v1_5) = true then (some (va_cpy g1_0 x_z0 (Int32.toNatClampNeg 0) (Int32.toNatClampNeg 0) (Int32.toNatClampNeg (Int32.ofNat n1_0)), Int32.toNatClampNeg ((2 : Int32) * v1_5), va_cpy g1_1 x_z0 (Int32.toNatClampNeg 0) (Int32.toNatClampNeg 0) (Int32.toNatClampNeg (Int32.ofNat n1_1)), Int32.toNatClampNeg ((2 : Int32) * v1_5), va_cpy g1_2 x_z0 (Int32.toNatClampNeg 0) (Int32.toNatClampNeg 0) (Int32.toNatClampNeg (Int32.ofNat n1_2)), Int32.toNatClampNeg ((2 : Int32) * v1_5), va_cpy g1_3 x_z0 (Int32.toNatClampNeg 0) (Int32.toNatClampNeg 0) (Int32.toNatClampNeg (Int32.ofNat n1_3)), Int32.toNatClampNeg ((2 : Int32) * v1_5), va_cpy g1_4 x_z0 (Int32.toNatClampNeg 0) (Int32.toNatClampNeg 0) (Int32.toNatClampNeg (Int32.ofNat n1_4)), Int32.toNatClampNeg ((2 : Int32) * v1_5), 0, 0)) >>= (fun Z_15 => some (Z_15.1, Z_15.2.1, Z_15.2.2.1, Z_15.2.2.2.1, Z_15.2.2.2.2.1, Z_15.2.2.2.2.2.1, Z_15.2.2.2.2.2.2.1, Z_15.2.2.2.2.2.2.2.1, Z_15.2.2.2.2.2.2.2.2.1, Z_15.2.2.2.2.2.2.2.2.2.1, Z_15.2.2.2.2.2.2.2.2.2.2.1 + 1, Z_15.2.2.2.2.2.2.2.2.2.2.2 + (Int32.toNatClampNeg ((2 : Int32) * v1_5)))) else none) >>= (fun Z_12 => some (Z_12.1, Z_12.2.1, Z_12.2.2.1, Z_12.2.2.2.1, Z_12.2.2.2.2.1, Z_12.2.2.2.2.2.1, Z_12.2.2.2.2.2.2.1, Z_12.2.2.2.2.2.2.2.1, Z_12.2.2.2.2.2.2.2.2.1, Z_12.2.2.2.2.2.2.2.2.2.1, Z_12.2.2.2.2.2.2.2.2.2.2.1 + 1, Z_12.2.2.2.2.2.2.2.2.2.2.2 + (Int32.toNatClampNeg ((2 : Int32) * v1_5)))) else none) >>= (fun Z_9 => some (Z_9.1, Z_9.2.1, Z_9.2.2.1, Z_9.2.2.2.1, Z_9.2.2.2.2.1, Z_9.2.2.2.2.2.1, Z_9.2.2.2.2.2.2.1, Z_9.2.2.2.2.2.2.2.1, Z_9.2.2.2.2.2.2.2.2.1, Z_9.2.2.2.2.2.2.2.2.2.1, Z_9.2.2.2.2.2.2.2.2.2.2.1 + 1, Z_9.2.2.2.2.2.2.2.2.2.2.2 + (Int32.toNatClampNeg ((2 : Int32) * v1_5)))) else none) >>= (fun Z_6 => some (Z_6.1, Z_6.2.1, Z_6.2.2.1, Z_6.2.2.2.1, Z_6.2.2.2.2.1, Z_6.2.2.2.2.2.1, Z_6.2.2.2.2.2.2.1, Z_6.2.2.2.2.2.2.2.1, Z_6.2.2.2.2.2.2.2.2.1, Z_6.2.2.2.2.2.2.2.2.2.1, Z_6.2.2.2.2.2.2.2.2.2.2.1 + 1, Z_6.2.2.2.2.2.2.2.2.2.2.2 + (Int32.toNatClampNeg ((2 : Int32) * v1_5)))) else none) >>= (fun Z_3 => some (Z_3.1, Z_3.2.1, Z_3.2.2.1, Z_3.2.2.2.1, Z_3.2.2.2.2.1, Z_3.2.2.2.2.2.1, Z_3.2.2.2.2.2.2.1, Z_3.2.2.2.2.2.2.2.1, Z_3.2.2.2.2.2.2.2.2.1, Z_3.2.2.2.2.2.2.2.2.2.1, Z_3.2.2.2.2.2.2.2.2.2.2.1 + 1, Z_3.2.2.2.2.2.2.2.2.2.2.2 + (Int32.toNatClampNeg ((2 : Int32) * v1_5)))) else none else some (g1_0, n1_0, g1_1, n1_1, g1_2, n1_2, g1_3, n1_3, g1_4, n1_4, 0, 0)
theorem i_X1_makeRoom_X1 : ∀ w ∈ wsX10, w ∈ wsX1_makeRoom := fun _ h => List.mem_cons_of_mem _ (List.mem_append_right _ h)
set_option maxHeartbeats 40000000 in
set_option maxRecDepth 100000 in
theorem c_X1_makeRoom (l : Launch) (dC : Nat → ClassId) (dI : Nat → Nat → Nat) (cyI cyZ cyJ : ClassId) (sz : Nat) (o1 : Nat) (a1_0 : Nat) (a1_1 : Nat) (a1_2 : Nat) (a1_3 : Nat) (a1_4 : Nat) (v1_5 : Int32) (g1_0 : Nat → Int32) (n1_0 : Nat) (g1_1 : Nat → Int32) (n1_1 : Nat) (g1_2 : Nat → Int32) (n1_2 : Nat) (g1_3 : Nat → Int32) (n1_3 : Nat) (g1_4 : Nat → Int32) (n1_4 : Nat) (R : (Nat → Int32) × Nat × (Nat → Int32) × Nat × (Nat → Int32) × Nat × (Nat → Int32) × Nat × (Nat → Int32) × Nat × Nat × Nat) (hf : f_X1_makeRoom v1_5 g1_0 n1_0 g1_1 n1_1 g1_2 n1_2 g1_3 n1_3 g1_4 n1_4 = some R) : Met l yX1_makeRoom wsX1_makeRoom ({ frames := 2, cells := R.2.2.2.2.2.2.2.2.2.2.1, slots := R.2.2.2.2.2.2.2.2.2.2.2, locals := 83 }) (va_Pc [.ref o1] (x_PreD (dC, dI) (x_T cyI cyZ cyJ) [(o1, .inr (1, [.ref a1_0, .ref a1_1, .ref a1_2, .ref a1_3, .ref a1_4, .int v1_5])), (a1_0, .inl (cyI, n1_0, .inl g1_0)), (a1_1, .inl (cyI, n1_1, .inl g1_1)), (a1_2, .inl (cyI, n1_2, .inl g1_2)), (a1_3, .inl (cyI, n1_3, .inl g1_3)), (a1_4, .inl (cyI, n1_4, .inl g1_4))] sz)) (va_Qv (fun _ : Unit => True) (fun (_ : Unit) (t : State) => ∃ (a1_0_9 a1_1_9 a1_2_9 a1_3_9 a1_4_9 : Nat), va_P (dC, dI) vwCl [(o1, .inr (1, [.ref a1_0_9, .ref a1_1_9, .ref a1_2_9, .ref a1_3_9, .ref a1_4_9, .int v1_5])), (a1_0_9, .inl (cyI, R.2.1, .inl R.1)), (a1_1_9, .inl (cyI, R.2.2.2.1, .inl R.2.2.1)), (a1_2_9, .inl (cyI, R.2.2.2.2.2.1, .inl R.2.2.2.2.1)), (a1_3_9, .inl (cyI, R.2.2.2.2.2.2.2.1, .inl R.2.2.2.2.2.2.1)), (a1_4_9, .inl (cyI, R.2.2.2.2.2.2.2.2.2.1, .inl R.2.2.2.2.2.2.2.2.1))] t.heap ∧ va_K (dC, dI) vwCl (x_T cyI cyZ cyJ) t ∧ va_D (va_A [(o1, .inr (1, [.ref a1_0, .ref a1_1, .ref a1_2, .ref a1_3, .ref a1_4, .int v1_5])), (a1_0, .inl (cyI, n1_0, .inl g1_0)), (a1_1, .inl (cyI, n1_1, .inl g1_1)), (a1_2, .inl (cyI, n1_2, .inl g1_2)), (a1_3, .inl (cyI, n1_3, .inl g1_3)), (a1_4, .inl (cyI, n1_4, .inl g1_4))] sz) [(o1, .inr (1, [.ref a1_0_9, .ref a1_1_9, .ref a1_2_9, .ref a1_3_9, .ref a1_4_9, .int v1_5])), (a1_0_9, .inl (cyI, R.2.1, .inl R.1)), (a1_1_9, .inl (cyI, R.2.2.2.1, .inl R.2.2.1)), (a1_2_9, .inl (cyI, R.2.2.2.2.2.1, .inl R.2.2.2.2.1)), (a1_3_9, .inl (cyI, R.2.2.2.2.2.2.2.1, .inl R.2.2.2.2.2.2.1)), (a1_4_9, .inl (cyI, R.2.2.2.2.2.2.2.2.2.1, .inl R.2.2.2.2.2.2.2.2.1))]) (va_A [(o1, .inr (1, [.ref a1_0, .ref a1_1, .ref a1_2, .ref a1_3, .ref a1_4, .int v1_5])), (a1_0, .inl (cyI, n1_0, .inl g1_0)), (a1_1, .inl (cyI, n1_1, .inl g1_1)), (a1_2, .inl (cyI, n1_2, .inl g1_2)), (a1_3, .inl (cyI, n1_3, .inl g1_3)), (a1_4, .inl (cyI, n1_4, .inl g1_4))] sz)) (R.2.2.2.2.2.2.2.2.2.2.1) (R.2.2.2.2.2.2.2.2.2.2.2) (va_A [(o1, .inr (1, [.ref a1_0, .ref a1_1, .ref a1_2, .ref a1_3, .ref a1_4, .int v1_5])), (a1_0, .inl (cyI, n1_0, .inl g1_0)), (a1_1, .inl (cyI, n1_1, .inl g1_1)), (a1_2, .inl (cyI, n1_2, .inl g1_2)), (a1_3, .inl (cyI, n1_3, .inl g1_3)), (a1_4, .inl (cyI, n1_4, .inl g1_4))] sz) := by
  refine Met.ofW (cc := cX1_makeRoom) (maxL := 2) (ret := none) (by decide) rfl ?_
  intro p e s m args below meth c s₁ B hml hv
  obtain ⟨rfl, ⟨hsz, hP, hK, hN⟩, hD0⟩ := hv
  have hx := B.exec
  have hb := B.bytes
  have hr := B.returns
  have hts := atoms_spec (ws := wsX1_makeRoom) B.pre
  have hown : s.vm.findClass RX1 = some m.cls := findClass_of_methodNamed B.named
  have k_1 := hts (.fieldLink RX1 27 "FlowJudge$Contexts" "count" "I") (by decide +kernel)
  have k_2 := hts (.fieldLink RX1 9 "FlowJudge$Contexts" "parents" "[I") (by decide +kernel)
  have k_3 := hts (.fieldLink RX1 15 "FlowJudge$Contexts" "addresses" "[I") (by decide +kernel)
  have k_4 := hts (.fieldLink RX1 18 "FlowJudge$Contexts" "lengths" "[I") (by decide +kernel)
  have k_5 := hts (.fieldLink RX1 21 "FlowJudge$Contexts" "firstBelow" "[I") (by decide +kernel)
  have k_6 := hts (.fieldLink RX1 24 "FlowJudge$Contexts" "nextBeside" "[I") (by decide +kernel)
  subst hsz
  have hD := hD0.self (sz := s.heap.size)
  generalize hAe : va_A [(o1, .inr (1, [.ref a1_0, .ref a1_1, .ref a1_2, .ref a1_3, .ref a1_4, .int v1_5])), (a1_0, .inl (cyI, n1_0, .inl g1_0)), (a1_1, .inl (cyI, n1_1, .inl g1_1)), (a1_2, .inl (cyI, n1_2, .inl g1_2)), (a1_3, .inl (cyI, n1_3, .inl g1_3)), (a1_4, .inl (cyI, n1_4, .inl g1_4))] s.heap.size = A at hD ⊢
  have hA : ∀ q : Nat, s.heap.size ≤ q → A q := fun q h => by rw [← hAe]; exact Or.inr h
  have hP : va_P (dC, dI) vwCl [(o1, .inr (1, [.ref a1_0, .ref a1_1, .ref a1_2, .ref a1_3, .ref a1_4, .int v1_5])), (a1_0, .inl (cyI, n1_0, .inl g1_0)), (a1_1, .inl (cyI, n1_1, .inl g1_1)), (a1_2, .inl (cyI, n1_2, .inl g1_2)), (a1_3, .inl (cyI, n1_3, .inl g1_3)), (a1_4, .inl (cyI, n1_4, .inl g1_4))] s.heap := hP
  have hl := lv_entry ([.ref o1]) (n := 2) (Nat.le_of_ble_eq_true rfl)
  rw [lg_entry_eq]
  generalize (lg_sl ([.ref o1]) ++ List.replicate (2 - (lg_sl ([.ref o1])).length) Slot.unset).toArray = ls at hl ⊢
  have hl : lv_has ls 2 [(0, .ref o1)] := hl
  obtain ⟨H, hH⟩ : ∃ z, z = s.heap := ⟨_, rfl⟩
  refine x_here hH ?_
  have hP : va_P (dC, dI) vwCl [(o1, .inr (1, [.ref a1_0, .ref a1_1, .ref a1_2, .ref a1_3, .ref a1_4, .int v1_5])), (a1_0, .inl (cyI, n1_0, .inl g1_0)), (a1_1, .inl (cyI, n1_1, .inl g1_1)), (a1_2, .inl (cyI, n1_2, .inl g1_2)), (a1_3, .inl (cyI, n1_3, .inl g1_3)), (a1_4, .inl (cyI, n1_4, .inl g1_4))] H := by rw [hH]; exact hP
  have hS : va_S A s.heap H [] := by rw [hH]; exact va_S.rf
  clear hH
  obtain ⟨locs, hlo⟩ : ∃ z : List Loc, z = [] := ⟨_, rfl⟩
  refine x_herl hlo ?_
  have hS : va_S A s.heap H locs := by rw [hlo]; exact hS
  clear hlo
  unfold f_X1_makeRoom at hf
  obtain ⟨Z_0, hZ0⟩ : ∃ z, z = R := ⟨_, rfl⟩
  rw [← hZ0] at hf
  have hR : R = (Z_0.1, Z_0.2.1, Z_0.2.2.1, Z_0.2.2.2.1, Z_0.2.2.2.2.1, Z_0.2.2.2.2.2.1, Z_0.2.2.2.2.2.2.1, Z_0.2.2.2.2.2.2.2.1, Z_0.2.2.2.2.2.2.2.2.1, Z_0.2.2.2.2.2.2.2.2.2.1, Z_0.2.2.2.2.2.2.2.2.2.2.1 + 0, Z_0.2.2.2.2.2.2.2.2.2.2.2 + 0) := by subst hZ0; rfl
  clear hZ0
  have hRc := congrArg (fun z => z.2.2.2.2.2.2.2.2.2.2.1) hR
  have hRs := congrArg (fun z => z.2.2.2.2.2.2.2.2.2.2.2) hR
  dsimp only at hRc hRs
  refine lv_aload_n hx hb dX1_makeRoom_0 rfl (lv_at hl 0 rfl) ?_
  refine va_get (D := (dC, dI)) (ci := 1) (v := .int v1_5) (C := RX1) (T := TX1) (N := 6) hx hb hts i_X1_makeRoom_X1 hown hK hP 0 rfl rfl 5 (by decide) k_1 (fun _ h9 => h9) rfl dX1_makeRoom_1 ?_
  refine lv_aload_n hx hb dX1_makeRoom_4 rfl (lv_at hl 0 rfl) ?_
  refine va_get (D := (dC, dI)) (ci := 1) (v := .ref a1_0) (C := RX1) (T := TX1) (N := 6) hx hb hts i_X1_makeRoom_X1 hown hK hP 0 rfl rfl 0 (by decide) k_2 (fun _ h9 => h9) rfl dX1_makeRoom_5 ?_
  refine va_alen (v := (Int32.ofNat n1_0)) hx hb hK hP 1 0 rfl rfl rfl dX1_makeRoom_8 ?_
  refine lv_icmp_ge (tgt := 13) hx hb dX1_makeRoom_9 (by decide) (fun c_1 => ?_) (fun c_1 => ?_)
  · replace hf := x_ip c_1 hf
    refine lv_iconst (v := 2) hx hb dX1_makeRoom_13 (by decide) ?_
    refine lv_aload_n hx hb dX1_makeRoom_14 rfl (lv_at hl 0 rfl) ?_
    refine va_get (D := (dC, dI)) (ci := 1) (v := .int v1_5) (C := RX1) (T := TX1) (N := 6) hx hb hts i_X1_makeRoom_X1 hown hK hP 0 rfl rfl 5 (by decide) k_1 (fun _ h9 => h9) rfl dX1_makeRoom_15 ?_
    refine lv_imul hx hb dX1_makeRoom_18 ?_
    refine lv_istore_n (lv' := [(1, .int ((2 : Int32) * v1_5)), (0, .ref o1)]) hx hb dX1_makeRoom_19 rfl hl (by decide) rfl (fun ls hl => ?_)
    refine lv_aload_n hx hb dX1_makeRoom_20 rfl (lv_at hl 1 rfl) ?_
    refine lv_aload_n hx hb dX1_makeRoom_21 rfl (lv_at hl 1 rfl) ?_
    refine va_get (D := (dC, dI)) (ci := 1) (v := .ref a1_0) (C := RX1) (T := TX1) (N := 6) hx hb hts i_X1_makeRoom_X1 hown hK hP 0 rfl rfl 0 (by decide) k_2 (fun _ h9 => h9) rfl dX1_makeRoom_22 ?_
    refine lv_iload_n hx hb dX1_makeRoom_25 rfl (lv_at hl 0 rfl) ?_
    replace hf := x_gu hf
    obtain ⟨g_2, hf⟩ := hf
    replace hf := x_bi hf
    obtain ⟨Z_3, hf, he⟩ := hf
    obtain rfl := Option.some.inj he
    dsimp only at hR
    clear hRc hRs
    have hRc := congrArg (fun z => z.2.2.2.2.2.2.2.2.2.2.1) hR
    have hRs := congrArg (fun z => z.2.2.2.2.2.2.2.2.2.2.2) hR
    dsimp only at hRc hRs
    have hPc := hP.sub (ws' := [(a1_0, .inl (cyI, n1_0, .inl g1_0))]) [1] rfl
    have hDc := hD.sub (ws' := [(a1_0, .inl (cyI, n1_0, .inl g1_0))]) [1] (by decide) rfl
    have hFc := va_free (wc := [(a1_0, .inl (cyI, n1_0, .inl g1_0))]) hD hS hA [1] rfl
    refine va_callr (va_runS (As := [.ref a1_0, .int ((2 : Int32) * v1_5)]) (rest := [.ref o1]) ⟨hx, hb, hml, hown, hts⟩ (c_J7_copyOf l dC dI cyI cyZ cyJ H.size a1_0 n1_0 g1_0 ((2 : Int32) * v1_5) g_2) (va_cwS 2 hts gX1_makeRoom_J7_copyOf_59c91 rfl rfl rfl (by decide +kernel) ⟨Nat.le_of_ble_eq_true rfl, Nat.le_of_ble_eq_true rfl⟩) (x_pSD hN hK hPc hDc) rfl rfl hl.1 rfl (lv_room (Nat.le_of_ble_eq_true rfl)) dX1_makeRoom_26 ⟨by dsimp only [headSpec]; omega, by dsimp only [headSpec]; omega⟩) hS (fun q _ h => hFc q h) hFc (fun u q26_4 t H1 locs ht hvm hw hB hz1 hk1 hS => ?_)
    obtain ⟨hP1, hK1, hD1⟩ := hB
    rw [ht] at hP1
    obtain ⟨hP, hD⟩ := va_join (wr := [(o1, .inr (1, [.ref a1_0, .ref a1_1, .ref a1_2, .ref a1_3, .ref a1_4, .int v1_5])), (a1_1, .inl (cyI, n1_1, .inl g1_1)), (a1_2, .inl (cyI, n1_2, .inl g1_2)), (a1_3, .inl (cyI, n1_3, .inl g1_3)), (a1_4, .inl (cyI, n1_4, .inl g1_4))]) (w1 := [(a1_0, .inl (cyI, n1_0, .inl g1_0)), (q26_4, .inl (cyI, (Int32.toNatClampNeg ((2 : Int32) * v1_5)), .inl (va_cpy g1_0 x_z0 (Int32.toNatClampNeg 0) (Int32.toNatClampNeg 0) (Int32.toNatClampNeg (Int32.ofNat n1_0)))))]) hP hD [1] [0, 2, 3, 4, 5] rfl rfl (by decide) (by decide) hk1 hFc hP1 hD1
    clear hz1 hk1 hPc hDc hFc hP1 hK1 hD1 ht hvm t u
    generalize H1 = H at hP hS ⊢
    have hP : va_P (dC, dI) vwCl [(o1, .inr (1, [.ref a1_0, .ref a1_1, .ref a1_2, .ref a1_3, .ref a1_4, .int v1_5])), (a1_1, .inl (cyI, n1_1, .inl g1_1)), (a1_2, .inl (cyI, n1_2, .inl g1_2)), (a1_3, .inl (cyI, n1_3, .inl g1_3)), (a1_4, .inl (cyI, n1_4, .inl g1_4)), (a1_0, .inl (cyI, n1_0, .inl g1_0)), (q26_4, .inl (cyI, (Int32.toNatClampNeg ((2 : Int32) * v1_5)), .inl (va_cpy g1_0 x_z0 (Int32.toNatClampNeg 0) (Int32.toNatClampNeg 0) (Int32.toNatClampNeg (Int32.ofNat n1_0)))))] H := hP
    have hD : va_D A [(o1, .inr (1, [.ref a1_0, .ref a1_1, .ref a1_2, .ref a1_3, .ref a1_4, .int v1_5])), (a1_1, .inl (cyI, n1_1, .inl g1_1)), (a1_2, .inl (cyI, n1_2, .inl g1_2)), (a1_3, .inl (cyI, n1_3, .inl g1_3)), (a1_4, .inl (cyI, n1_4, .inl g1_4)), (a1_0, .inl (cyI, n1_0, .inl g1_0)), (q26_4, .inl (cyI, (Int32.toNatClampNeg ((2 : Int32) * v1_5)), .inl (va_cpy g1_0 x_z0 (Int32.toNatClampNeg 0) (Int32.toNatClampNeg 0) (Int32.toNatClampNeg (Int32.ofNat n1_0)))))] := hD
    refine va_put (D := (dC, dI)) (ci := 1) (v := .ref q26_4) (ty := .array .int) (C := RX1) (T := TX1) (N := 6) hx hb hts i_X1_makeRoom_X1 tyX1 tyX1_ok nmX1 hown hK hP hD hS 0 rfl rfl 0 (by decide) k_2 (fun _ h9 => h9) rfl (by decide +kernel) rfl rfl (Nat.le_of_ble_eq_true rfl) dX1_makeRoom_29 (fun H locs hP hD hS => ?_)
    have hP : va_P (dC, dI) vwCl [(o1, .inr (1, [.ref q26_4, .ref a1_1, .ref a1_2, .ref a1_3, .ref a1_4, .int v1_5])), (a1_1, .inl (cyI, n1_1, .inl g1_1)), (a1_2, .inl (cyI, n1_2, .inl g1_2)), (a1_3, .inl (cyI, n1_3, .inl g1_3)), (a1_4, .inl (cyI, n1_4, .inl g1_4)), (a1_0, .inl (cyI, n1_0, .inl g1_0)), (q26_4, .inl (cyI, (Int32.toNatClampNeg ((2 : Int32) * v1_5)), .inl (va_cpy g1_0 x_z0 (Int32.toNatClampNeg 0) (Int32.toNatClampNeg 0) (Int32.toNatClampNeg (Int32.ofNat n1_0)))))] H := hP
    have hD : va_D A [(o1, .inr (1, [.ref q26_4, .ref a1_1, .ref a1_2, .ref a1_3, .ref a1_4, .int v1_5])), (a1_1, .inl (cyI, n1_1, .inl g1_1)), (a1_2, .inl (cyI, n1_2, .inl g1_2)), (a1_3, .inl (cyI, n1_3, .inl g1_3)), (a1_4, .inl (cyI, n1_4, .inl g1_4)), (a1_0, .inl (cyI, n1_0, .inl g1_0)), (q26_4, .inl (cyI, (Int32.toNatClampNeg ((2 : Int32) * v1_5)), .inl (va_cpy g1_0 x_z0 (Int32.toNatClampNeg 0) (Int32.toNatClampNeg 0) (Int32.toNatClampNeg (Int32.ofNat n1_0)))))] := hD
    refine lv_aload_n hx hb dX1_makeRoom_32 rfl (lv_at hl 1 rfl) ?_
    refine lv_aload_n hx hb dX1_makeRoom_33 rfl (lv_at hl 1 rfl) ?_
    refine va_get (D := (dC, dI)) (ci := 1) (v := .ref a1_1) (C := RX1) (T := TX1) (N := 6) hx hb hts i_X1_makeRoom_X1 hown hK hP 0 rfl rfl 1 (by decide) k_3 (fun _ h9 => h9) rfl dX1_makeRoom_34 ?_
    refine lv_iload_n hx hb dX1_makeRoom_37 rfl (lv_at hl 0 rfl) ?_
    replace hf := x_gu hf
    obtain ⟨g_5, hf⟩ := hf
    replace hf := x_bi hf
    obtain ⟨Z_6, hf, he⟩ := hf
    obtain rfl := Option.some.inj he
    dsimp only at hR
    clear hRc hRs
    have hRc := congrArg (fun z => z.2.2.2.2.2.2.2.2.2.2.1) hR
    have hRs := congrArg (fun z => z.2.2.2.2.2.2.2.2.2.2.2) hR
    dsimp only at hRc hRs
    have hPc := hP.sub (ws' := [(a1_1, .inl (cyI, n1_1, .inl g1_1))]) [1] rfl
    have hDc := hD.sub (ws' := [(a1_1, .inl (cyI, n1_1, .inl g1_1))]) [1] (by decide) rfl
    have hFc := va_free (wc := [(a1_1, .inl (cyI, n1_1, .inl g1_1))]) hD hS hA [1] rfl
    refine va_callr (va_runS (As := [.ref a1_1, .int ((2 : Int32) * v1_5)]) (rest := [.ref o1]) ⟨hx, hb, hml, hown, hts⟩ (c_J7_copyOf l dC dI cyI cyZ cyJ H.size a1_1 n1_1 g1_1 ((2 : Int32) * v1_5) g_5) (va_cwS 2 hts gX1_makeRoom_J7_copyOf_59c91 rfl rfl rfl (by decide +kernel) ⟨Nat.le_of_ble_eq_true rfl, Nat.le_of_ble_eq_true rfl⟩) (x_pSD hN hK hPc hDc) rfl rfl hl.1 rfl (lv_room (Nat.le_of_ble_eq_true rfl)) dX1_makeRoom_38 ⟨by dsimp only [headSpec]; omega, by dsimp only [headSpec]; omega⟩) hS (fun q _ h => hFc q h) hFc (fun u q38_7 t H1 locs ht hvm hw hB hz1 hk1 hS => ?_)
    obtain ⟨hP1, hK1, hD1⟩ := hB
    rw [ht] at hP1
    obtain ⟨hP, hD⟩ := va_join (wr := [(o1, .inr (1, [.ref q26_4, .ref a1_1, .ref a1_2, .ref a1_3, .ref a1_4, .int v1_5])), (a1_2, .inl (cyI, n1_2, .inl g1_2)), (a1_3, .inl (cyI, n1_3, .inl g1_3)), (a1_4, .inl (cyI, n1_4, .inl g1_4)), (a1_0, .inl (cyI, n1_0, .inl g1_0)), (q26_4, .inl (cyI, (Int32.toNatClampNeg ((2 : Int32) * v1_5)), .inl (va_cpy g1_0 x_z0 (Int32.toNatClampNeg 0) (Int32.toNatClampNeg 0) (Int32.toNatClampNeg (Int32.ofNat n1_0)))))]) (w1 := [(a1_1, .inl (cyI, n1_1, .inl g1_1)), (q38_7, .inl (cyI, (Int32.toNatClampNeg ((2 : Int32) * v1_5)), .inl (va_cpy g1_1 x_z0 (Int32.toNatClampNeg 0) (Int32.toNatClampNeg 0) (Int32.toNatClampNeg (Int32.ofNat n1_1)))))]) hP hD [1] [0, 2, 3, 4, 5, 6] rfl rfl (by decide) (by decide) hk1 hFc hP1 hD1
    clear hz1 hk1 hPc hDc hFc hP1 hK1 hD1 ht hvm t u
    generalize H1 = H at hP hS ⊢
    have hP : va_P (dC, dI) vwCl [(o1, .inr (1, [.ref q26_4, .ref a1_1, .ref a1_2, .ref a1_3, .ref a1_4, .int v1_5])), (a1_2, .inl (cyI, n1_2, .inl g1_2)), (a1_3, .inl (cyI, n1_3, .inl g1_3)), (a1_4, .inl (cyI, n1_4, .inl g1_4)), (a1_0, .inl (cyI, n1_0, .inl g1_0)), (q26_4, .inl (cyI, (Int32.toNatClampNeg ((2 : Int32) * v1_5)), .inl (va_cpy g1_0 x_z0 (Int32.toNatClampNeg 0) (Int32.toNatClampNeg 0) (Int32.toNatClampNeg (Int32.ofNat n1_0))))), (a1_1, .inl (cyI, n1_1, .inl g1_1)), (q38_7, .inl (cyI, (Int32.toNatClampNeg ((2 : Int32) * v1_5)), .inl (va_cpy g1_1 x_z0 (Int32.toNatClampNeg 0) (Int32.toNatClampNeg 0) (Int32.toNatClampNeg (Int32.ofNat n1_1)))))] H := hP
    have hD : va_D A [(o1, .inr (1, [.ref q26_4, .ref a1_1, .ref a1_2, .ref a1_3, .ref a1_4, .int v1_5])), (a1_2, .inl (cyI, n1_2, .inl g1_2)), (a1_3, .inl (cyI, n1_3, .inl g1_3)), (a1_4, .inl (cyI, n1_4, .inl g1_4)), (a1_0, .inl (cyI, n1_0, .inl g1_0)), (q26_4, .inl (cyI, (Int32.toNatClampNeg ((2 : Int32) * v1_5)), .inl (va_cpy g1_0 x_z0 (Int32.toNatClampNeg 0) (Int32.toNatClampNeg 0) (Int32.toNatClampNeg (Int32.ofNat n1_0))))), (a1_1, .inl (cyI, n1_1, .inl g1_1)), (q38_7, .inl (cyI, (Int32.toNatClampNeg ((2 : Int32) * v1_5)), .inl (va_cpy g1_1 x_z0 (Int32.toNatClampNeg 0) (Int32.toNatClampNeg 0) (Int32.toNatClampNeg (Int32.ofNat n1_1)))))] := hD
    refine va_put (D := (dC, dI)) (ci := 1) (v := .ref q38_7) (ty := .array .int) (C := RX1) (T := TX1) (N := 6) hx hb hts i_X1_makeRoom_X1 tyX1 tyX1_ok nmX1 hown hK hP hD hS 0 rfl rfl 1 (by decide) k_3 (fun _ h9 => h9) rfl (by decide +kernel) rfl rfl (Nat.le_of_ble_eq_true rfl) dX1_makeRoom_41 (fun H locs hP hD hS => ?_)
    have hP : va_P (dC, dI) vwCl [(o1, .inr (1, [.ref q26_4, .ref q38_7, .ref a1_2, .ref a1_3, .ref a1_4, .int v1_5])), (a1_2, .inl (cyI, n1_2, .inl g1_2)), (a1_3, .inl (cyI, n1_3, .inl g1_3)), (a1_4, .inl (cyI, n1_4, .inl g1_4)), (a1_0, .inl (cyI, n1_0, .inl g1_0)), (q26_4, .inl (cyI, (Int32.toNatClampNeg ((2 : Int32) * v1_5)), .inl (va_cpy g1_0 x_z0 (Int32.toNatClampNeg 0) (Int32.toNatClampNeg 0) (Int32.toNatClampNeg (Int32.ofNat n1_0))))), (a1_1, .inl (cyI, n1_1, .inl g1_1)), (q38_7, .inl (cyI, (Int32.toNatClampNeg ((2 : Int32) * v1_5)), .inl (va_cpy g1_1 x_z0 (Int32.toNatClampNeg 0) (Int32.toNatClampNeg 0) (Int32.toNatClampNeg (Int32.ofNat n1_1)))))] H := hP
    have hD : va_D A [(o1, .inr (1, [.ref q26_4, .ref q38_7, .ref a1_2, .ref a1_3, .ref a1_4, .int v1_5])), (a1_2, .inl (cyI, n1_2, .inl g1_2)), (a1_3, .inl (cyI, n1_3, .inl g1_3)), (a1_4, .inl (cyI, n1_4, .inl g1_4)), (a1_0, .inl (cyI, n1_0, .inl g1_0)), (q26_4, .inl (cyI, (Int32.toNatClampNeg ((2 : Int32) * v1_5)), .inl (va_cpy g1_0 x_z0 (Int32.toNatClampNeg 0) (Int32.toNatClampNeg 0) (Int32.toNatClampNeg (Int32.ofNat n1_0))))), (a1_1, .inl (cyI, n1_1, .inl g1_1)), (q38_7, .inl (cyI, (Int32.toNatClampNeg ((2 : Int32) * v1_5)), .inl (va_cpy g1_1 x_z0 (Int32.toNatClampNeg 0) (Int32.toNatClampNeg 0) (Int32.toNatClampNeg (Int32.ofNat n1_1)))))] := hD
    refine lv_aload_n hx hb dX1_makeRoom_44 rfl (lv_at hl 1 rfl) ?_
    refine lv_aload_n hx hb dX1_makeRoom_45 rfl (lv_at hl 1 rfl) ?_
    refine va_get (D := (dC, dI)) (ci := 1) (v := .ref a1_2) (C := RX1) (T := TX1) (N := 6) hx hb hts i_X1_makeRoom_X1 hown hK hP 0 rfl rfl 2 (by decide) k_4 (fun _ h9 => h9) rfl dX1_makeRoom_46 ?_
    refine lv_iload_n hx hb dX1_makeRoom_49 rfl (lv_at hl 0 rfl) ?_
    replace hf := x_gu hf
    obtain ⟨g_8, hf⟩ := hf
    replace hf := x_bi hf
    obtain ⟨Z_9, hf, he⟩ := hf
    obtain rfl := Option.some.inj he
    dsimp only at hR
    clear hRc hRs
    have hRc := congrArg (fun z => z.2.2.2.2.2.2.2.2.2.2.1) hR
    have hRs := congrArg (fun z => z.2.2.2.2.2.2.2.2.2.2.2) hR
    dsimp only at hRc hRs
    have hPc := hP.sub (ws' := [(a1_2, .inl (cyI, n1_2, .inl g1_2))]) [1] rfl
    have hDc := hD.sub (ws' := [(a1_2, .inl (cyI, n1_2, .inl g1_2))]) [1] (by decide) rfl
    have hFc := va_free (wc := [(a1_2, .inl (cyI, n1_2, .inl g1_2))]) hD hS hA [1] rfl
    refine va_callr (va_runS (As := [.ref a1_2, .int ((2 : Int32) * v1_5)]) (rest := [.ref o1]) ⟨hx, hb, hml, hown, hts⟩ (c_J7_copyOf l dC dI cyI cyZ cyJ H.size a1_2 n1_2 g1_2 ((2 : Int32) * v1_5) g_8) (va_cwS 2 hts gX1_makeRoom_J7_copyOf_59c91 rfl rfl rfl (by decide +kernel) ⟨Nat.le_of_ble_eq_true rfl, Nat.le_of_ble_eq_true rfl⟩) (x_pSD hN hK hPc hDc) rfl rfl hl.1 rfl (lv_room (Nat.le_of_ble_eq_true rfl)) dX1_makeRoom_50 ⟨by dsimp only [headSpec]; omega, by dsimp only [headSpec]; omega⟩) hS (fun q _ h => hFc q h) hFc (fun u q50_10 t H1 locs ht hvm hw hB hz1 hk1 hS => ?_)
    obtain ⟨hP1, hK1, hD1⟩ := hB
    rw [ht] at hP1
    obtain ⟨hP, hD⟩ := va_join (wr := [(o1, .inr (1, [.ref q26_4, .ref q38_7, .ref a1_2, .ref a1_3, .ref a1_4, .int v1_5])), (a1_3, .inl (cyI, n1_3, .inl g1_3)), (a1_4, .inl (cyI, n1_4, .inl g1_4)), (a1_0, .inl (cyI, n1_0, .inl g1_0)), (q26_4, .inl (cyI, (Int32.toNatClampNeg ((2 : Int32) * v1_5)), .inl (va_cpy g1_0 x_z0 (Int32.toNatClampNeg 0) (Int32.toNatClampNeg 0) (Int32.toNatClampNeg (Int32.ofNat n1_0))))), (a1_1, .inl (cyI, n1_1, .inl g1_1)), (q38_7, .inl (cyI, (Int32.toNatClampNeg ((2 : Int32) * v1_5)), .inl (va_cpy g1_1 x_z0 (Int32.toNatClampNeg 0) (Int32.toNatClampNeg 0) (Int32.toNatClampNeg (Int32.ofNat n1_1)))))]) (w1 := [(a1_2, .inl (cyI, n1_2, .inl g1_2)), (q50_10, .inl (cyI, (Int32.toNatClampNeg ((2 : Int32) * v1_5)), .inl (va_cpy g1_2 x_z0 (Int32.toNatClampNeg 0) (Int32.toNatClampNeg 0) (Int32.toNatClampNeg (Int32.ofNat n1_2)))))]) hP hD [1] [0, 2, 3, 4, 5, 6, 7] rfl rfl (by decide) (by decide) hk1 hFc hP1 hD1
    clear hz1 hk1 hPc hDc hFc hP1 hK1 hD1 ht hvm t u
    generalize H1 = H at hP hS ⊢
    have hP : va_P (dC, dI) vwCl [(o1, .inr (1, [.ref q26_4, .ref q38_7, .ref a1_2, .ref a1_3, .ref a1_4, .int v1_5])), (a1_3, .inl (cyI, n1_3, .inl g1_3)), (a1_4, .inl (cyI, n1_4, .inl g1_4)), (a1_0, .inl (cyI, n1_0, .inl g1_0)), (q26_4, .inl (cyI, (Int32.toNatClampNeg ((2 : Int32) * v1_5)), .inl (va_cpy g1_0 x_z0 (Int32.toNatClampNeg 0) (Int32.toNatClampNeg 0) (Int32.toNatClampNeg (Int32.ofNat n1_0))))), (a1_1, .inl (cyI, n1_1, .inl g1_1)), (q38_7, .inl (cyI, (Int32.toNatClampNeg ((2 : Int32) * v1_5)), .inl (va_cpy g1_1 x_z0 (Int32.toNatClampNeg 0) (Int32.toNatClampNeg 0) (Int32.toNatClampNeg (Int32.ofNat n1_1))))), (a1_2, .inl (cyI, n1_2, .inl g1_2)), (q50_10, .inl (cyI, (Int32.toNatClampNeg ((2 : Int32) * v1_5)), .inl (va_cpy g1_2 x_z0 (Int32.toNatClampNeg 0) (Int32.toNatClampNeg 0) (Int32.toNatClampNeg (Int32.ofNat n1_2)))))] H := hP
    have hD : va_D A [(o1, .inr (1, [.ref q26_4, .ref q38_7, .ref a1_2, .ref a1_3, .ref a1_4, .int v1_5])), (a1_3, .inl (cyI, n1_3, .inl g1_3)), (a1_4, .inl (cyI, n1_4, .inl g1_4)), (a1_0, .inl (cyI, n1_0, .inl g1_0)), (q26_4, .inl (cyI, (Int32.toNatClampNeg ((2 : Int32) * v1_5)), .inl (va_cpy g1_0 x_z0 (Int32.toNatClampNeg 0) (Int32.toNatClampNeg 0) (Int32.toNatClampNeg (Int32.ofNat n1_0))))), (a1_1, .inl (cyI, n1_1, .inl g1_1)), (q38_7, .inl (cyI, (Int32.toNatClampNeg ((2 : Int32) * v1_5)), .inl (va_cpy g1_1 x_z0 (Int32.toNatClampNeg 0) (Int32.toNatClampNeg 0) (Int32.toNatClampNeg (Int32.ofNat n1_1))))), (a1_2, .inl (cyI, n1_2, .inl g1_2)), (q50_10, .inl (cyI, (Int32.toNatClampNeg ((2 : Int32) * v1_5)), .inl (va_cpy g1_2 x_z0 (Int32.toNatClampNeg 0) (Int32.toNatClampNeg 0) (Int32.toNatClampNeg (Int32.ofNat n1_2)))))] := hD
    refine va_put (D := (dC, dI)) (ci := 1) (v := .ref q50_10) (ty := .array .int) (C := RX1) (T := TX1) (N := 6) hx hb hts i_X1_makeRoom_X1 tyX1 tyX1_ok nmX1 hown hK hP hD hS 0 rfl rfl 2 (by decide) k_4 (fun _ h9 => h9) rfl (by decide +kernel) rfl rfl (Nat.le_of_ble_eq_true rfl) dX1_makeRoom_53 (fun H locs hP hD hS => ?_)
    have hP : va_P (dC, dI) vwCl [(o1, .inr (1, [.ref q26_4, .ref q38_7, .ref q50_10, .ref a1_3, .ref a1_4, .int v1_5])), (a1_3, .inl (cyI, n1_3, .inl g1_3)), (a1_4, .inl (cyI, n1_4, .inl g1_4)), (a1_0, .inl (cyI, n1_0, .inl g1_0)), (q26_4, .inl (cyI, (Int32.toNatClampNeg ((2 : Int32) * v1_5)), .inl (va_cpy g1_0 x_z0 (Int32.toNatClampNeg 0) (Int32.toNatClampNeg 0) (Int32.toNatClampNeg (Int32.ofNat n1_0))))), (a1_1, .inl (cyI, n1_1, .inl g1_1)), (q38_7, .inl (cyI, (Int32.toNatClampNeg ((2 : Int32) * v1_5)), .inl (va_cpy g1_1 x_z0 (Int32.toNatClampNeg 0) (Int32.toNatClampNeg 0) (Int32.toNatClampNeg (Int32.ofNat n1_1))))), (a1_2, .inl (cyI, n1_2, .inl g1_2)), (q50_10, .inl (cyI, (Int32.toNatClampNeg ((2 : Int32) * v1_5)), .inl (va_cpy g1_2 x_z0 (Int32.toNatClampNeg 0) (Int32.toNatClampNeg 0) (Int32.toNatClampNeg (Int32.ofNat n1_2)))))] H := hP
    have hD : va_D A [(o1, .inr (1, [.ref q26_4, .ref q38_7, .ref q50_10, .ref a1_3, .ref a1_4, .int v1_5])), (a1_3, .inl (cyI, n1_3, .inl g1_3)), (a1_4, .inl (cyI, n1_4, .inl g1_4)), (a1_0, .inl (cyI, n1_0, .inl g1_0)), (q26_4, .inl (cyI, (Int32.toNatClampNeg ((2 : Int32) * v1_5)), .inl (va_cpy g1_0 x_z0 (Int32.toNatClampNeg 0) (Int32.toNatClampNeg 0) (Int32.toNatClampNeg (Int32.ofNat n1_0))))), (a1_1, .inl (cyI, n1_1, .inl g1_1)), (q38_7, .inl (cyI, (Int32.toNatClampNeg ((2 : Int32) * v1_5)), .inl (va_cpy g1_1 x_z0 (Int32.toNatClampNeg 0) (Int32.toNatClampNeg 0) (Int32.toNatClampNeg (Int32.ofNat n1_1))))), (a1_2, .inl (cyI, n1_2, .inl g1_2)), (q50_10, .inl (cyI, (Int32.toNatClampNeg ((2 : Int32) * v1_5)), .inl (va_cpy g1_2 x_z0 (Int32.toNatClampNeg 0) (Int32.toNatClampNeg 0) (Int32.toNatClampNeg (Int32.ofNat n1_2)))))] := hD
    refine lv_aload_n hx hb dX1_makeRoom_56 rfl (lv_at hl 1 rfl) ?_
    refine lv_aload_n hx hb dX1_makeRoom_57 rfl (lv_at hl 1 rfl) ?_
    refine va_get (D := (dC, dI)) (ci := 1) (v := .ref a1_3) (C := RX1) (T := TX1) (N := 6) hx hb hts i_X1_makeRoom_X1 hown hK hP 0 rfl rfl 3 (by decide) k_5 (fun _ h9 => h9) rfl dX1_makeRoom_58 ?_
    refine lv_iload_n hx hb dX1_makeRoom_61 rfl (lv_at hl 0 rfl) ?_
    replace hf := x_gu hf
    obtain ⟨g_11, hf⟩ := hf
    replace hf := x_bi hf
    obtain ⟨Z_12, hf, he⟩ := hf
    obtain rfl := Option.some.inj he
    dsimp only at hR
    clear hRc hRs
    have hRc := congrArg (fun z => z.2.2.2.2.2.2.2.2.2.2.1) hR
    have hRs := congrArg (fun z => z.2.2.2.2.2.2.2.2.2.2.2) hR
    dsimp only at hRc hRs
    have hPc := hP.sub (ws' := [(a1_3, .inl (cyI, n1_3, .inl g1_3))]) [1] rfl
    have hDc := hD.sub (ws' := [(a1_3, .inl (cyI, n1_3, .inl g1_3))]) [1] (by decide) rfl
    have hFc := va_free (wc := [(a1_3, .inl (cyI, n1_3, .inl g1_3))]) hD hS hA [1] rfl
    refine va_callr (va_runS (As := [.ref a1_3, .int ((2 : Int32) * v1_5)]) (rest := [.ref o1]) ⟨hx, hb, hml, hown, hts⟩ (c_J7_copyOf l dC dI cyI cyZ cyJ H.size a1_3 n1_3 g1_3 ((2 : Int32) * v1_5) g_11) (va_cwS 2 hts gX1_makeRoom_J7_copyOf_59c91 rfl rfl rfl (by decide +kernel) ⟨Nat.le_of_ble_eq_true rfl, Nat.le_of_ble_eq_true rfl⟩) (x_pSD hN hK hPc hDc) rfl rfl hl.1 rfl (lv_room (Nat.le_of_ble_eq_true rfl)) dX1_makeRoom_62 ⟨by dsimp only [headSpec]; omega, by dsimp only [headSpec]; omega⟩) hS (fun q _ h => hFc q h) hFc (fun u q62_13 t H1 locs ht hvm hw hB hz1 hk1 hS => ?_)
    obtain ⟨hP1, hK1, hD1⟩ := hB
    rw [ht] at hP1
    obtain ⟨hP, hD⟩ := va_join (wr := [(o1, .inr (1, [.ref q26_4, .ref q38_7, .ref q50_10, .ref a1_3, .ref a1_4, .int v1_5])), (a1_4, .inl (cyI, n1_4, .inl g1_4)), (a1_0, .inl (cyI, n1_0, .inl g1_0)), (q26_4, .inl (cyI, (Int32.toNatClampNeg ((2 : Int32) * v1_5)), .inl (va_cpy g1_0 x_z0 (Int32.toNatClampNeg 0) (Int32.toNatClampNeg 0) (Int32.toNatClampNeg (Int32.ofNat n1_0))))), (a1_1, .inl (cyI, n1_1, .inl g1_1)), (q38_7, .inl (cyI, (Int32.toNatClampNeg ((2 : Int32) * v1_5)), .inl (va_cpy g1_1 x_z0 (Int32.toNatClampNeg 0) (Int32.toNatClampNeg 0) (Int32.toNatClampNeg (Int32.ofNat n1_1))))), (a1_2, .inl (cyI, n1_2, .inl g1_2)), (q50_10, .inl (cyI, (Int32.toNatClampNeg ((2 : Int32) * v1_5)), .inl (va_cpy g1_2 x_z0 (Int32.toNatClampNeg 0) (Int32.toNatClampNeg 0) (Int32.toNatClampNeg (Int32.ofNat n1_2)))))]) (w1 := [(a1_3, .inl (cyI, n1_3, .inl g1_3)), (q62_13, .inl (cyI, (Int32.toNatClampNeg ((2 : Int32) * v1_5)), .inl (va_cpy g1_3 x_z0 (Int32.toNatClampNeg 0) (Int32.toNatClampNeg 0) (Int32.toNatClampNeg (Int32.ofNat n1_3)))))]) hP hD [1] [0, 2, 3, 4, 5, 6, 7, 8] rfl rfl (by decide) (by decide) hk1 hFc hP1 hD1
    clear hz1 hk1 hPc hDc hFc hP1 hK1 hD1 ht hvm t u
    generalize H1 = H at hP hS ⊢
    have hP : va_P (dC, dI) vwCl [(o1, .inr (1, [.ref q26_4, .ref q38_7, .ref q50_10, .ref a1_3, .ref a1_4, .int v1_5])), (a1_4, .inl (cyI, n1_4, .inl g1_4)), (a1_0, .inl (cyI, n1_0, .inl g1_0)), (q26_4, .inl (cyI, (Int32.toNatClampNeg ((2 : Int32) * v1_5)), .inl (va_cpy g1_0 x_z0 (Int32.toNatClampNeg 0) (Int32.toNatClampNeg 0) (Int32.toNatClampNeg (Int32.ofNat n1_0))))), (a1_1, .inl (cyI, n1_1, .inl g1_1)), (q38_7, .inl (cyI, (Int32.toNatClampNeg ((2 : Int32) * v1_5)), .inl (va_cpy g1_1 x_z0 (Int32.toNatClampNeg 0) (Int32.toNatClampNeg 0) (Int32.toNatClampNeg (Int32.ofNat n1_1))))), (a1_2, .inl (cyI, n1_2, .inl g1_2)), (q50_10, .inl (cyI, (Int32.toNatClampNeg ((2 : Int32) * v1_5)), .inl (va_cpy g1_2 x_z0 (Int32.toNatClampNeg 0) (Int32.toNatClampNeg 0) (Int32.toNatClampNeg (Int32.ofNat n1_2))))), (a1_3, .inl (cyI, n1_3, .inl g1_3)), (q62_13, .inl (cyI, (Int32.toNatClampNeg ((2 : Int32) * v1_5)), .inl (va_cpy g1_3 x_z0 (Int32.toNatClampNeg 0) (Int32.toNatClampNeg 0) (Int32.toNatClampNeg (Int32.ofNat n1_3)))))] H := hP
    have hD : va_D A [(o1, .inr (1, [.ref q26_4, .ref q38_7, .ref q50_10, .ref a1_3, .ref a1_4, .int v1_5])), (a1_4, .inl (cyI, n1_4, .inl g1_4)), (a1_0, .inl (cyI, n1_0, .inl g1_0)), (q26_4, .inl (cyI, (Int32.toNatClampNeg ((2 : Int32) * v1_5)), .inl (va_cpy g1_0 x_z0 (Int32.toNatClampNeg 0) (Int32.toNatClampNeg 0) (Int32.toNatClampNeg (Int32.ofNat n1_0))))), (a1_1, .inl (cyI, n1_1, .inl g1_1)), (q38_7, .inl (cyI, (Int32.toNatClampNeg ((2 : Int32) * v1_5)), .inl (va_cpy g1_1 x_z0 (Int32.toNatClampNeg 0) (Int32.toNatClampNeg 0) (Int32.toNatClampNeg (Int32.ofNat n1_1))))), (a1_2, .inl (cyI, n1_2, .inl g1_2)), (q50_10, .inl (cyI, (Int32.toNatClampNeg ((2 : Int32) * v1_5)), .inl (va_cpy g1_2 x_z0 (Int32.toNatClampNeg 0) (Int32.toNatClampNeg 0) (Int32.toNatClampNeg (Int32.ofNat n1_2))))), (a1_3, .inl (cyI, n1_3, .inl g1_3)), (q62_13, .inl (cyI, (Int32.toNatClampNeg ((2 : Int32) * v1_5)), .inl (va_cpy g1_3 x_z0 (Int32.toNatClampNeg 0) (Int32.toNatClampNeg 0) (Int32.toNatClampNeg (Int32.ofNat n1_3)))))] := hD
    refine va_put (D := (dC, dI)) (ci := 1) (v := .ref q62_13) (ty := .array .int) (C := RX1) (T := TX1) (N := 6) hx hb hts i_X1_makeRoom_X1 tyX1 tyX1_ok nmX1 hown hK hP hD hS 0 rfl rfl 3 (by decide) k_5 (fun _ h9 => h9) rfl (by decide +kernel) rfl rfl (Nat.le_of_ble_eq_true rfl) dX1_makeRoom_65 (fun H locs hP hD hS => ?_)
    have hP : va_P (dC, dI) vwCl [(o1, .inr (1, [.ref q26_4, .ref q38_7, .ref q50_10, .ref q62_13, .ref a1_4, .int v1_5])), (a1_4, .inl (cyI, n1_4, .inl g1_4)), (a1_0, .inl (cyI, n1_0, .inl g1_0)), (q26_4, .inl (cyI, (Int32.toNatClampNeg ((2 : Int32) * v1_5)), .inl (va_cpy g1_0 x_z0 (Int32.toNatClampNeg 0) (Int32.toNatClampNeg 0) (Int32.toNatClampNeg (Int32.ofNat n1_0))))), (a1_1, .inl (cyI, n1_1, .inl g1_1)), (q38_7, .inl (cyI, (Int32.toNatClampNeg ((2 : Int32) * v1_5)), .inl (va_cpy g1_1 x_z0 (Int32.toNatClampNeg 0) (Int32.toNatClampNeg 0) (Int32.toNatClampNeg (Int32.ofNat n1_1))))), (a1_2, .inl (cyI, n1_2, .inl g1_2)), (q50_10, .inl (cyI, (Int32.toNatClampNeg ((2 : Int32) * v1_5)), .inl (va_cpy g1_2 x_z0 (Int32.toNatClampNeg 0) (Int32.toNatClampNeg 0) (Int32.toNatClampNeg (Int32.ofNat n1_2))))), (a1_3, .inl (cyI, n1_3, .inl g1_3)), (q62_13, .inl (cyI, (Int32.toNatClampNeg ((2 : Int32) * v1_5)), .inl (va_cpy g1_3 x_z0 (Int32.toNatClampNeg 0) (Int32.toNatClampNeg 0) (Int32.toNatClampNeg (Int32.ofNat n1_3)))))] H := hP
    have hD : va_D A [(o1, .inr (1, [.ref q26_4, .ref q38_7, .ref q50_10, .ref q62_13, .ref a1_4, .int v1_5])), (a1_4, .inl (cyI, n1_4, .inl g1_4)), (a1_0, .inl (cyI, n1_0, .inl g1_0)), (q26_4, .inl (cyI, (Int32.toNatClampNeg ((2 : Int32) * v1_5)), .inl (va_cpy g1_0 x_z0 (Int32.toNatClampNeg 0) (Int32.toNatClampNeg 0) (Int32.toNatClampNeg (Int32.ofNat n1_0))))), (a1_1, .inl (cyI, n1_1, .inl g1_1)), (q38_7, .inl (cyI, (Int32.toNatClampNeg ((2 : Int32) * v1_5)), .inl (va_cpy g1_1 x_z0 (Int32.toNatClampNeg 0) (Int32.toNatClampNeg 0) (Int32.toNatClampNeg (Int32.ofNat n1_1))))), (a1_2, .inl (cyI, n1_2, .inl g1_2)), (q50_10, .inl (cyI, (Int32.toNatClampNeg ((2 : Int32) * v1_5)), .inl (va_cpy g1_2 x_z0 (Int32.toNatClampNeg 0) (Int32.toNatClampNeg 0) (Int32.toNatClampNeg (Int32.ofNat n1_2))))), (a1_3, .inl (cyI, n1_3, .inl g1_3)), (q62_13, .inl (cyI, (Int32.toNatClampNeg ((2 : Int32) * v1_5)), .inl (va_cpy g1_3 x_z0 (Int32.toNatClampNeg 0) (Int32.toNatClampNeg 0) (Int32.toNatClampNeg (Int32.ofNat n1_3)))))] := hD
    refine lv_aload_n hx hb dX1_makeRoom_68 rfl (lv_at hl 1 rfl) ?_
    refine lv_aload_n hx hb dX1_makeRoom_69 rfl (lv_at hl 1 rfl) ?_
    refine va_get (D := (dC, dI)) (ci := 1) (v := .ref a1_4) (C := RX1) (T := TX1) (N := 6) hx hb hts i_X1_makeRoom_X1 hown hK hP 0 rfl rfl 4 (by decide) k_6 (fun _ h9 => h9) rfl dX1_makeRoom_70 ?_
    refine lv_iload_n hx hb dX1_makeRoom_73 rfl (lv_at hl 0 rfl) ?_
    replace hf := x_gu hf
    obtain ⟨g_14, hf⟩ := hf
    replace hf := x_bi hf
    obtain ⟨Z_15, hf, he⟩ := hf
    obtain rfl := Option.some.inj he
    dsimp only at hR
    clear hRc hRs
    have hRc := congrArg (fun z => z.2.2.2.2.2.2.2.2.2.2.1) hR
    have hRs := congrArg (fun z => z.2.2.2.2.2.2.2.2.2.2.2) hR
    dsimp only at hRc hRs
    have hPc := hP.sub (ws' := [(a1_4, .inl (cyI, n1_4, .inl g1_4))]) [1] rfl
    have hDc := hD.sub (ws' := [(a1_4, .inl (cyI, n1_4, .inl g1_4))]) [1] (by decide) rfl
    have hFc := va_free (wc := [(a1_4, .inl (cyI, n1_4, .inl g1_4))]) hD hS hA [1] rfl
    refine va_callr (va_runS (As := [.ref a1_4, .int ((2 : Int32) * v1_5)]) (rest := [.ref o1]) ⟨hx, hb, hml, hown, hts⟩ (c_J7_copyOf l dC dI cyI cyZ cyJ H.size a1_4 n1_4 g1_4 ((2 : Int32) * v1_5) g_14) (va_cwS 2 hts gX1_makeRoom_J7_copyOf_59c91 rfl rfl rfl (by decide +kernel) ⟨Nat.le_of_ble_eq_true rfl, Nat.le_of_ble_eq_true rfl⟩) (x_pSD hN hK hPc hDc) rfl rfl hl.1 rfl (lv_room (Nat.le_of_ble_eq_true rfl)) dX1_makeRoom_74 ⟨by dsimp only [headSpec]; omega, by dsimp only [headSpec]; omega⟩) hS (fun q _ h => hFc q h) hFc (fun u q74_16 t H1 locs ht hvm hw hB hz1 hk1 hS => ?_)
    obtain ⟨hP1, hK1, hD1⟩ := hB
    rw [ht] at hP1
    obtain ⟨hP, hD⟩ := va_join (wr := [(o1, .inr (1, [.ref q26_4, .ref q38_7, .ref q50_10, .ref q62_13, .ref a1_4, .int v1_5])), (a1_0, .inl (cyI, n1_0, .inl g1_0)), (q26_4, .inl (cyI, (Int32.toNatClampNeg ((2 : Int32) * v1_5)), .inl (va_cpy g1_0 x_z0 (Int32.toNatClampNeg 0) (Int32.toNatClampNeg 0) (Int32.toNatClampNeg (Int32.ofNat n1_0))))), (a1_1, .inl (cyI, n1_1, .inl g1_1)), (q38_7, .inl (cyI, (Int32.toNatClampNeg ((2 : Int32) * v1_5)), .inl (va_cpy g1_1 x_z0 (Int32.toNatClampNeg 0) (Int32.toNatClampNeg 0) (Int32.toNatClampNeg (Int32.ofNat n1_1))))), (a1_2, .inl (cyI, n1_2, .inl g1_2)), (q50_10, .inl (cyI, (Int32.toNatClampNeg ((2 : Int32) * v1_5)), .inl (va_cpy g1_2 x_z0 (Int32.toNatClampNeg 0) (Int32.toNatClampNeg 0) (Int32.toNatClampNeg (Int32.ofNat n1_2))))), (a1_3, .inl (cyI, n1_3, .inl g1_3)), (q62_13, .inl (cyI, (Int32.toNatClampNeg ((2 : Int32) * v1_5)), .inl (va_cpy g1_3 x_z0 (Int32.toNatClampNeg 0) (Int32.toNatClampNeg 0) (Int32.toNatClampNeg (Int32.ofNat n1_3)))))]) (w1 := [(a1_4, .inl (cyI, n1_4, .inl g1_4)), (q74_16, .inl (cyI, (Int32.toNatClampNeg ((2 : Int32) * v1_5)), .inl (va_cpy g1_4 x_z0 (Int32.toNatClampNeg 0) (Int32.toNatClampNeg 0) (Int32.toNatClampNeg (Int32.ofNat n1_4)))))]) hP hD [1] [0, 2, 3, 4, 5, 6, 7, 8, 9] rfl rfl (by decide) (by decide) hk1 hFc hP1 hD1
    clear hz1 hk1 hPc hDc hFc hP1 hK1 hD1 ht hvm t u
    generalize H1 = H at hP hS ⊢
    have hP : va_P (dC, dI) vwCl [(o1, .inr (1, [.ref q26_4, .ref q38_7, .ref q50_10, .ref q62_13, .ref a1_4, .int v1_5])), (a1_0, .inl (cyI, n1_0, .inl g1_0)), (q26_4, .inl (cyI, (Int32.toNatClampNeg ((2 : Int32) * v1_5)), .inl (va_cpy g1_0 x_z0 (Int32.toNatClampNeg 0) (Int32.toNatClampNeg 0) (Int32.toNatClampNeg (Int32.ofNat n1_0))))), (a1_1, .inl (cyI, n1_1, .inl g1_1)), (q38_7, .inl (cyI, (Int32.toNatClampNeg ((2 : Int32) * v1_5)), .inl (va_cpy g1_1 x_z0 (Int32.toNatClampNeg 0) (Int32.toNatClampNeg 0) (Int32.toNatClampNeg (Int32.ofNat n1_1))))), (a1_2, .inl (cyI, n1_2, .inl g1_2)), (q50_10, .inl (cyI, (Int32.toNatClampNeg ((2 : Int32) * v1_5)), .inl (va_cpy g1_2 x_z0 (Int32.toNatClampNeg 0) (Int32.toNatClampNeg 0) (Int32.toNatClampNeg (Int32.ofNat n1_2))))), (a1_3, .inl (cyI, n1_3, .inl g1_3)), (q62_13, .inl (cyI, (Int32.toNatClampNeg ((2 : Int32) * v1_5)), .inl (va_cpy g1_3 x_z0 (Int32.toNatClampNeg 0) (Int32.toNatClampNeg 0) (Int32.toNatClampNeg (Int32.ofNat n1_3))))), (a1_4, .inl (cyI, n1_4, .inl g1_4)), (q74_16, .inl (cyI, (Int32.toNatClampNeg ((2 : Int32) * v1_5)), .inl (va_cpy g1_4 x_z0 (Int32.toNatClampNeg 0) (Int32.toNatClampNeg 0) (Int32.toNatClampNeg (Int32.ofNat n1_4)))))] H := hP
    have hD : va_D A [(o1, .inr (1, [.ref q26_4, .ref q38_7, .ref q50_10, .ref q62_13, .ref a1_4, .int v1_5])), (a1_0, .inl (cyI, n1_0, .inl g1_0)), (q26_4, .inl (cyI, (Int32.toNatClampNeg ((2 : Int32) * v1_5)), .inl (va_cpy g1_0 x_z0 (Int32.toNatClampNeg 0) (Int32.toNatClampNeg 0) (Int32.toNatClampNeg (Int32.ofNat n1_0))))), (a1_1, .inl (cyI, n1_1, .inl g1_1)), (q38_7, .inl (cyI, (Int32.toNatClampNeg ((2 : Int32) * v1_5)), .inl (va_cpy g1_1 x_z0 (Int32.toNatClampNeg 0) (Int32.toNatClampNeg 0) (Int32.toNatClampNeg (Int32.ofNat n1_1))))), (a1_2, .inl (cyI, n1_2, .inl g1_2)), (q50_10, .inl (cyI, (Int32.toNatClampNeg ((2 : Int32) * v1_5)), .inl (va_cpy g1_2 x_z0 (Int32.toNatClampNeg 0) (Int32.toNatClampNeg 0) (Int32.toNatClampNeg (Int32.ofNat n1_2))))), (a1_3, .inl (cyI, n1_3, .inl g1_3)), (q62_13, .inl (cyI, (Int32.toNatClampNeg ((2 : Int32) * v1_5)), .inl (va_cpy g1_3 x_z0 (Int32.toNatClampNeg 0) (Int32.toNatClampNeg 0) (Int32.toNatClampNeg (Int32.ofNat n1_3))))), (a1_4, .inl (cyI, n1_4, .inl g1_4)), (q74_16, .inl (cyI, (Int32.toNatClampNeg ((2 : Int32) * v1_5)), .inl (va_cpy g1_4 x_z0 (Int32.toNatClampNeg 0) (Int32.toNatClampNeg 0) (Int32.toNatClampNeg (Int32.ofNat n1_4)))))] := hD
    refine va_put (D := (dC, dI)) (ci := 1) (v := .ref q74_16) (ty := .array .int) (C := RX1) (T := TX1) (N := 6) hx hb hts i_X1_makeRoom_X1 tyX1 tyX1_ok nmX1 hown hK hP hD hS 0 rfl rfl 4 (by decide) k_6 (fun _ h9 => h9) rfl (by decide +kernel) rfl rfl (Nat.le_of_ble_eq_true rfl) dX1_makeRoom_77 (fun H locs hP hD hS => ?_)
    have hP : va_P (dC, dI) vwCl [(o1, .inr (1, [.ref q26_4, .ref q38_7, .ref q50_10, .ref q62_13, .ref q74_16, .int v1_5])), (a1_0, .inl (cyI, n1_0, .inl g1_0)), (q26_4, .inl (cyI, (Int32.toNatClampNeg ((2 : Int32) * v1_5)), .inl (va_cpy g1_0 x_z0 (Int32.toNatClampNeg 0) (Int32.toNatClampNeg 0) (Int32.toNatClampNeg (Int32.ofNat n1_0))))), (a1_1, .inl (cyI, n1_1, .inl g1_1)), (q38_7, .inl (cyI, (Int32.toNatClampNeg ((2 : Int32) * v1_5)), .inl (va_cpy g1_1 x_z0 (Int32.toNatClampNeg 0) (Int32.toNatClampNeg 0) (Int32.toNatClampNeg (Int32.ofNat n1_1))))), (a1_2, .inl (cyI, n1_2, .inl g1_2)), (q50_10, .inl (cyI, (Int32.toNatClampNeg ((2 : Int32) * v1_5)), .inl (va_cpy g1_2 x_z0 (Int32.toNatClampNeg 0) (Int32.toNatClampNeg 0) (Int32.toNatClampNeg (Int32.ofNat n1_2))))), (a1_3, .inl (cyI, n1_3, .inl g1_3)), (q62_13, .inl (cyI, (Int32.toNatClampNeg ((2 : Int32) * v1_5)), .inl (va_cpy g1_3 x_z0 (Int32.toNatClampNeg 0) (Int32.toNatClampNeg 0) (Int32.toNatClampNeg (Int32.ofNat n1_3))))), (a1_4, .inl (cyI, n1_4, .inl g1_4)), (q74_16, .inl (cyI, (Int32.toNatClampNeg ((2 : Int32) * v1_5)), .inl (va_cpy g1_4 x_z0 (Int32.toNatClampNeg 0) (Int32.toNatClampNeg 0) (Int32.toNatClampNeg (Int32.ofNat n1_4)))))] H := hP
    have hD : va_D A [(o1, .inr (1, [.ref q26_4, .ref q38_7, .ref q50_10, .ref q62_13, .ref q74_16, .int v1_5])), (a1_0, .inl (cyI, n1_0, .inl g1_0)), (q26_4, .inl (cyI, (Int32.toNatClampNeg ((2 : Int32) * v1_5)), .inl (va_cpy g1_0 x_z0 (Int32.toNatClampNeg 0) (Int32.toNatClampNeg 0) (Int32.toNatClampNeg (Int32.ofNat n1_0))))), (a1_1, .inl (cyI, n1_1, .inl g1_1)), (q38_7, .inl (cyI, (Int32.toNatClampNeg ((2 : Int32) * v1_5)), .inl (va_cpy g1_1 x_z0 (Int32.toNatClampNeg 0) (Int32.toNatClampNeg 0) (Int32.toNatClampNeg (Int32.ofNat n1_1))))), (a1_2, .inl (cyI, n1_2, .inl g1_2)), (q50_10, .inl (cyI, (Int32.toNatClampNeg ((2 : Int32) * v1_5)), .inl (va_cpy g1_2 x_z0 (Int32.toNatClampNeg 0) (Int32.toNatClampNeg 0) (Int32.toNatClampNeg (Int32.ofNat n1_2))))), (a1_3, .inl (cyI, n1_3, .inl g1_3)), (q62_13, .inl (cyI, (Int32.toNatClampNeg ((2 : Int32) * v1_5)), .inl (va_cpy g1_3 x_z0 (Int32.toNatClampNeg 0) (Int32.toNatClampNeg 0) (Int32.toNatClampNeg (Int32.ofNat n1_3))))), (a1_4, .inl (cyI, n1_4, .inl g1_4)), (q74_16, .inl (cyI, (Int32.toNatClampNeg ((2 : Int32) * v1_5)), .inl (va_cpy g1_4 x_z0 (Int32.toNatClampNeg 0) (Int32.toNatClampNeg 0) (Int32.toNatClampNeg (Int32.ofNat n1_4)))))] := hD
    obtain rfl := Option.some.inj hf
    dsimp only at hR
    clear hRc hRs
    subst hR
    have hP9 := hP.sub (ws' := [(o1, .inr (1, [.ref q26_4, .ref q38_7, .ref q50_10, .ref q62_13, .ref q74_16, .int v1_5])), (q26_4, .inl (cyI, (Int32.toNatClampNeg ((2 : Int32) * v1_5)), .inl (va_cpy g1_0 x_z0 (Int32.toNatClampNeg 0) (Int32.toNatClampNeg 0) (Int32.toNatClampNeg (Int32.ofNat n1_0))))), (q38_7, .inl (cyI, (Int32.toNatClampNeg ((2 : Int32) * v1_5)), .inl (va_cpy g1_1 x_z0 (Int32.toNatClampNeg 0) (Int32.toNatClampNeg 0) (Int32.toNatClampNeg (Int32.ofNat n1_1))))), (q50_10, .inl (cyI, (Int32.toNatClampNeg ((2 : Int32) * v1_5)), .inl (va_cpy g1_2 x_z0 (Int32.toNatClampNeg 0) (Int32.toNatClampNeg 0) (Int32.toNatClampNeg (Int32.ofNat n1_2))))), (q62_13, .inl (cyI, (Int32.toNatClampNeg ((2 : Int32) * v1_5)), .inl (va_cpy g1_3 x_z0 (Int32.toNatClampNeg 0) (Int32.toNatClampNeg 0) (Int32.toNatClampNeg (Int32.ofNat n1_3))))), (q74_16, .inl (cyI, (Int32.toNatClampNeg ((2 : Int32) * v1_5)), .inl (va_cpy g1_4 x_z0 (Int32.toNatClampNeg 0) (Int32.toNatClampNeg 0) (Int32.toNatClampNeg (Int32.ofNat n1_4)))))]) [0, 2, 4, 6, 8, 10] rfl
    have hD9 := hD.sub (ws' := [(o1, .inr (1, [.ref q26_4, .ref q38_7, .ref q50_10, .ref q62_13, .ref q74_16, .int v1_5])), (q26_4, .inl (cyI, (Int32.toNatClampNeg ((2 : Int32) * v1_5)), .inl (va_cpy g1_0 x_z0 (Int32.toNatClampNeg 0) (Int32.toNatClampNeg 0) (Int32.toNatClampNeg (Int32.ofNat n1_0))))), (q38_7, .inl (cyI, (Int32.toNatClampNeg ((2 : Int32) * v1_5)), .inl (va_cpy g1_1 x_z0 (Int32.toNatClampNeg 0) (Int32.toNatClampNeg 0) (Int32.toNatClampNeg (Int32.ofNat n1_1))))), (q50_10, .inl (cyI, (Int32.toNatClampNeg ((2 : Int32) * v1_5)), .inl (va_cpy g1_2 x_z0 (Int32.toNatClampNeg 0) (Int32.toNatClampNeg 0) (Int32.toNatClampNeg (Int32.ofNat n1_2))))), (q62_13, .inl (cyI, (Int32.toNatClampNeg ((2 : Int32) * v1_5)), .inl (va_cpy g1_3 x_z0 (Int32.toNatClampNeg 0) (Int32.toNatClampNeg 0) (Int32.toNatClampNeg (Int32.ofNat n1_3))))), (q74_16, .inl (cyI, (Int32.toNatClampNeg ((2 : Int32) * v1_5)), .inl (va_cpy g1_4 x_z0 (Int32.toNatClampNeg 0) (Int32.toNatClampNeg 0) (Int32.toNatClampNeg (Int32.ofNat n1_4)))))]) [0, 2, 4, 6, 8, 10] (by decide) rfl
    refine W.widen (k := 0 + 1 + 1 + 1 + 1 + 1 + 0) (n := 0 + (Int32.toNatClampNeg ((2 : Int32) * v1_5)) + (Int32.toNatClampNeg ((2 : Int32) * v1_5)) + (Int32.toNatClampNeg ((2 : Int32) * v1_5)) + (Int32.toNatClampNeg ((2 : Int32) * v1_5)) + (Int32.toNatClampNeg ((2 : Int32) * v1_5)) + 0) (by omega) (by omega) ?_
    exact W.vret hx hb hr (fun t ht hW => ⟨⟨(), rfl, trivial, q26_4, q38_7, q50_10, q62_13, q74_16, by rw [ht]; exact hP9, va_K.moved hW.alike hK, hD9⟩, hS.F ht⟩) hS.2.2 dX1_makeRoom_80
  · replace hf := x_in c_1 hf
    obtain rfl := Option.some.inj hf
    dsimp only at hR
    clear hRc hRs
    subst hR
    have hP9 := hP.sub (ws' := [(o1, .inr (1, [.ref a1_0, .ref a1_1, .ref a1_2, .ref a1_3, .ref a1_4, .int v1_5])), (a1_0, .inl (cyI, n1_0, .inl g1_0)), (a1_1, .inl (cyI, n1_1, .inl g1_1)), (a1_2, .inl (cyI, n1_2, .inl g1_2)), (a1_3, .inl (cyI, n1_3, .inl g1_3)), (a1_4, .inl (cyI, n1_4, .inl g1_4))]) [0, 1, 2, 3, 4, 5] rfl
    have hD9 := hD.sub (ws' := [(o1, .inr (1, [.ref a1_0, .ref a1_1, .ref a1_2, .ref a1_3, .ref a1_4, .int v1_5])), (a1_0, .inl (cyI, n1_0, .inl g1_0)), (a1_1, .inl (cyI, n1_1, .inl g1_1)), (a1_2, .inl (cyI, n1_2, .inl g1_2)), (a1_3, .inl (cyI, n1_3, .inl g1_3)), (a1_4, .inl (cyI, n1_4, .inl g1_4))]) [0, 1, 2, 3, 4, 5] (by decide) rfl
    refine W.widen (k := 0 + 0) (n := 0 + 0) (by omega) (by omega) ?_
    exact W.vret hx hb hr (fun t ht hW => ⟨⟨(), rfl, trivial, a1_0, a1_1, a1_2, a1_3, a1_4, by rw [ht]; exact hP9, va_K.moved hW.alike hK, hD9⟩, hS.F ht⟩) hS.2.2 dX1_makeRoom_12

def f_X1_with_L (l1 : Int32) (l2 : Int32) (v1_5 : Int32) (g1_0 : Nat → Int32) (n1_0 : Nat) (g1_1 : Nat → Int32) (n1_1 : Nat) (g1_2 : Nat → Int32) (n1_2 : Nat) (g1_3 : Nat → Int32) (n1_3 : Nat) (g1_4 : Nat → Int32) (n1_4 : Nat) (z : Nat × Int32 × Int32) : Option (Int32 × Int32 × (Nat → Int32) × Nat × (Nat → Int32) × Nat × (Nat → Int32) × Nat × (Nat → Int32) × Nat × (Nat → Int32) × Nat × Nat × Nat) := match z with
  | (q, l3, l4) => if q = 0 then if v1_5 ≤ l4 then (f_X1_makeRoom v1_5 g1_0 n1_0 g1_1 n1_1 g1_2 n1_2 g1_3 n1_3 g1_4 n1_4) >>= (fun r_2 => (if x_gd v1_5 r_2.2.1 = true then if x_gd v1_5 r_2.2.2.2.1 = true then if x_gd l1 r_2.2.2.2.2.2.1 = true then if x_gd v1_5 r_2.2.2.2.2.2.1 = true then if x_gd v1_5 r_2.2.2.2.2.2.2.2.1 = true then if x_gd l1 r_2.2.2.2.2.2.2.2.1 = true then if x_gd v1_5 r_2.2.2.2.2.2.2.2.2.2.1 = true then if x_gd l1 r_2.2.2.2.2.2.2.2.1 = true then some (v1_5, v1_5 + (1 : Int32), upd r_2.1 (Int32.toNatClampNeg v1_5) l1, r_2.2.1, upd r_2.2.2.1 (Int32.toNatClampNeg v1_5) l2, r_2.2.2.2.1, upd r_2.2.2.2.2.1 (Int32.toNatClampNeg v1_5) ((r_2.2.2.2.2.1 (Int32.toNatClampNeg l1)) + (1 : Int32)), r_2.2.2.2.2.2.1, upd (upd r_2.2.2.2.2.2.2.1 (Int32.toNatClampNeg v1_5) (-1)) (Int32.toNatClampNeg l1) v1_5, r_2.2.2.2.2.2.2.2.1, upd r_2.2.2.2.2.2.2.2.2.1 (Int32.toNatClampNeg v1_5) ((upd r_2.2.2.2.2.2.2.1 (Int32.toNatClampNeg v1_5) (-1)) (Int32.toNatClampNeg l1)), r_2.2.2.2.2.2.2.2.2.2.1, 0, 0) else none else none else none else none else none else none else none else none) >>= (fun Z_3 => some (Z_3.1, Z_3.2.1, Z_3.2.2.1, Z_3.2.2.2.1, Z_3.2.2.2.2.1, Z_3.2.2.2.2.2.1, Z_3.2.2.2.2.2.2.1, Z_3.2.2.2.2.2.2.2.1, Z_3.2.2.2.2.2.2.2.2.1, Z_3.2.2.2.2.2.2.2.2.2.1, Z_3.2.2.2.2.2.2.2.2.2.2.1, Z_3.2.2.2.2.2.2.2.2.2.2.2.1, Z_3.2.2.2.2.2.2.2.2.2.2.2.2.1 + r_2.2.2.2.2.2.2.2.2.2.2.1, Z_3.2.2.2.2.2.2.2.2.2.2.2.2.2 + r_2.2.2.2.2.2.2.2.2.2.2.2))) else if l3 = (-1 : Int32) then (f_X1_makeRoom v1_5 g1_0 n1_0 g1_1 n1_1 g1_2 n1_2 g1_3 n1_3 g1_4 n1_4) >>= (fun r_13 => (if x_gd v1_5 r_13.2.1 = true then if x_gd v1_5 r_13.2.2.2.1 = true then if x_gd l1 r_13.2.2.2.2.2.1 = true then if x_gd v1_5 r_13.2.2.2.2.2.1 = true then if x_gd v1_5 r_13.2.2.2.2.2.2.2.1 = true then if x_gd l1 r_13.2.2.2.2.2.2.2.1 = true then if x_gd v1_5 r_13.2.2.2.2.2.2.2.2.2.1 = true then if x_gd l1 r_13.2.2.2.2.2.2.2.1 = true then some (v1_5, v1_5 + (1 : Int32), upd r_13.1 (Int32.toNatClampNeg v1_5) l1, r_13.2.1, upd r_13.2.2.1 (Int32.toNatClampNeg v1_5) l2, r_13.2.2.2.1, upd r_13.2.2.2.2.1 (Int32.toNatClampNeg v1_5) ((r_13.2.2.2.2.1 (Int32.toNatClampNeg l1)) + (1 : Int32)), r_13.2.2.2.2.2.1, upd (upd r_13.2.2.2.2.2.2.1 (Int32.toNatClampNeg v1_5) (-1)) (Int32.toNatClampNeg l1) v1_5, r_13.2.2.2.2.2.2.2.1, upd r_13.2.2.2.2.2.2.2.2.1 (Int32.toNatClampNeg v1_5) ((upd r_13.2.2.2.2.2.2.1 (Int32.toNatClampNeg v1_5) (-1)) (Int32.toNatClampNeg l1)), r_13.2.2.2.2.2.2.2.2.2.1, 0, 0) else none else none else none else none else none else none else none else none) >>= (fun Z_14 => some (Z_14.1, Z_14.2.1, Z_14.2.2.1, Z_14.2.2.2.1, Z_14.2.2.2.2.1, Z_14.2.2.2.2.2.1, Z_14.2.2.2.2.2.2.1, Z_14.2.2.2.2.2.2.2.1, Z_14.2.2.2.2.2.2.2.2.1, Z_14.2.2.2.2.2.2.2.2.2.1, Z_14.2.2.2.2.2.2.2.2.2.2.1, Z_14.2.2.2.2.2.2.2.2.2.2.2.1, Z_14.2.2.2.2.2.2.2.2.2.2.2.2.1 + r_13.2.2.2.2.2.2.2.2.2.2.1, Z_14.2.2.2.2.2.2.2.2.2.2.2.2.2 + r_13.2.2.2.2.2.2.2.2.2.2.2))) else if x_gd l3 n1_1 = true then if (g1_1 (Int32.toNatClampNeg l3)) = l2 then some (l3, v1_5, g1_0, n1_0, g1_1, n1_1, g1_2, n1_2, g1_3, n1_3, g1_4, n1_4, 0, 0) else if x_gd l3 n1_4 = true then (f_X1_with_L l1 l2 v1_5 g1_0 n1_0 g1_1 n1_1 g1_2 n1_2 g1_3 n1_3 g1_4 n1_4 (0, g1_4 (Int32.toNatClampNeg l3), l4 + 1)) else none else none else none
partial_fixpoint
def f_X1_with (v1_5 : Int32) (g1_0 : Nat → Int32) (n1_0 : Nat) (g1_1 : Nat → Int32) (n1_1 : Nat) (g1_2 : Nat → Int32) (n1_2 : Nat) (g1_3 : Nat → Int32) (n1_3 : Nat) (g1_4 : Nat → Int32) (n1_4 : Nat) (p1 : Int32) (p2 : Int32) : Option (Int32 × Int32 × (Nat → Int32) × Nat × (Nat → Int32) × Nat × (Nat → Int32) × Nat × (Nat → Int32) × Nat × (Nat → Int32) × Nat × Nat × Nat) := if x_gd p1 n1_3 = true then (f_X1_with_L p1 p2 v1_5 g1_0 n1_0 g1_1 n1_1 g1_2 n1_2 g1_3 n1_3 g1_4 n1_4 (0, g1_3 (Int32.toNatClampNeg p1), 0)) else none
theorem i_X1_with_X1 : ∀ w ∈ wsX10, w ∈ wsX1_with := fun _ h => List.mem_cons_of_mem _ (List.mem_append_right _ h)
set_option maxHeartbeats 40000000 in
set_option maxRecDepth 100000 in
theorem c_X1_with (l : Launch) (dC : Nat → ClassId) (dI : Nat → Nat → Nat) (cyI cyZ cyJ : ClassId) (sz : Nat) (o1 : Nat) (a1_0 : Nat) (a1_1 : Nat) (a1_2 : Nat) (a1_3 : Nat) (a1_4 : Nat) (v1_5 : Int32) (g1_0 : Nat → Int32) (n1_0 : Nat) (g1_1 : Nat → Int32) (n1_1 : Nat) (g1_2 : Nat → Int32) (n1_2 : Nat) (g1_3 : Nat → Int32) (n1_3 : Nat) (g1_4 : Nat → Int32) (n1_4 : Nat) (p1 : Int32) (p2 : Int32) (R : Int32 × Int32 × (Nat → Int32) × Nat × (Nat → Int32) × Nat × (Nat → Int32) × Nat × (Nat → Int32) × Nat × (Nat → Int32) × Nat × Nat × Nat) (hf : f_X1_with v1_5 g1_0 n1_0 g1_1 n1_1 g1_2 n1_2 g1_3 n1_3 g1_4 n1_4 p1 p2 = some R) : Met l yX1_with wsX1_with ({ frames := 3, cells := R.2.2.2.2.2.2.2.2.2.2.2.2.1, slots := R.2.2.2.2.2.2.2.2.2.2.2.2.2, locals := 104 }) (va_Pc [.ref o1, .int p1, .int p2] (x_PreD (dC, dI) (x_T cyI cyZ cyJ) [(o1, .inr (1, [.ref a1_0, .ref a1_1, .ref a1_2, .ref a1_3, .ref a1_4, .int v1_5])), (a1_0, .inl (cyI, n1_0, .inl g1_0)), (a1_1, .inl (cyI, n1_1, .inl g1_1)), (a1_2, .inl (cyI, n1_2, .inl g1_2)), (a1_3, .inl (cyI, n1_3, .inl g1_3)), (a1_4, .inl (cyI, n1_4, .inl g1_4))] sz)) (va_Qi (fun (r : Int32) (_ : Unit) => r = R.1) (fun (_ : Unit) (t : State) => ∃ (a1_0_9 a1_1_9 a1_2_9 a1_3_9 a1_4_9 : Nat), va_P (dC, dI) vwCl [(o1, .inr (1, [.ref a1_0_9, .ref a1_1_9, .ref a1_2_9, .ref a1_3_9, .ref a1_4_9, .int (R.2.1)])), (a1_0_9, .inl (cyI, R.2.2.2.1, .inl R.2.2.1)), (a1_1_9, .inl (cyI, R.2.2.2.2.2.1, .inl R.2.2.2.2.1)), (a1_2_9, .inl (cyI, R.2.2.2.2.2.2.2.1, .inl R.2.2.2.2.2.2.1)), (a1_3_9, .inl (cyI, R.2.2.2.2.2.2.2.2.2.1, .inl R.2.2.2.2.2.2.2.2.1)), (a1_4_9, .inl (cyI, R.2.2.2.2.2.2.2.2.2.2.2.1, .inl R.2.2.2.2.2.2.2.2.2.2.1))] t.heap ∧ va_K (dC, dI) vwCl (x_T cyI cyZ cyJ) t ∧ va_D (va_A [(o1, .inr (1, [.ref a1_0, .ref a1_1, .ref a1_2, .ref a1_3, .ref a1_4, .int v1_5])), (a1_0, .inl (cyI, n1_0, .inl g1_0)), (a1_1, .inl (cyI, n1_1, .inl g1_1)), (a1_2, .inl (cyI, n1_2, .inl g1_2)), (a1_3, .inl (cyI, n1_3, .inl g1_3)), (a1_4, .inl (cyI, n1_4, .inl g1_4))] sz) [(o1, .inr (1, [.ref a1_0_9, .ref a1_1_9, .ref a1_2_9, .ref a1_3_9, .ref a1_4_9, .int (R.2.1)])), (a1_0_9, .inl (cyI, R.2.2.2.1, .inl R.2.2.1)), (a1_1_9, .inl (cyI, R.2.2.2.2.2.1, .inl R.2.2.2.2.1)), (a1_2_9, .inl (cyI, R.2.2.2.2.2.2.2.1, .inl R.2.2.2.2.2.2.1)), (a1_3_9, .inl (cyI, R.2.2.2.2.2.2.2.2.2.1, .inl R.2.2.2.2.2.2.2.2.1)), (a1_4_9, .inl (cyI, R.2.2.2.2.2.2.2.2.2.2.2.1, .inl R.2.2.2.2.2.2.2.2.2.2.1))]) (va_A [(o1, .inr (1, [.ref a1_0, .ref a1_1, .ref a1_2, .ref a1_3, .ref a1_4, .int v1_5])), (a1_0, .inl (cyI, n1_0, .inl g1_0)), (a1_1, .inl (cyI, n1_1, .inl g1_1)), (a1_2, .inl (cyI, n1_2, .inl g1_2)), (a1_3, .inl (cyI, n1_3, .inl g1_3)), (a1_4, .inl (cyI, n1_4, .inl g1_4))] sz)) (R.2.2.2.2.2.2.2.2.2.2.2.2.1) (R.2.2.2.2.2.2.2.2.2.2.2.2.2) (va_A [(o1, .inr (1, [.ref a1_0, .ref a1_1, .ref a1_2, .ref a1_3, .ref a1_4, .int v1_5])), (a1_0, .inl (cyI, n1_0, .inl g1_0)), (a1_1, .inl (cyI, n1_1, .inl g1_1)), (a1_2, .inl (cyI, n1_2, .inl g1_2)), (a1_3, .inl (cyI, n1_3, .inl g1_3)), (a1_4, .inl (cyI, n1_4, .inl g1_4))] sz) := by
  refine Met.ofW (cc := cX1_with) (maxL := 5) (ret := (some .int)) (by decide) rfl ?_
  intro p e s m args below meth c s₁ B hml hv
  obtain ⟨rfl, ⟨hsz, hP, hK, hN⟩, hD0⟩ := hv
  have hx := B.exec
  have hb := B.bytes
  have hr := B.returns
  have hts := atoms_spec (ws := wsX1_with) B.pre
  have hown : s.vm.findClass RX1 = some m.cls := findClass_of_methodNamed B.named
  have k_1 := hts (.fieldLink RX1 27 "FlowJudge$Contexts" "count" "I") (by decide +kernel)
  have k_2 := hts (.fieldLink RX1 9 "FlowJudge$Contexts" "parents" "[I") (by decide +kernel)
  have k_3 := hts (.fieldLink RX1 15 "FlowJudge$Contexts" "addresses" "[I") (by decide +kernel)
  have k_4 := hts (.fieldLink RX1 18 "FlowJudge$Contexts" "lengths" "[I") (by decide +kernel)
  have k_5 := hts (.fieldLink RX1 21 "FlowJudge$Contexts" "firstBelow" "[I") (by decide +kernel)
  have k_6 := hts (.fieldLink RX1 24 "FlowJudge$Contexts" "nextBeside" "[I") (by decide +kernel)
  subst hsz
  have hD := hD0.self (sz := s.heap.size)
  generalize hAe : va_A [(o1, .inr (1, [.ref a1_0, .ref a1_1, .ref a1_2, .ref a1_3, .ref a1_4, .int v1_5])), (a1_0, .inl (cyI, n1_0, .inl g1_0)), (a1_1, .inl (cyI, n1_1, .inl g1_1)), (a1_2, .inl (cyI, n1_2, .inl g1_2)), (a1_3, .inl (cyI, n1_3, .inl g1_3)), (a1_4, .inl (cyI, n1_4, .inl g1_4))] s.heap.size = A at hD ⊢
  have hA : ∀ q : Nat, s.heap.size ≤ q → A q := fun q h => by rw [← hAe]; exact Or.inr h
  have hP : va_P (dC, dI) vwCl [(o1, .inr (1, [.ref a1_0, .ref a1_1, .ref a1_2, .ref a1_3, .ref a1_4, .int v1_5])), (a1_0, .inl (cyI, n1_0, .inl g1_0)), (a1_1, .inl (cyI, n1_1, .inl g1_1)), (a1_2, .inl (cyI, n1_2, .inl g1_2)), (a1_3, .inl (cyI, n1_3, .inl g1_3)), (a1_4, .inl (cyI, n1_4, .inl g1_4))] s.heap := hP
  have hl := lv_entry ([.ref o1, .int p1, .int p2]) (n := 5) (Nat.le_of_ble_eq_true rfl)
  rw [lg_entry_eq]
  generalize (lg_sl ([.ref o1, .int p1, .int p2]) ++ List.replicate (5 - (lg_sl ([.ref o1, .int p1, .int p2])).length) Slot.unset).toArray = ls at hl ⊢
  have hl : lv_has ls 5 [(0, .ref o1), (1, .int p1), (2, .int p2)] := hl
  obtain ⟨H, hH⟩ : ∃ z, z = s.heap := ⟨_, rfl⟩
  refine x_here hH ?_
  have hP : va_P (dC, dI) vwCl [(o1, .inr (1, [.ref a1_0, .ref a1_1, .ref a1_2, .ref a1_3, .ref a1_4, .int v1_5])), (a1_0, .inl (cyI, n1_0, .inl g1_0)), (a1_1, .inl (cyI, n1_1, .inl g1_1)), (a1_2, .inl (cyI, n1_2, .inl g1_2)), (a1_3, .inl (cyI, n1_3, .inl g1_3)), (a1_4, .inl (cyI, n1_4, .inl g1_4))] H := by rw [hH]; exact hP
  have hS : va_S A s.heap H [] := by rw [hH]; exact va_S.rf
  clear hH
  obtain ⟨locs, hlo⟩ : ∃ z : List Loc, z = [] := ⟨_, rfl⟩
  refine x_herl hlo ?_
  have hS : va_S A s.heap H locs := by rw [hlo]; exact hS
  clear hlo
  unfold f_X1_with at hf
  refine x_wn (fun WW hWW => ?_)
  have J := fun (l1 : Int32) (l2 : Int32) (v1_5 : Int32) (g1_0 : Nat → Int32) (n1_0 : Nat) (g1_1 : Nat → Int32) (n1_1 : Nat) (g1_2 : Nat → Int32) (n1_2 : Nat) (g1_3 : Nat → Int32) (n1_3 : Nat) (g1_4 : Nat → Int32) (n1_4 : Nat) => f_X1_with_L.partial_correctness l1 l2 v1_5 g1_0 n1_0 g1_1 n1_1 g1_2 n1_2 g1_3 n1_3 g1_4 n1_4 (fun (z : Nat × Int32 × Int32) (r : Int32 × Int32 × (Nat → Int32) × Nat × (Nat → Int32) × Nat × (Nat → Int32) × Nat × (Nat → Int32) × Nat × (Nat → Int32) × Nat × Nat × Nat) => ∀ zc zs : Nat, R = (r.1, r.2.1, r.2.2.1, r.2.2.2.1, r.2.2.2.2.1, r.2.2.2.2.2.1, r.2.2.2.2.2.2.1, r.2.2.2.2.2.2.2.1, r.2.2.2.2.2.2.2.2.1, r.2.2.2.2.2.2.2.2.2.1, r.2.2.2.2.2.2.2.2.2.2.1, r.2.2.2.2.2.2.2.2.2.2.2.1, r.2.2.2.2.2.2.2.2.2.2.2.2.1 + zc, r.2.2.2.2.2.2.2.2.2.2.2.2.2 + zs) → ∀ (q : Nat) (l3 : Int32) (l4 : Int32), z = (q, l3, l4) → ((q = 0 → ∀ (a1_0 a1_1 a1_2 a1_3 a1_4 : Nat) (H : Heap) (locs : List Loc) (ls : Array Slot), va_P (dC, dI) vwCl [(o1, .inr (1, [.ref a1_0, .ref a1_1, .ref a1_2, .ref a1_3, .ref a1_4, .int v1_5])), (a1_0, .inl (cyI, n1_0, .inl g1_0)), (a1_1, .inl (cyI, n1_1, .inl g1_1)), (a1_2, .inl (cyI, n1_2, .inl g1_2)), (a1_3, .inl (cyI, n1_3, .inl g1_3)), (a1_4, .inl (cyI, n1_4, .inl g1_4))] H → va_D A [(o1, .inr (1, [.ref a1_0, .ref a1_1, .ref a1_2, .ref a1_3, .ref a1_4, .int v1_5])), (a1_0, .inl (cyI, n1_0, .inl g1_0)), (a1_1, .inl (cyI, n1_1, .inl g1_1)), (a1_2, .inl (cyI, n1_2, .inl g1_2)), (a1_3, .inl (cyI, n1_3, .inl g1_3)), (a1_4, .inl (cyI, n1_4, .inl g1_4))] → va_S A s.heap H locs → lv_has ls 5 [(0, .ref o1), (1, .int l1), (2, .int l2), (3, .int l3), (4, .int l4)] → WW H locs zc zs (F0 m 10 ls [])))) (by
    intro F ih z r hf zc zs hr q l3 l4 hz
    subst hz
    have hR := hr
    clear hr
    have hRc := congrArg (fun z => z.2.2.2.2.2.2.2.2.2.2.2.2.1) hR
    have hRs := congrArg (fun z => z.2.2.2.2.2.2.2.2.2.2.2.2.2) hR
    dsimp only at hRc hRs
    · intro hq a1_0 a1_1 a1_2 a1_3 a1_4 H locs ls hP hD hS hl
      subst hq
      refine (hWW _ _ _ _ _).mp ?_
      replace hf := x_ip rfl hf
      refine lv_iload hx hb dX1_with_10 (lv_at hl 4 rfl) ?_
      refine lv_aload_n hx hb dX1_with_12 rfl (lv_at hl 0 rfl) ?_
      refine va_get (D := (dC, dI)) (ci := 1) (v := .int v1_5) (C := RX1) (T := TX1) (N := 6) hx hb hts i_X1_with_X1 hown hK hP 0 rfl rfl 5 (by decide) k_1 (fun _ h9 => h9) rfl dX1_with_13 ?_
      refine lv_icmp_ge (tgt := 49) hx hb dX1_with_16 (by decide) (fun c_1 => ?_) (fun c_1 => ?_)
      · replace hf := x_ip c_1 hf
        refine lv_aload_n hx hb dX1_with_49 rfl (lv_at hl 0 rfl) ?_
        replace hf := x_bi hf
        obtain ⟨r_2, h_2, hf⟩ := hf
        replace hf := x_bi hf
        obtain ⟨Z_3, hf, he⟩ := hf
        obtain rfl := Option.some.inj he
        dsimp only at hR
        clear hRc hRs
        have hRc := congrArg (fun z => z.2.2.2.2.2.2.2.2.2.2.2.2.1) hR
        have hRs := congrArg (fun z => z.2.2.2.2.2.2.2.2.2.2.2.2.2) hR
        dsimp only at hRc hRs
        have hPc := hP.sub (ws' := [(o1, .inr (1, [.ref a1_0, .ref a1_1, .ref a1_2, .ref a1_3, .ref a1_4, .int v1_5])), (a1_0, .inl (cyI, n1_0, .inl g1_0)), (a1_1, .inl (cyI, n1_1, .inl g1_1)), (a1_2, .inl (cyI, n1_2, .inl g1_2)), (a1_3, .inl (cyI, n1_3, .inl g1_3)), (a1_4, .inl (cyI, n1_4, .inl g1_4))]) [0, 1, 2, 3, 4, 5] rfl
        have hDc := hD.sub (ws' := [(o1, .inr (1, [.ref a1_0, .ref a1_1, .ref a1_2, .ref a1_3, .ref a1_4, .int v1_5])), (a1_0, .inl (cyI, n1_0, .inl g1_0)), (a1_1, .inl (cyI, n1_1, .inl g1_1)), (a1_2, .inl (cyI, n1_2, .inl g1_2)), (a1_3, .inl (cyI, n1_3, .inl g1_3)), (a1_4, .inl (cyI, n1_4, .inl g1_4))]) [0, 1, 2, 3, 4, 5] (by decide) rfl
        have hFc := va_free (wc := [(o1, .inr (1, [.ref a1_0, .ref a1_1, .ref a1_2, .ref a1_3, .ref a1_4, .int v1_5])), (a1_0, .inl (cyI, n1_0, .inl g1_0)), (a1_1, .inl (cyI, n1_1, .inl g1_1)), (a1_2, .inl (cyI, n1_2, .inl g1_2)), (a1_3, .inl (cyI, n1_3, .inl g1_3)), (a1_4, .inl (cyI, n1_4, .inl g1_4))]) hD hS hA [0, 1, 2, 3, 4, 5] rfl
        refine va_callv (va_runV (As := []) (rest := []) ⟨hx, hb, hml, hown, hts⟩ (c_X1_makeRoom l dC dI cyI cyZ cyJ H.size o1 a1_0 a1_1 a1_2 a1_3 a1_4 v1_5 g1_0 n1_0 g1_1 n1_1 g1_2 n1_2 g1_3 n1_3 g1_4 n1_4 r_2 h_2) (cwV 0 hts gX1_with_X1_makeRoom rfl rfl rfl (by decide +kernel) ⟨Nat.le_of_ble_eq_true rfl, Nat.le_of_ble_eq_true rfl⟩) (x_pVD hN hK hPc hDc (ci := 1) (q0 := 0) rfl rfl) rfl rfl hl.1 rfl (lv_room (Nat.le_of_ble_eq_true rfl)) dX1_with_50 ⟨by dsimp only [headSpec]; omega, by dsimp only [headSpec]; omega⟩) hS (fun q _ h => hFc q h) hFc (fun u t H1 locs ht hvm hw hB hz1 hk1 hS => ?_)
        obtain ⟨a1_0_2, a1_1_2, a1_2_2, a1_3_2, a1_4_2, hP1, hK1, hD1⟩ := hB
        rw [ht] at hP1
        obtain ⟨hP, hD⟩ := va_join (wr := []) (w1 := [(o1, .inr (1, [.ref a1_0_2, .ref a1_1_2, .ref a1_2_2, .ref a1_3_2, .ref a1_4_2, .int v1_5])), (a1_0_2, .inl (cyI, r_2.2.1, .inl r_2.1)), (a1_1_2, .inl (cyI, r_2.2.2.2.1, .inl r_2.2.2.1)), (a1_2_2, .inl (cyI, r_2.2.2.2.2.2.1, .inl r_2.2.2.2.2.1)), (a1_3_2, .inl (cyI, r_2.2.2.2.2.2.2.2.1, .inl r_2.2.2.2.2.2.2.1)), (a1_4_2, .inl (cyI, r_2.2.2.2.2.2.2.2.2.2.1, .inl r_2.2.2.2.2.2.2.2.2.1))]) hP hD [0, 1, 2, 3, 4, 5] [] rfl rfl (by decide) (by decide) hk1 hFc hP1 hD1
        clear hz1 hk1 hPc hDc hFc hP1 hK1 hD1 ht hvm t u
        generalize H1 = H at hP hS ⊢
        have hP : va_P (dC, dI) vwCl [(o1, .inr (1, [.ref a1_0_2, .ref a1_1_2, .ref a1_2_2, .ref a1_3_2, .ref a1_4_2, .int v1_5])), (a1_0_2, .inl (cyI, r_2.2.1, .inl r_2.1)), (a1_1_2, .inl (cyI, r_2.2.2.2.1, .inl r_2.2.2.1)), (a1_2_2, .inl (cyI, r_2.2.2.2.2.2.1, .inl r_2.2.2.2.2.1)), (a1_3_2, .inl (cyI, r_2.2.2.2.2.2.2.2.1, .inl r_2.2.2.2.2.2.2.1)), (a1_4_2, .inl (cyI, r_2.2.2.2.2.2.2.2.2.2.1, .inl r_2.2.2.2.2.2.2.2.2.1))] H := hP
        have hD : va_D A [(o1, .inr (1, [.ref a1_0_2, .ref a1_1_2, .ref a1_2_2, .ref a1_3_2, .ref a1_4_2, .int v1_5])), (a1_0_2, .inl (cyI, r_2.2.1, .inl r_2.1)), (a1_1_2, .inl (cyI, r_2.2.2.2.1, .inl r_2.2.2.1)), (a1_2_2, .inl (cyI, r_2.2.2.2.2.2.1, .inl r_2.2.2.2.2.1)), (a1_3_2, .inl (cyI, r_2.2.2.2.2.2.2.2.1, .inl r_2.2.2.2.2.2.2.1)), (a1_4_2, .inl (cyI, r_2.2.2.2.2.2.2.2.2.2.1, .inl r_2.2.2.2.2.2.2.2.2.1))] := hD
        refine lv_aload_n hx hb dX1_with_53 rfl (lv_at hl 0 rfl) ?_
        refine va_get (D := (dC, dI)) (ci := 1) (v := .ref a1_0_2) (C := RX1) (T := TX1) (N := 6) hx hb hts i_X1_with_X1 hown hK hP 0 rfl rfl 0 (by decide) k_2 (fun _ h9 => h9) rfl dX1_with_54 ?_
        refine lv_aload_n hx hb dX1_with_57 rfl (lv_at hl 0 rfl) ?_
        refine va_get (D := (dC, dI)) (ci := 1) (v := .int v1_5) (C := RX1) (T := TX1) (N := 6) hx hb hts i_X1_with_X1 hown hK hP 0 rfl rfl 5 (by decide) k_1 (fun _ h9 => h9) rfl dX1_with_58 ?_
        refine lv_iload_n hx hb dX1_with_61 rfl (lv_at hl 1 rfl) ?_
        replace hf := x_gu hf
        obtain ⟨g_4, hf⟩ := hf
        refine va_iast hx hb hK hP hD hS 1 0 rfl rfl (x_gdin g_4) dX1_with_62 (fun H locs hP hD hS => ?_)
        have hP : va_P (dC, dI) vwCl [(o1, .inr (1, [.ref a1_0_2, .ref a1_1_2, .ref a1_2_2, .ref a1_3_2, .ref a1_4_2, .int v1_5])), (a1_0_2, .inl (cyI, r_2.2.1, .inl (upd r_2.1 (Int32.toNatClampNeg v1_5) l1))), (a1_1_2, .inl (cyI, r_2.2.2.2.1, .inl r_2.2.2.1)), (a1_2_2, .inl (cyI, r_2.2.2.2.2.2.1, .inl r_2.2.2.2.2.1)), (a1_3_2, .inl (cyI, r_2.2.2.2.2.2.2.2.1, .inl r_2.2.2.2.2.2.2.1)), (a1_4_2, .inl (cyI, r_2.2.2.2.2.2.2.2.2.2.1, .inl r_2.2.2.2.2.2.2.2.2.1))] H := hP
        have hD : va_D A [(o1, .inr (1, [.ref a1_0_2, .ref a1_1_2, .ref a1_2_2, .ref a1_3_2, .ref a1_4_2, .int v1_5])), (a1_0_2, .inl (cyI, r_2.2.1, .inl (upd r_2.1 (Int32.toNatClampNeg v1_5) l1))), (a1_1_2, .inl (cyI, r_2.2.2.2.1, .inl r_2.2.2.1)), (a1_2_2, .inl (cyI, r_2.2.2.2.2.2.1, .inl r_2.2.2.2.2.1)), (a1_3_2, .inl (cyI, r_2.2.2.2.2.2.2.2.1, .inl r_2.2.2.2.2.2.2.1)), (a1_4_2, .inl (cyI, r_2.2.2.2.2.2.2.2.2.2.1, .inl r_2.2.2.2.2.2.2.2.2.1))] := hD
        refine lv_aload_n hx hb dX1_with_63 rfl (lv_at hl 0 rfl) ?_
        refine va_get (D := (dC, dI)) (ci := 1) (v := .ref a1_1_2) (C := RX1) (T := TX1) (N := 6) hx hb hts i_X1_with_X1 hown hK hP 0 rfl rfl 1 (by decide) k_3 (fun _ h9 => h9) rfl dX1_with_64 ?_
        refine lv_aload_n hx hb dX1_with_67 rfl (lv_at hl 0 rfl) ?_
        refine va_get (D := (dC, dI)) (ci := 1) (v := .int v1_5) (C := RX1) (T := TX1) (N := 6) hx hb hts i_X1_with_X1 hown hK hP 0 rfl rfl 5 (by decide) k_1 (fun _ h9 => h9) rfl dX1_with_68 ?_
        refine lv_iload_n hx hb dX1_with_71 rfl (lv_at hl 2 rfl) ?_
        replace hf := x_gu hf
        obtain ⟨g_5, hf⟩ := hf
        refine va_iast hx hb hK hP hD hS 2 0 rfl rfl (x_gdin g_5) dX1_with_72 (fun H locs hP hD hS => ?_)
        have hP : va_P (dC, dI) vwCl [(o1, .inr (1, [.ref a1_0_2, .ref a1_1_2, .ref a1_2_2, .ref a1_3_2, .ref a1_4_2, .int v1_5])), (a1_0_2, .inl (cyI, r_2.2.1, .inl (upd r_2.1 (Int32.toNatClampNeg v1_5) l1))), (a1_1_2, .inl (cyI, r_2.2.2.2.1, .inl (upd r_2.2.2.1 (Int32.toNatClampNeg v1_5) l2))), (a1_2_2, .inl (cyI, r_2.2.2.2.2.2.1, .inl r_2.2.2.2.2.1)), (a1_3_2, .inl (cyI, r_2.2.2.2.2.2.2.2.1, .inl r_2.2.2.2.2.2.2.1)), (a1_4_2, .inl (cyI, r_2.2.2.2.2.2.2.2.2.2.1, .inl r_2.2.2.2.2.2.2.2.2.1))] H := hP
        have hD : va_D A [(o1, .inr (1, [.ref a1_0_2, .ref a1_1_2, .ref a1_2_2, .ref a1_3_2, .ref a1_4_2, .int v1_5])), (a1_0_2, .inl (cyI, r_2.2.1, .inl (upd r_2.1 (Int32.toNatClampNeg v1_5) l1))), (a1_1_2, .inl (cyI, r_2.2.2.2.1, .inl (upd r_2.2.2.1 (Int32.toNatClampNeg v1_5) l2))), (a1_2_2, .inl (cyI, r_2.2.2.2.2.2.1, .inl r_2.2.2.2.2.1)), (a1_3_2, .inl (cyI, r_2.2.2.2.2.2.2.2.1, .inl r_2.2.2.2.2.2.2.1)), (a1_4_2, .inl (cyI, r_2.2.2.2.2.2.2.2.2.2.1, .inl r_2.2.2.2.2.2.2.2.2.1))] := hD
        refine lv_aload_n hx hb dX1_with_73 rfl (lv_at hl 0 rfl) ?_
        refine va_get (D := (dC, dI)) (ci := 1) (v := .ref a1_2_2) (C := RX1) (T := TX1) (N := 6) hx hb hts i_X1_with_X1 hown hK hP 0 rfl rfl 2 (by decide) k_4 (fun _ h9 => h9) rfl dX1_with_74 ?_
        refine lv_aload_n hx hb dX1_with_77 rfl (lv_at hl 0 rfl) ?_
        refine va_get (D := (dC, dI)) (ci := 1) (v := .int v1_5) (C := RX1) (T := TX1) (N := 6) hx hb hts i_X1_with_X1 hown hK hP 0 rfl rfl 5 (by decide) k_1 (fun _ h9 => h9) rfl dX1_with_78 ?_
        refine lv_aload_n hx hb dX1_with_81 rfl (lv_at hl 0 rfl) ?_
        refine va_get (D := (dC, dI)) (ci := 1) (v := .ref a1_2_2) (C := RX1) (T := TX1) (N := 6) hx hb hts i_X1_with_X1 hown hK hP 0 rfl rfl 2 (by decide) k_4 (fun _ h9 => h9) rfl dX1_with_82 ?_
        refine lv_iload_n hx hb dX1_with_85 rfl (lv_at hl 1 rfl) ?_
        replace hf := x_gu hf
        obtain ⟨g_6, hf⟩ := hf
        refine va_iald hx hb hK hP 3 0 rfl rfl (x_gdin g_6) dX1_with_86 ?_
        refine lv_iconst (v := 1) hx hb dX1_with_87 (by decide) ?_
        refine lv_iadd hx hb dX1_with_88 ?_
        replace hf := x_gu hf
        obtain ⟨g_7, hf⟩ := hf
        refine va_iast hx hb hK hP hD hS 3 0 rfl rfl (x_gdin g_7) dX1_with_89 (fun H locs hP hD hS => ?_)
        have hP : va_P (dC, dI) vwCl [(o1, .inr (1, [.ref a1_0_2, .ref a1_1_2, .ref a1_2_2, .ref a1_3_2, .ref a1_4_2, .int v1_5])), (a1_0_2, .inl (cyI, r_2.2.1, .inl (upd r_2.1 (Int32.toNatClampNeg v1_5) l1))), (a1_1_2, .inl (cyI, r_2.2.2.2.1, .inl (upd r_2.2.2.1 (Int32.toNatClampNeg v1_5) l2))), (a1_2_2, .inl (cyI, r_2.2.2.2.2.2.1, .inl (upd r_2.2.2.2.2.1 (Int32.toNatClampNeg v1_5) ((r_2.2.2.2.2.1 (Int32.toNatClampNeg l1)) + (1 : Int32))))), (a1_3_2, .inl (cyI, r_2.2.2.2.2.2.2.2.1, .inl r_2.2.2.2.2.2.2.1)), (a1_4_2, .inl (cyI, r_2.2.2.2.2.2.2.2.2.2.1, .inl r_2.2.2.2.2.2.2.2.2.1))] H := hP
        have hD : va_D A [(o1, .inr (1, [.ref a1_0_2, .ref a1_1_2, .ref a1_2_2, .ref a1_3_2, .ref a1_4_2, .int v1_5])), (a1_0_2, .inl (cyI, r_2.2.1, .inl (upd r_2.1 (Int32.toNatClampNeg v1_5) l1))), (a1_1_2, .inl (cyI, r_2.2.2.2.1, .inl (upd r_2.2.2.1 (Int32.toNatClampNeg v1_5) l2))), (a1_2_2, .inl (cyI, r_2.2.2.2.2.2.1, .inl (upd r_2.2.2.2.2.1 (Int32.toNatClampNeg v1_5) ((r_2.2.2.2.2.1 (Int32.toNatClampNeg l1)) + (1 : Int32))))), (a1_3_2, .inl (cyI, r_2.2.2.2.2.2.2.2.1, .inl r_2.2.2.2.2.2.2.1)), (a1_4_2, .inl (cyI, r_2.2.2.2.2.2.2.2.2.2.1, .inl r_2.2.2.2.2.2.2.2.2.1))] := hD
        refine lv_aload_n hx hb dX1_with_90 rfl (lv_at hl 0 rfl) ?_
        refine va_get (D := (dC, dI)) (ci := 1) (v := .ref a1_3_2) (C := RX1) (T := TX1) (N := 6) hx hb hts i_X1_with_X1 hown hK hP 0 rfl rfl 3 (by decide) k_5 (fun _ h9 => h9) rfl dX1_with_91 ?_
        refine lv_aload_n hx hb dX1_with_94 rfl (lv_at hl 0 rfl) ?_
        refine va_get (D := (dC, dI)) (ci := 1) (v := .int v1_5) (C := RX1) (T := TX1) (N := 6) hx hb hts i_X1_with_X1 hown hK hP 0 rfl rfl 5 (by decide) k_1 (fun _ h9 => h9) rfl dX1_with_95 ?_
        refine lv_iconst (v := (-1)) hx hb dX1_with_98 (by decide) ?_
        replace hf := x_gu hf
        obtain ⟨g_8, hf⟩ := hf
        refine va_iast hx hb hK hP hD hS 4 0 rfl rfl (x_gdin g_8) dX1_with_99 (fun H locs hP hD hS => ?_)
        have hP : va_P (dC, dI) vwCl [(o1, .inr (1, [.ref a1_0_2, .ref a1_1_2, .ref a1_2_2, .ref a1_3_2, .ref a1_4_2, .int v1_5])), (a1_0_2, .inl (cyI, r_2.2.1, .inl (upd r_2.1 (Int32.toNatClampNeg v1_5) l1))), (a1_1_2, .inl (cyI, r_2.2.2.2.1, .inl (upd r_2.2.2.1 (Int32.toNatClampNeg v1_5) l2))), (a1_2_2, .inl (cyI, r_2.2.2.2.2.2.1, .inl (upd r_2.2.2.2.2.1 (Int32.toNatClampNeg v1_5) ((r_2.2.2.2.2.1 (Int32.toNatClampNeg l1)) + (1 : Int32))))), (a1_3_2, .inl (cyI, r_2.2.2.2.2.2.2.2.1, .inl (upd r_2.2.2.2.2.2.2.1 (Int32.toNatClampNeg v1_5) (-1)))), (a1_4_2, .inl (cyI, r_2.2.2.2.2.2.2.2.2.2.1, .inl r_2.2.2.2.2.2.2.2.2.1))] H := hP
        have hD : va_D A [(o1, .inr (1, [.ref a1_0_2, .ref a1_1_2, .ref a1_2_2, .ref a1_3_2, .ref a1_4_2, .int v1_5])), (a1_0_2, .inl (cyI, r_2.2.1, .inl (upd r_2.1 (Int32.toNatClampNeg v1_5) l1))), (a1_1_2, .inl (cyI, r_2.2.2.2.1, .inl (upd r_2.2.2.1 (Int32.toNatClampNeg v1_5) l2))), (a1_2_2, .inl (cyI, r_2.2.2.2.2.2.1, .inl (upd r_2.2.2.2.2.1 (Int32.toNatClampNeg v1_5) ((r_2.2.2.2.2.1 (Int32.toNatClampNeg l1)) + (1 : Int32))))), (a1_3_2, .inl (cyI, r_2.2.2.2.2.2.2.2.1, .inl (upd r_2.2.2.2.2.2.2.1 (Int32.toNatClampNeg v1_5) (-1)))), (a1_4_2, .inl (cyI, r_2.2.2.2.2.2.2.2.2.2.1, .inl r_2.2.2.2.2.2.2.2.2.1))] := hD
        refine lv_aload_n hx hb dX1_with_100 rfl (lv_at hl 0 rfl) ?_
        refine va_get (D := (dC, dI)) (ci := 1) (v := .ref a1_4_2) (C := RX1) (T := TX1) (N := 6) hx hb hts i_X1_with_X1 hown hK hP 0 rfl rfl 4 (by decide) k_6 (fun _ h9 => h9) rfl dX1_with_101 ?_
        refine lv_aload_n hx hb dX1_with_104 rfl (lv_at hl 0 rfl) ?_
        refine va_get (D := (dC, dI)) (ci := 1) (v := .int v1_5) (C := RX1) (T := TX1) (N := 6) hx hb hts i_X1_with_X1 hown hK hP 0 rfl rfl 5 (by decide) k_1 (fun _ h9 => h9) rfl dX1_with_105 ?_
        refine lv_aload_n hx hb dX1_with_108 rfl (lv_at hl 0 rfl) ?_
        refine va_get (D := (dC, dI)) (ci := 1) (v := .ref a1_3_2) (C := RX1) (T := TX1) (N := 6) hx hb hts i_X1_with_X1 hown hK hP 0 rfl rfl 3 (by decide) k_5 (fun _ h9 => h9) rfl dX1_with_109 ?_
        refine lv_iload_n hx hb dX1_with_112 rfl (lv_at hl 1 rfl) ?_
        replace hf := x_gu hf
        obtain ⟨g_9, hf⟩ := hf
        refine va_iald hx hb hK hP 4 0 rfl rfl (x_gdin g_9) dX1_with_113 ?_
        replace hf := x_gu hf
        obtain ⟨g_10, hf⟩ := hf
        refine va_iast hx hb hK hP hD hS 5 0 rfl rfl (x_gdin g_10) dX1_with_114 (fun H locs hP hD hS => ?_)
        have hP : va_P (dC, dI) vwCl [(o1, .inr (1, [.ref a1_0_2, .ref a1_1_2, .ref a1_2_2, .ref a1_3_2, .ref a1_4_2, .int v1_5])), (a1_0_2, .inl (cyI, r_2.2.1, .inl (upd r_2.1 (Int32.toNatClampNeg v1_5) l1))), (a1_1_2, .inl (cyI, r_2.2.2.2.1, .inl (upd r_2.2.2.1 (Int32.toNatClampNeg v1_5) l2))), (a1_2_2, .inl (cyI, r_2.2.2.2.2.2.1, .inl (upd r_2.2.2.2.2.1 (Int32.toNatClampNeg v1_5) ((r_2.2.2.2.2.1 (Int32.toNatClampNeg l1)) + (1 : Int32))))), (a1_3_2, .inl (cyI, r_2.2.2.2.2.2.2.2.1, .inl (upd r_2.2.2.2.2.2.2.1 (Int32.toNatClampNeg v1_5) (-1)))), (a1_4_2, .inl (cyI, r_2.2.2.2.2.2.2.2.2.2.1, .inl (upd r_2.2.2.2.2.2.2.2.2.1 (Int32.toNatClampNeg v1_5) ((upd r_2.2.2.2.2.2.2.1 (Int32.toNatClampNeg v1_5) (-1)) (Int32.toNatClampNeg l1)))))] H := hP
        have hD : va_D A [(o1, .inr (1, [.ref a1_0_2, .ref a1_1_2, .ref a1_2_2, .ref a1_3_2, .ref a1_4_2, .int v1_5])), (a1_0_2, .inl (cyI, r_2.2.1, .inl (upd r_2.1 (Int32.toNatClampNeg v1_5) l1))), (a1_1_2, .inl (cyI, r_2.2.2.2.1, .inl (upd r_2.2.2.1 (Int32.toNatClampNeg v1_5) l2))), (a1_2_2, .inl (cyI, r_2.2.2.2.2.2.1, .inl (upd r_2.2.2.2.2.1 (Int32.toNatClampNeg v1_5) ((r_2.2.2.2.2.1 (Int32.toNatClampNeg l1)) + (1 : Int32))))), (a1_3_2, .inl (cyI, r_2.2.2.2.2.2.2.2.1, .inl (upd r_2.2.2.2.2.2.2.1 (Int32.toNatClampNeg v1_5) (-1)))), (a1_4_2, .inl (cyI, r_2.2.2.2.2.2.2.2.2.2.1, .inl (upd r_2.2.2.2.2.2.2.2.2.1 (Int32.toNatClampNeg v1_5) ((upd r_2.2.2.2.2.2.2.1 (Int32.toNatClampNeg v1_5) (-1)) (Int32.toNatClampNeg l1)))))] := hD
        refine lv_aload_n hx hb dX1_with_115 rfl (lv_at hl 0 rfl) ?_
        refine va_get (D := (dC, dI)) (ci := 1) (v := .ref a1_3_2) (C := RX1) (T := TX1) (N := 6) hx hb hts i_X1_with_X1 hown hK hP 0 rfl rfl 3 (by decide) k_5 (fun _ h9 => h9) rfl dX1_with_116 ?_
        refine lv_iload_n hx hb dX1_with_119 rfl (lv_at hl 1 rfl) ?_
        refine lv_aload_n hx hb dX1_with_120 rfl (lv_at hl 0 rfl) ?_
        refine va_get (D := (dC, dI)) (ci := 1) (v := .int v1_5) (C := RX1) (T := TX1) (N := 6) hx hb hts i_X1_with_X1 hown hK hP 0 rfl rfl 5 (by decide) k_1 (fun _ h9 => h9) rfl dX1_with_121 ?_
        replace hf := x_gu hf
        obtain ⟨g_11, hf⟩ := hf
        refine va_iast hx hb hK hP hD hS 4 0 rfl rfl (x_gdin g_11) dX1_with_124 (fun H locs hP hD hS => ?_)
        have hP : va_P (dC, dI) vwCl [(o1, .inr (1, [.ref a1_0_2, .ref a1_1_2, .ref a1_2_2, .ref a1_3_2, .ref a1_4_2, .int v1_5])), (a1_0_2, .inl (cyI, r_2.2.1, .inl (upd r_2.1 (Int32.toNatClampNeg v1_5) l1))), (a1_1_2, .inl (cyI, r_2.2.2.2.1, .inl (upd r_2.2.2.1 (Int32.toNatClampNeg v1_5) l2))), (a1_2_2, .inl (cyI, r_2.2.2.2.2.2.1, .inl (upd r_2.2.2.2.2.1 (Int32.toNatClampNeg v1_5) ((r_2.2.2.2.2.1 (Int32.toNatClampNeg l1)) + (1 : Int32))))), (a1_3_2, .inl (cyI, r_2.2.2.2.2.2.2.2.1, .inl (upd (upd r_2.2.2.2.2.2.2.1 (Int32.toNatClampNeg v1_5) (-1)) (Int32.toNatClampNeg l1) v1_5))), (a1_4_2, .inl (cyI, r_2.2.2.2.2.2.2.2.2.2.1, .inl (upd r_2.2.2.2.2.2.2.2.2.1 (Int32.toNatClampNeg v1_5) ((upd r_2.2.2.2.2.2.2.1 (Int32.toNatClampNeg v1_5) (-1)) (Int32.toNatClampNeg l1)))))] H := hP
        have hD : va_D A [(o1, .inr (1, [.ref a1_0_2, .ref a1_1_2, .ref a1_2_2, .ref a1_3_2, .ref a1_4_2, .int v1_5])), (a1_0_2, .inl (cyI, r_2.2.1, .inl (upd r_2.1 (Int32.toNatClampNeg v1_5) l1))), (a1_1_2, .inl (cyI, r_2.2.2.2.1, .inl (upd r_2.2.2.1 (Int32.toNatClampNeg v1_5) l2))), (a1_2_2, .inl (cyI, r_2.2.2.2.2.2.1, .inl (upd r_2.2.2.2.2.1 (Int32.toNatClampNeg v1_5) ((r_2.2.2.2.2.1 (Int32.toNatClampNeg l1)) + (1 : Int32))))), (a1_3_2, .inl (cyI, r_2.2.2.2.2.2.2.2.1, .inl (upd (upd r_2.2.2.2.2.2.2.1 (Int32.toNatClampNeg v1_5) (-1)) (Int32.toNatClampNeg l1) v1_5))), (a1_4_2, .inl (cyI, r_2.2.2.2.2.2.2.2.2.2.1, .inl (upd r_2.2.2.2.2.2.2.2.2.1 (Int32.toNatClampNeg v1_5) ((upd r_2.2.2.2.2.2.2.1 (Int32.toNatClampNeg v1_5) (-1)) (Int32.toNatClampNeg l1)))))] := hD
        refine lv_aload_n hx hb dX1_with_125 rfl (lv_at hl 0 rfl) ?_
        refine lv_dup hx hb dX1_with_126 rfl ?_
        refine va_get (D := (dC, dI)) (ci := 1) (v := .int v1_5) (C := RX1) (T := TX1) (N := 6) hx hb hts i_X1_with_X1 hown hK hP 0 rfl rfl 5 (by decide) k_1 (fun _ h9 => h9) rfl dX1_with_127 ?_
        refine lv_dup_x1 hx hb dX1_with_130 rfl rfl ?_
        refine lv_iconst (v := 1) hx hb dX1_with_131 (by decide) ?_
        refine lv_iadd hx hb dX1_with_132 ?_
        refine va_put (D := (dC, dI)) (ci := 1) (v := .int (v1_5 + (1 : Int32))) (ty := .int) (C := RX1) (T := TX1) (N := 6) hx hb hts i_X1_with_X1 tyX1 tyX1_ok nmX1 hown hK hP hD hS 0 rfl rfl 5 (by decide) k_1 (fun _ h9 => h9) rfl (by decide +kernel) rfl rfl (Nat.le_of_ble_eq_true rfl) dX1_with_133 (fun H locs hP hD hS => ?_)
        have hP : va_P (dC, dI) vwCl [(o1, .inr (1, [.ref a1_0_2, .ref a1_1_2, .ref a1_2_2, .ref a1_3_2, .ref a1_4_2, .int (v1_5 + (1 : Int32))])), (a1_0_2, .inl (cyI, r_2.2.1, .inl (upd r_2.1 (Int32.toNatClampNeg v1_5) l1))), (a1_1_2, .inl (cyI, r_2.2.2.2.1, .inl (upd r_2.2.2.1 (Int32.toNatClampNeg v1_5) l2))), (a1_2_2, .inl (cyI, r_2.2.2.2.2.2.1, .inl (upd r_2.2.2.2.2.1 (Int32.toNatClampNeg v1_5) ((r_2.2.2.2.2.1 (Int32.toNatClampNeg l1)) + (1 : Int32))))), (a1_3_2, .inl (cyI, r_2.2.2.2.2.2.2.2.1, .inl (upd (upd r_2.2.2.2.2.2.2.1 (Int32.toNatClampNeg v1_5) (-1)) (Int32.toNatClampNeg l1) v1_5))), (a1_4_2, .inl (cyI, r_2.2.2.2.2.2.2.2.2.2.1, .inl (upd r_2.2.2.2.2.2.2.2.2.1 (Int32.toNatClampNeg v1_5) ((upd r_2.2.2.2.2.2.2.1 (Int32.toNatClampNeg v1_5) (-1)) (Int32.toNatClampNeg l1)))))] H := hP
        have hD : va_D A [(o1, .inr (1, [.ref a1_0_2, .ref a1_1_2, .ref a1_2_2, .ref a1_3_2, .ref a1_4_2, .int (v1_5 + (1 : Int32))])), (a1_0_2, .inl (cyI, r_2.2.1, .inl (upd r_2.1 (Int32.toNatClampNeg v1_5) l1))), (a1_1_2, .inl (cyI, r_2.2.2.2.1, .inl (upd r_2.2.2.1 (Int32.toNatClampNeg v1_5) l2))), (a1_2_2, .inl (cyI, r_2.2.2.2.2.2.1, .inl (upd r_2.2.2.2.2.1 (Int32.toNatClampNeg v1_5) ((r_2.2.2.2.2.1 (Int32.toNatClampNeg l1)) + (1 : Int32))))), (a1_3_2, .inl (cyI, r_2.2.2.2.2.2.2.2.1, .inl (upd (upd r_2.2.2.2.2.2.2.1 (Int32.toNatClampNeg v1_5) (-1)) (Int32.toNatClampNeg l1) v1_5))), (a1_4_2, .inl (cyI, r_2.2.2.2.2.2.2.2.2.2.1, .inl (upd r_2.2.2.2.2.2.2.2.2.1 (Int32.toNatClampNeg v1_5) ((upd r_2.2.2.2.2.2.2.1 (Int32.toNatClampNeg v1_5) (-1)) (Int32.toNatClampNeg l1)))))] := hD
        obtain rfl := Option.some.inj hf
        dsimp only at hR
        clear hRc hRs
        subst hR
        have hP9 := hP.sub (ws' := [(o1, .inr (1, [.ref a1_0_2, .ref a1_1_2, .ref a1_2_2, .ref a1_3_2, .ref a1_4_2, .int (v1_5 + (1 : Int32))])), (a1_0_2, .inl (cyI, r_2.2.1, .inl (upd r_2.1 (Int32.toNatClampNeg v1_5) l1))), (a1_1_2, .inl (cyI, r_2.2.2.2.1, .inl (upd r_2.2.2.1 (Int32.toNatClampNeg v1_5) l2))), (a1_2_2, .inl (cyI, r_2.2.2.2.2.2.1, .inl (upd r_2.2.2.2.2.1 (Int32.toNatClampNeg v1_5) ((r_2.2.2.2.2.1 (Int32.toNatClampNeg l1)) + (1 : Int32))))), (a1_3_2, .inl (cyI, r_2.2.2.2.2.2.2.2.1, .inl (upd (upd r_2.2.2.2.2.2.2.1 (Int32.toNatClampNeg v1_5) (-1)) (Int32.toNatClampNeg l1) v1_5))), (a1_4_2, .inl (cyI, r_2.2.2.2.2.2.2.2.2.2.1, .inl (upd r_2.2.2.2.2.2.2.2.2.1 (Int32.toNatClampNeg v1_5) ((upd r_2.2.2.2.2.2.2.1 (Int32.toNatClampNeg v1_5) (-1)) (Int32.toNatClampNeg l1)))))]) [0, 1, 2, 3, 4, 5] rfl
        have hD9 := hD.sub (ws' := [(o1, .inr (1, [.ref a1_0_2, .ref a1_1_2, .ref a1_2_2, .ref a1_3_2, .ref a1_4_2, .int (v1_5 + (1 : Int32))])), (a1_0_2, .inl (cyI, r_2.2.1, .inl (upd r_2.1 (Int32.toNatClampNeg v1_5) l1))), (a1_1_2, .inl (cyI, r_2.2.2.2.1, .inl (upd r_2.2.2.1 (Int32.toNatClampNeg v1_5) l2))), (a1_2_2, .inl (cyI, r_2.2.2.2.2.2.1, .inl (upd r_2.2.2.2.2.1 (Int32.toNatClampNeg v1_5) ((r_2.2.2.2.2.1 (Int32.toNatClampNeg l1)) + (1 : Int32))))), (a1_3_2, .inl (cyI, r_2.2.2.2.2.2.2.2.1, .inl (upd (upd r_2.2.2.2.2.2.2.1 (Int32.toNatClampNeg v1_5) (-1)) (Int32.toNatClampNeg l1) v1_5))), (a1_4_2, .inl (cyI, r_2.2.2.2.2.2.2.2.2.2.1, .inl (upd r_2.2.2.2.2.2.2.2.2.1 (Int32.toNatClampNeg v1_5) ((upd r_2.2.2.2.2.2.2.1 (Int32.toNatClampNeg v1_5) (-1)) (Int32.toNatClampNeg l1)))))]) [0, 1, 2, 3, 4, 5] (by decide) rfl
        refine W.widen (k := 0 + r_2.2.2.2.2.2.2.2.2.2.2.1 + zc) (n := 0 + r_2.2.2.2.2.2.2.2.2.2.2.2 + zs) (by omega) (by omega) ?_
        exact W.iret hx hb hr (fun t ht hW => ⟨⟨_, (), rfl, rfl, a1_0_2, a1_1_2, a1_2_2, a1_3_2, a1_4_2, by rw [ht]; exact hP9, va_K.moved hW.alike hK, hD9⟩, hS.F ht⟩) hS.2.2 dX1_with_136
      · replace hf := x_in c_1 hf
        refine lv_iload_n hx hb dX1_with_19 rfl (lv_at hl 3 rfl) ?_
        refine lv_iconst (v := (-1)) hx hb dX1_with_20 (by decide) ?_
        refine lv_icmp_eq (tgt := 49) hx hb dX1_with_21 (by decide) (fun c_12 => ?_) (fun c_12 => ?_)
        · replace hf := x_ip c_12 hf
          refine lv_aload_n hx hb dX1_with_49 rfl (lv_at hl 0 rfl) ?_
          replace hf := x_bi hf
          obtain ⟨r_13, h_13, hf⟩ := hf
          replace hf := x_bi hf
          obtain ⟨Z_14, hf, he⟩ := hf
          obtain rfl := Option.some.inj he
          dsimp only at hR
          clear hRc hRs
          have hRc := congrArg (fun z => z.2.2.2.2.2.2.2.2.2.2.2.2.1) hR
          have hRs := congrArg (fun z => z.2.2.2.2.2.2.2.2.2.2.2.2.2) hR
          dsimp only at hRc hRs
          have hPc := hP.sub (ws' := [(o1, .inr (1, [.ref a1_0, .ref a1_1, .ref a1_2, .ref a1_3, .ref a1_4, .int v1_5])), (a1_0, .inl (cyI, n1_0, .inl g1_0)), (a1_1, .inl (cyI, n1_1, .inl g1_1)), (a1_2, .inl (cyI, n1_2, .inl g1_2)), (a1_3, .inl (cyI, n1_3, .inl g1_3)), (a1_4, .inl (cyI, n1_4, .inl g1_4))]) [0, 1, 2, 3, 4, 5] rfl
          have hDc := hD.sub (ws' := [(o1, .inr (1, [.ref a1_0, .ref a1_1, .ref a1_2, .ref a1_3, .ref a1_4, .int v1_5])), (a1_0, .inl (cyI, n1_0, .inl g1_0)), (a1_1, .inl (cyI, n1_1, .inl g1_1)), (a1_2, .inl (cyI, n1_2, .inl g1_2)), (a1_3, .inl (cyI, n1_3, .inl g1_3)), (a1_4, .inl (cyI, n1_4, .inl g1_4))]) [0, 1, 2, 3, 4, 5] (by decide) rfl
          have hFc := va_free (wc := [(o1, .inr (1, [.ref a1_0, .ref a1_1, .ref a1_2, .ref a1_3, .ref a1_4, .int v1_5])), (a1_0, .inl (cyI, n1_0, .inl g1_0)), (a1_1, .inl (cyI, n1_1, .inl g1_1)), (a1_2, .inl (cyI, n1_2, .inl g1_2)), (a1_3, .inl (cyI, n1_3, .inl g1_3)), (a1_4, .inl (cyI, n1_4, .inl g1_4))]) hD hS hA [0, 1, 2, 3, 4, 5] rfl
          refine va_callv (va_runV (As := []) (rest := []) ⟨hx, hb, hml, hown, hts⟩ (c_X1_makeRoom l dC dI cyI cyZ cyJ H.size o1 a1_0 a1_1 a1_2 a1_3 a1_4 v1_5 g1_0 n1_0 g1_1 n1_1 g1_2 n1_2 g1_3 n1_3 g1_4 n1_4 r_13 h_13) (cwV 0 hts gX1_with_X1_makeRoom rfl rfl rfl (by decide +kernel) ⟨Nat.le_of_ble_eq_true rfl, Nat.le_of_ble_eq_true rfl⟩) (x_pVD hN hK hPc hDc (ci := 1) (q0 := 0) rfl rfl) rfl rfl hl.1 rfl (lv_room (Nat.le_of_ble_eq_true rfl)) dX1_with_50 ⟨by dsimp only [headSpec]; omega, by dsimp only [headSpec]; omega⟩) hS (fun q _ h => hFc q h) hFc (fun u t H1 locs ht hvm hw hB hz1 hk1 hS => ?_)
          obtain ⟨a1_0_13, a1_1_13, a1_2_13, a1_3_13, a1_4_13, hP1, hK1, hD1⟩ := hB
          rw [ht] at hP1
          obtain ⟨hP, hD⟩ := va_join (wr := []) (w1 := [(o1, .inr (1, [.ref a1_0_13, .ref a1_1_13, .ref a1_2_13, .ref a1_3_13, .ref a1_4_13, .int v1_5])), (a1_0_13, .inl (cyI, r_13.2.1, .inl r_13.1)), (a1_1_13, .inl (cyI, r_13.2.2.2.1, .inl r_13.2.2.1)), (a1_2_13, .inl (cyI, r_13.2.2.2.2.2.1, .inl r_13.2.2.2.2.1)), (a1_3_13, .inl (cyI, r_13.2.2.2.2.2.2.2.1, .inl r_13.2.2.2.2.2.2.1)), (a1_4_13, .inl (cyI, r_13.2.2.2.2.2.2.2.2.2.1, .inl r_13.2.2.2.2.2.2.2.2.1))]) hP hD [0, 1, 2, 3, 4, 5] [] rfl rfl (by decide) (by decide) hk1 hFc hP1 hD1
          clear hz1 hk1 hPc hDc hFc hP1 hK1 hD1 ht hvm t u
          generalize H1 = H at hP hS ⊢
          have hP : va_P (dC, dI) vwCl [(o1, .inr (1, [.ref a1_0_13, .ref a1_1_13, .ref a1_2_13, .ref a1_3_13, .ref a1_4_13, .int v1_5])), (a1_0_13, .inl (cyI, r_13.2.1, .inl r_13.1)), (a1_1_13, .inl (cyI, r_13.2.2.2.1, .inl r_13.2.2.1)), (a1_2_13, .inl (cyI, r_13.2.2.2.2.2.1, .inl r_13.2.2.2.2.1)), (a1_3_13, .inl (cyI, r_13.2.2.2.2.2.2.2.1, .inl r_13.2.2.2.2.2.2.1)), (a1_4_13, .inl (cyI, r_13.2.2.2.2.2.2.2.2.2.1, .inl r_13.2.2.2.2.2.2.2.2.1))] H := hP
          have hD : va_D A [(o1, .inr (1, [.ref a1_0_13, .ref a1_1_13, .ref a1_2_13, .ref a1_3_13, .ref a1_4_13, .int v1_5])), (a1_0_13, .inl (cyI, r_13.2.1, .inl r_13.1)), (a1_1_13, .inl (cyI, r_13.2.2.2.1, .inl r_13.2.2.1)), (a1_2_13, .inl (cyI, r_13.2.2.2.2.2.1, .inl r_13.2.2.2.2.1)), (a1_3_13, .inl (cyI, r_13.2.2.2.2.2.2.2.1, .inl r_13.2.2.2.2.2.2.1)), (a1_4_13, .inl (cyI, r_13.2.2.2.2.2.2.2.2.2.1, .inl r_13.2.2.2.2.2.2.2.2.1))] := hD
          refine lv_aload_n hx hb dX1_with_53 rfl (lv_at hl 0 rfl) ?_
          refine va_get (D := (dC, dI)) (ci := 1) (v := .ref a1_0_13) (C := RX1) (T := TX1) (N := 6) hx hb hts i_X1_with_X1 hown hK hP 0 rfl rfl 0 (by decide) k_2 (fun _ h9 => h9) rfl dX1_with_54 ?_
          refine lv_aload_n hx hb dX1_with_57 rfl (lv_at hl 0 rfl) ?_
          refine va_get (D := (dC, dI)) (ci := 1) (v := .int v1_5) (C := RX1) (T := TX1) (N := 6) hx hb hts i_X1_with_X1 hown hK hP 0 rfl rfl 5 (by decide) k_1 (fun _ h9 => h9) rfl dX1_with_58 ?_
          refine lv_iload_n hx hb dX1_with_61 rfl (lv_at hl 1 rfl) ?_
          replace hf := x_gu hf
          obtain ⟨g_15, hf⟩ := hf
          refine va_iast hx hb hK hP hD hS 1 0 rfl rfl (x_gdin g_15) dX1_with_62 (fun H locs hP hD hS => ?_)
          have hP : va_P (dC, dI) vwCl [(o1, .inr (1, [.ref a1_0_13, .ref a1_1_13, .ref a1_2_13, .ref a1_3_13, .ref a1_4_13, .int v1_5])), (a1_0_13, .inl (cyI, r_13.2.1, .inl (upd r_13.1 (Int32.toNatClampNeg v1_5) l1))), (a1_1_13, .inl (cyI, r_13.2.2.2.1, .inl r_13.2.2.1)), (a1_2_13, .inl (cyI, r_13.2.2.2.2.2.1, .inl r_13.2.2.2.2.1)), (a1_3_13, .inl (cyI, r_13.2.2.2.2.2.2.2.1, .inl r_13.2.2.2.2.2.2.1)), (a1_4_13, .inl (cyI, r_13.2.2.2.2.2.2.2.2.2.1, .inl r_13.2.2.2.2.2.2.2.2.1))] H := hP
          have hD : va_D A [(o1, .inr (1, [.ref a1_0_13, .ref a1_1_13, .ref a1_2_13, .ref a1_3_13, .ref a1_4_13, .int v1_5])), (a1_0_13, .inl (cyI, r_13.2.1, .inl (upd r_13.1 (Int32.toNatClampNeg v1_5) l1))), (a1_1_13, .inl (cyI, r_13.2.2.2.1, .inl r_13.2.2.1)), (a1_2_13, .inl (cyI, r_13.2.2.2.2.2.1, .inl r_13.2.2.2.2.1)), (a1_3_13, .inl (cyI, r_13.2.2.2.2.2.2.2.1, .inl r_13.2.2.2.2.2.2.1)), (a1_4_13, .inl (cyI, r_13.2.2.2.2.2.2.2.2.2.1, .inl r_13.2.2.2.2.2.2.2.2.1))] := hD
          refine lv_aload_n hx hb dX1_with_63 rfl (lv_at hl 0 rfl) ?_
          refine va_get (D := (dC, dI)) (ci := 1) (v := .ref a1_1_13) (C := RX1) (T := TX1) (N := 6) hx hb hts i_X1_with_X1 hown hK hP 0 rfl rfl 1 (by decide) k_3 (fun _ h9 => h9) rfl dX1_with_64 ?_
          refine lv_aload_n hx hb dX1_with_67 rfl (lv_at hl 0 rfl) ?_
          refine va_get (D := (dC, dI)) (ci := 1) (v := .int v1_5) (C := RX1) (T := TX1) (N := 6) hx hb hts i_X1_with_X1 hown hK hP 0 rfl rfl 5 (by decide) k_1 (fun _ h9 => h9) rfl dX1_with_68 ?_
          refine lv_iload_n hx hb dX1_with_71 rfl (lv_at hl 2 rfl) ?_
          replace hf := x_gu hf
          obtain ⟨g_16, hf⟩ := hf
          refine va_iast hx hb hK hP hD hS 2 0 rfl rfl (x_gdin g_16) dX1_with_72 (fun H locs hP hD hS => ?_)
          have hP : va_P (dC, dI) vwCl [(o1, .inr (1, [.ref a1_0_13, .ref a1_1_13, .ref a1_2_13, .ref a1_3_13, .ref a1_4_13, .int v1_5])), (a1_0_13, .inl (cyI, r_13.2.1, .inl (upd r_13.1 (Int32.toNatClampNeg v1_5) l1))), (a1_1_13, .inl (cyI, r_13.2.2.2.1, .inl (upd r_13.2.2.1 (Int32.toNatClampNeg v1_5) l2))), (a1_2_13, .inl (cyI, r_13.2.2.2.2.2.1, .inl r_13.2.2.2.2.1)), (a1_3_13, .inl (cyI, r_13.2.2.2.2.2.2.2.1, .inl r_13.2.2.2.2.2.2.1)), (a1_4_13, .inl (cyI, r_13.2.2.2.2.2.2.2.2.2.1, .inl r_13.2.2.2.2.2.2.2.2.1))] H := hP
          have hD : va_D A [(o1, .inr (1, [.ref a1_0_13, .ref a1_1_13, .ref a1_2_13, .ref a1_3_13, .ref a1_4_13, .int v1_5])), (a1_0_13, .inl (cyI, r_13.2.1, .inl (upd r_13.1 (Int32.toNatClampNeg v1_5) l1))), (a1_1_13, .inl (cyI, r_13.2.2.2.1, .inl (upd r_13.2.2.1 (Int32.toNatClampNeg v1_5) l2))), (a1_2_13, .inl (cyI, r_13.2.2.2.2.2.1, .inl r_13.2.2.2.2.1)), (a1_3_13, .inl (cyI, r_13.2.2.2.2.2.2.2.1, .inl r_13.2.2.2.2.2.2.1)), (a1_4_13, .inl (cyI, r_13.2.2.2.2.2.2.2.2.2.1, .inl r_13.2.2.2.2.2.2.2.2.1))] := hD
          refine lv_aload_n hx hb dX1_with_73 rfl (lv_at hl 0 rfl) ?_
          refine va_get (D := (dC, dI)) (ci := 1) (v := .ref a1_2_13) (C := RX1) (T := TX1) (N := 6) hx hb hts i_X1_with_X1 hown hK hP 0 rfl rfl 2 (by decide) k_4 (fun _ h9 => h9) rfl dX1_with_74 ?_
          refine lv_aload_n hx hb dX1_with_77 rfl (lv_at hl 0 rfl) ?_
          refine va_get (D := (dC, dI)) (ci := 1) (v := .int v1_5) (C := RX1) (T := TX1) (N := 6) hx hb hts i_X1_with_X1 hown hK hP 0 rfl rfl 5 (by decide) k_1 (fun _ h9 => h9) rfl dX1_with_78 ?_
          refine lv_aload_n hx hb dX1_with_81 rfl (lv_at hl 0 rfl) ?_
          refine va_get (D := (dC, dI)) (ci := 1) (v := .ref a1_2_13) (C := RX1) (T := TX1) (N := 6) hx hb hts i_X1_with_X1 hown hK hP 0 rfl rfl 2 (by decide) k_4 (fun _ h9 => h9) rfl dX1_with_82 ?_
          refine lv_iload_n hx hb dX1_with_85 rfl (lv_at hl 1 rfl) ?_
          replace hf := x_gu hf
          obtain ⟨g_17, hf⟩ := hf
          refine va_iald hx hb hK hP 3 0 rfl rfl (x_gdin g_17) dX1_with_86 ?_
          refine lv_iconst (v := 1) hx hb dX1_with_87 (by decide) ?_
          refine lv_iadd hx hb dX1_with_88 ?_
          replace hf := x_gu hf
          obtain ⟨g_18, hf⟩ := hf
          refine va_iast hx hb hK hP hD hS 3 0 rfl rfl (x_gdin g_18) dX1_with_89 (fun H locs hP hD hS => ?_)
          have hP : va_P (dC, dI) vwCl [(o1, .inr (1, [.ref a1_0_13, .ref a1_1_13, .ref a1_2_13, .ref a1_3_13, .ref a1_4_13, .int v1_5])), (a1_0_13, .inl (cyI, r_13.2.1, .inl (upd r_13.1 (Int32.toNatClampNeg v1_5) l1))), (a1_1_13, .inl (cyI, r_13.2.2.2.1, .inl (upd r_13.2.2.1 (Int32.toNatClampNeg v1_5) l2))), (a1_2_13, .inl (cyI, r_13.2.2.2.2.2.1, .inl (upd r_13.2.2.2.2.1 (Int32.toNatClampNeg v1_5) ((r_13.2.2.2.2.1 (Int32.toNatClampNeg l1)) + (1 : Int32))))), (a1_3_13, .inl (cyI, r_13.2.2.2.2.2.2.2.1, .inl r_13.2.2.2.2.2.2.1)), (a1_4_13, .inl (cyI, r_13.2.2.2.2.2.2.2.2.2.1, .inl r_13.2.2.2.2.2.2.2.2.1))] H := hP
          have hD : va_D A [(o1, .inr (1, [.ref a1_0_13, .ref a1_1_13, .ref a1_2_13, .ref a1_3_13, .ref a1_4_13, .int v1_5])), (a1_0_13, .inl (cyI, r_13.2.1, .inl (upd r_13.1 (Int32.toNatClampNeg v1_5) l1))), (a1_1_13, .inl (cyI, r_13.2.2.2.1, .inl (upd r_13.2.2.1 (Int32.toNatClampNeg v1_5) l2))), (a1_2_13, .inl (cyI, r_13.2.2.2.2.2.1, .inl (upd r_13.2.2.2.2.1 (Int32.toNatClampNeg v1_5) ((r_13.2.2.2.2.1 (Int32.toNatClampNeg l1)) + (1 : Int32))))), (a1_3_13, .inl (cyI, r_13.2.2.2.2.2.2.2.1, .inl r_13.2.2.2.2.2.2.1)), (a1_4_13, .inl (cyI, r_13.2.2.2.2.2.2.2.2.2.1, .inl r_13.2.2.2.2.2.2.2.2.1))] := hD
          refine lv_aload_n hx hb dX1_with_90 rfl (lv_at hl 0 rfl) ?_
          refine va_get (D := (dC, dI)) (ci := 1) (v := .ref a1_3_13) (C := RX1) (T := TX1) (N := 6) hx hb hts i_X1_with_X1 hown hK hP 0 rfl rfl 3 (by decide) k_5 (fun _ h9 => h9) rfl dX1_with_91 ?_
          refine lv_aload_n hx hb dX1_with_94 rfl (lv_at hl 0 rfl) ?_
          refine va_get (D := (dC, dI)) (ci := 1) (v := .int v1_5) (C := RX1) (T := TX1) (N := 6) hx hb hts i_X1_with_X1 hown hK hP 0 rfl rfl 5 (by decide) k_1 (fun _ h9 => h9) rfl dX1_with_95 ?_
          refine lv_iconst (v := (-1)) hx hb dX1_with_98 (by decide) ?_
          replace hf := x_gu hf
          obtain ⟨g_19, hf⟩ := hf
          refine va_iast hx hb hK hP hD hS 4 0 rfl rfl (x_gdin g_19) dX1_with_99 (fun H locs hP hD hS => ?_)
          have hP : va_P (dC, dI) vwCl [(o1, .inr (1, [.ref a1_0_13, .ref a1_1_13, .ref a1_2_13, .ref a1_3_13, .ref a1_4_13, .int v1_5])), (a1_0_13, .inl (cyI, r_13.2.1, .inl (upd r_13.1 (Int32.toNatClampNeg v1_5) l1))), (a1_1_13, .inl (cyI, r_13.2.2.2.1, .inl (upd r_13.2.2.1 (Int32.toNatClampNeg v1_5) l2))), (a1_2_13, .inl (cyI, r_13.2.2.2.2.2.1, .inl (upd r_13.2.2.2.2.1 (Int32.toNatClampNeg v1_5) ((r_13.2.2.2.2.1 (Int32.toNatClampNeg l1)) + (1 : Int32))))), (a1_3_13, .inl (cyI, r_13.2.2.2.2.2.2.2.1, .inl (upd r_13.2.2.2.2.2.2.1 (Int32.toNatClampNeg v1_5) (-1)))), (a1_4_13, .inl (cyI, r_13.2.2.2.2.2.2.2.2.2.1, .inl r_13.2.2.2.2.2.2.2.2.1))] H := hP
          have hD : va_D A [(o1, .inr (1, [.ref a1_0_13, .ref a1_1_13, .ref a1_2_13, .ref a1_3_13, .ref a1_4_13, .int v1_5])), (a1_0_13, .inl (cyI, r_13.2.1, .inl (upd r_13.1 (Int32.toNatClampNeg v1_5) l1))), (a1_1_13, .inl (cyI, r_13.2.2.2.1, .inl (upd r_13.2.2.1 (Int32.toNatClampNeg v1_5) l2))), (a1_2_13, .inl (cyI, r_13.2.2.2.2.2.1, .inl (upd r_13.2.2.2.2.1 (Int32.toNatClampNeg v1_5) ((r_13.2.2.2.2.1 (Int32.toNatClampNeg l1)) + (1 : Int32))))), (a1_3_13, .inl (cyI, r_13.2.2.2.2.2.2.2.1, .inl (upd r_13.2.2.2.2.2.2.1 (Int32.toNatClampNeg v1_5) (-1)))), (a1_4_13, .inl (cyI, r_13.2.2.2.2.2.2.2.2.2.1, .inl r_13.2.2.2.2.2.2.2.2.1))] := hD
          refine lv_aload_n hx hb dX1_with_100 rfl (lv_at hl 0 rfl) ?_
          refine va_get (D := (dC, dI)) (ci := 1) (v := .ref a1_4_13) (C := RX1) (T := TX1) (N := 6) hx hb hts i_X1_with_X1 hown hK hP 0 rfl rfl 4 (by decide) k_6 (fun _ h9 => h9) rfl dX1_with_101 ?_
          refine lv_aload_n hx hb dX1_with_104 rfl (lv_at hl 0 rfl) ?_
          refine va_get (D := (dC, dI)) (ci := 1) (v := .int v1_5) (C := RX1) (T := TX1) (N := 6) hx hb hts i_X1_with_X1 hown hK hP 0 rfl rfl 5 (by decide) k_1 (fun _ h9 => h9) rfl dX1_with_105 ?_
          refine lv_aload_n hx hb dX1_with_108 rfl (lv_at hl 0 rfl) ?_
          refine va_get (D := (dC, dI)) (ci := 1) (v := .ref a1_3_13) (C := RX1) (T := TX1) (N := 6) hx hb hts i_X1_with_X1 hown hK hP 0 rfl rfl 3 (by decide) k_5 (fun _ h9 => h9) rfl dX1_with_109 ?_
          refine lv_iload_n hx hb dX1_with_112 rfl (lv_at hl 1 rfl) ?_
          replace hf := x_gu hf
          obtain ⟨g_20, hf⟩ := hf
          refine va_iald hx hb hK hP 4 0 rfl rfl (x_gdin g_20) dX1_with_113 ?_
          replace hf := x_gu hf
          obtain ⟨g_21, hf⟩ := hf
          refine va_iast hx hb hK hP hD hS 5 0 rfl rfl (x_gdin g_21) dX1_with_114 (fun H locs hP hD hS => ?_)
          have hP : va_P (dC, dI) vwCl [(o1, .inr (1, [.ref a1_0_13, .ref a1_1_13, .ref a1_2_13, .ref a1_3_13, .ref a1_4_13, .int v1_5])), (a1_0_13, .inl (cyI, r_13.2.1, .inl (upd r_13.1 (Int32.toNatClampNeg v1_5) l1))), (a1_1_13, .inl (cyI, r_13.2.2.2.1, .inl (upd r_13.2.2.1 (Int32.toNatClampNeg v1_5) l2))), (a1_2_13, .inl (cyI, r_13.2.2.2.2.2.1, .inl (upd r_13.2.2.2.2.1 (Int32.toNatClampNeg v1_5) ((r_13.2.2.2.2.1 (Int32.toNatClampNeg l1)) + (1 : Int32))))), (a1_3_13, .inl (cyI, r_13.2.2.2.2.2.2.2.1, .inl (upd r_13.2.2.2.2.2.2.1 (Int32.toNatClampNeg v1_5) (-1)))), (a1_4_13, .inl (cyI, r_13.2.2.2.2.2.2.2.2.2.1, .inl (upd r_13.2.2.2.2.2.2.2.2.1 (Int32.toNatClampNeg v1_5) ((upd r_13.2.2.2.2.2.2.1 (Int32.toNatClampNeg v1_5) (-1)) (Int32.toNatClampNeg l1)))))] H := hP
          have hD : va_D A [(o1, .inr (1, [.ref a1_0_13, .ref a1_1_13, .ref a1_2_13, .ref a1_3_13, .ref a1_4_13, .int v1_5])), (a1_0_13, .inl (cyI, r_13.2.1, .inl (upd r_13.1 (Int32.toNatClampNeg v1_5) l1))), (a1_1_13, .inl (cyI, r_13.2.2.2.1, .inl (upd r_13.2.2.1 (Int32.toNatClampNeg v1_5) l2))), (a1_2_13, .inl (cyI, r_13.2.2.2.2.2.1, .inl (upd r_13.2.2.2.2.1 (Int32.toNatClampNeg v1_5) ((r_13.2.2.2.2.1 (Int32.toNatClampNeg l1)) + (1 : Int32))))), (a1_3_13, .inl (cyI, r_13.2.2.2.2.2.2.2.1, .inl (upd r_13.2.2.2.2.2.2.1 (Int32.toNatClampNeg v1_5) (-1)))), (a1_4_13, .inl (cyI, r_13.2.2.2.2.2.2.2.2.2.1, .inl (upd r_13.2.2.2.2.2.2.2.2.1 (Int32.toNatClampNeg v1_5) ((upd r_13.2.2.2.2.2.2.1 (Int32.toNatClampNeg v1_5) (-1)) (Int32.toNatClampNeg l1)))))] := hD
          refine lv_aload_n hx hb dX1_with_115 rfl (lv_at hl 0 rfl) ?_
          refine va_get (D := (dC, dI)) (ci := 1) (v := .ref a1_3_13) (C := RX1) (T := TX1) (N := 6) hx hb hts i_X1_with_X1 hown hK hP 0 rfl rfl 3 (by decide) k_5 (fun _ h9 => h9) rfl dX1_with_116 ?_
          refine lv_iload_n hx hb dX1_with_119 rfl (lv_at hl 1 rfl) ?_
          refine lv_aload_n hx hb dX1_with_120 rfl (lv_at hl 0 rfl) ?_
          refine va_get (D := (dC, dI)) (ci := 1) (v := .int v1_5) (C := RX1) (T := TX1) (N := 6) hx hb hts i_X1_with_X1 hown hK hP 0 rfl rfl 5 (by decide) k_1 (fun _ h9 => h9) rfl dX1_with_121 ?_
          replace hf := x_gu hf
          obtain ⟨g_22, hf⟩ := hf
          refine va_iast hx hb hK hP hD hS 4 0 rfl rfl (x_gdin g_22) dX1_with_124 (fun H locs hP hD hS => ?_)
          have hP : va_P (dC, dI) vwCl [(o1, .inr (1, [.ref a1_0_13, .ref a1_1_13, .ref a1_2_13, .ref a1_3_13, .ref a1_4_13, .int v1_5])), (a1_0_13, .inl (cyI, r_13.2.1, .inl (upd r_13.1 (Int32.toNatClampNeg v1_5) l1))), (a1_1_13, .inl (cyI, r_13.2.2.2.1, .inl (upd r_13.2.2.1 (Int32.toNatClampNeg v1_5) l2))), (a1_2_13, .inl (cyI, r_13.2.2.2.2.2.1, .inl (upd r_13.2.2.2.2.1 (Int32.toNatClampNeg v1_5) ((r_13.2.2.2.2.1 (Int32.toNatClampNeg l1)) + (1 : Int32))))), (a1_3_13, .inl (cyI, r_13.2.2.2.2.2.2.2.1, .inl (upd (upd r_13.2.2.2.2.2.2.1 (Int32.toNatClampNeg v1_5) (-1)) (Int32.toNatClampNeg l1) v1_5))), (a1_4_13, .inl (cyI, r_13.2.2.2.2.2.2.2.2.2.1, .inl (upd r_13.2.2.2.2.2.2.2.2.1 (Int32.toNatClampNeg v1_5) ((upd r_13.2.2.2.2.2.2.1 (Int32.toNatClampNeg v1_5) (-1)) (Int32.toNatClampNeg l1)))))] H := hP
          have hD : va_D A [(o1, .inr (1, [.ref a1_0_13, .ref a1_1_13, .ref a1_2_13, .ref a1_3_13, .ref a1_4_13, .int v1_5])), (a1_0_13, .inl (cyI, r_13.2.1, .inl (upd r_13.1 (Int32.toNatClampNeg v1_5) l1))), (a1_1_13, .inl (cyI, r_13.2.2.2.1, .inl (upd r_13.2.2.1 (Int32.toNatClampNeg v1_5) l2))), (a1_2_13, .inl (cyI, r_13.2.2.2.2.2.1, .inl (upd r_13.2.2.2.2.1 (Int32.toNatClampNeg v1_5) ((r_13.2.2.2.2.1 (Int32.toNatClampNeg l1)) + (1 : Int32))))), (a1_3_13, .inl (cyI, r_13.2.2.2.2.2.2.2.1, .inl (upd (upd r_13.2.2.2.2.2.2.1 (Int32.toNatClampNeg v1_5) (-1)) (Int32.toNatClampNeg l1) v1_5))), (a1_4_13, .inl (cyI, r_13.2.2.2.2.2.2.2.2.2.1, .inl (upd r_13.2.2.2.2.2.2.2.2.1 (Int32.toNatClampNeg v1_5) ((upd r_13.2.2.2.2.2.2.1 (Int32.toNatClampNeg v1_5) (-1)) (Int32.toNatClampNeg l1)))))] := hD
          refine lv_aload_n hx hb dX1_with_125 rfl (lv_at hl 0 rfl) ?_
          refine lv_dup hx hb dX1_with_126 rfl ?_
          refine va_get (D := (dC, dI)) (ci := 1) (v := .int v1_5) (C := RX1) (T := TX1) (N := 6) hx hb hts i_X1_with_X1 hown hK hP 0 rfl rfl 5 (by decide) k_1 (fun _ h9 => h9) rfl dX1_with_127 ?_
          refine lv_dup_x1 hx hb dX1_with_130 rfl rfl ?_
          refine lv_iconst (v := 1) hx hb dX1_with_131 (by decide) ?_
          refine lv_iadd hx hb dX1_with_132 ?_
          refine va_put (D := (dC, dI)) (ci := 1) (v := .int (v1_5 + (1 : Int32))) (ty := .int) (C := RX1) (T := TX1) (N := 6) hx hb hts i_X1_with_X1 tyX1 tyX1_ok nmX1 hown hK hP hD hS 0 rfl rfl 5 (by decide) k_1 (fun _ h9 => h9) rfl (by decide +kernel) rfl rfl (Nat.le_of_ble_eq_true rfl) dX1_with_133 (fun H locs hP hD hS => ?_)
          have hP : va_P (dC, dI) vwCl [(o1, .inr (1, [.ref a1_0_13, .ref a1_1_13, .ref a1_2_13, .ref a1_3_13, .ref a1_4_13, .int (v1_5 + (1 : Int32))])), (a1_0_13, .inl (cyI, r_13.2.1, .inl (upd r_13.1 (Int32.toNatClampNeg v1_5) l1))), (a1_1_13, .inl (cyI, r_13.2.2.2.1, .inl (upd r_13.2.2.1 (Int32.toNatClampNeg v1_5) l2))), (a1_2_13, .inl (cyI, r_13.2.2.2.2.2.1, .inl (upd r_13.2.2.2.2.1 (Int32.toNatClampNeg v1_5) ((r_13.2.2.2.2.1 (Int32.toNatClampNeg l1)) + (1 : Int32))))), (a1_3_13, .inl (cyI, r_13.2.2.2.2.2.2.2.1, .inl (upd (upd r_13.2.2.2.2.2.2.1 (Int32.toNatClampNeg v1_5) (-1)) (Int32.toNatClampNeg l1) v1_5))), (a1_4_13, .inl (cyI, r_13.2.2.2.2.2.2.2.2.2.1, .inl (upd r_13.2.2.2.2.2.2.2.2.1 (Int32.toNatClampNeg v1_5) ((upd r_13.2.2.2.2.2.2.1 (Int32.toNatClampNeg v1_5) (-1)) (Int32.toNatClampNeg l1)))))] H := hP
          have hD : va_D A [(o1, .inr (1, [.ref a1_0_13, .ref a1_1_13, .ref a1_2_13, .ref a1_3_13, .ref a1_4_13, .int (v1_5 + (1 : Int32))])), (a1_0_13, .inl (cyI, r_13.2.1, .inl (upd r_13.1 (Int32.toNatClampNeg v1_5) l1))), (a1_1_13, .inl (cyI, r_13.2.2.2.1, .inl (upd r_13.2.2.1 (Int32.toNatClampNeg v1_5) l2))), (a1_2_13, .inl (cyI, r_13.2.2.2.2.2.1, .inl (upd r_13.2.2.2.2.1 (Int32.toNatClampNeg v1_5) ((r_13.2.2.2.2.1 (Int32.toNatClampNeg l1)) + (1 : Int32))))), (a1_3_13, .inl (cyI, r_13.2.2.2.2.2.2.2.1, .inl (upd (upd r_13.2.2.2.2.2.2.1 (Int32.toNatClampNeg v1_5) (-1)) (Int32.toNatClampNeg l1) v1_5))), (a1_4_13, .inl (cyI, r_13.2.2.2.2.2.2.2.2.2.1, .inl (upd r_13.2.2.2.2.2.2.2.2.1 (Int32.toNatClampNeg v1_5) ((upd r_13.2.2.2.2.2.2.1 (Int32.toNatClampNeg v1_5) (-1)) (Int32.toNatClampNeg l1)))))] := hD
          obtain rfl := Option.some.inj hf
          dsimp only at hR
          clear hRc hRs
          subst hR
          have hP9 := hP.sub (ws' := [(o1, .inr (1, [.ref a1_0_13, .ref a1_1_13, .ref a1_2_13, .ref a1_3_13, .ref a1_4_13, .int (v1_5 + (1 : Int32))])), (a1_0_13, .inl (cyI, r_13.2.1, .inl (upd r_13.1 (Int32.toNatClampNeg v1_5) l1))), (a1_1_13, .inl (cyI, r_13.2.2.2.1, .inl (upd r_13.2.2.1 (Int32.toNatClampNeg v1_5) l2))), (a1_2_13, .inl (cyI, r_13.2.2.2.2.2.1, .inl (upd r_13.2.2.2.2.1 (Int32.toNatClampNeg v1_5) ((r_13.2.2.2.2.1 (Int32.toNatClampNeg l1)) + (1 : Int32))))), (a1_3_13, .inl (cyI, r_13.2.2.2.2.2.2.2.1, .inl (upd (upd r_13.2.2.2.2.2.2.1 (Int32.toNatClampNeg v1_5) (-1)) (Int32.toNatClampNeg l1) v1_5))), (a1_4_13, .inl (cyI, r_13.2.2.2.2.2.2.2.2.2.1, .inl (upd r_13.2.2.2.2.2.2.2.2.1 (Int32.toNatClampNeg v1_5) ((upd r_13.2.2.2.2.2.2.1 (Int32.toNatClampNeg v1_5) (-1)) (Int32.toNatClampNeg l1)))))]) [0, 1, 2, 3, 4, 5] rfl
          have hD9 := hD.sub (ws' := [(o1, .inr (1, [.ref a1_0_13, .ref a1_1_13, .ref a1_2_13, .ref a1_3_13, .ref a1_4_13, .int (v1_5 + (1 : Int32))])), (a1_0_13, .inl (cyI, r_13.2.1, .inl (upd r_13.1 (Int32.toNatClampNeg v1_5) l1))), (a1_1_13, .inl (cyI, r_13.2.2.2.1, .inl (upd r_13.2.2.1 (Int32.toNatClampNeg v1_5) l2))), (a1_2_13, .inl (cyI, r_13.2.2.2.2.2.1, .inl (upd r_13.2.2.2.2.1 (Int32.toNatClampNeg v1_5) ((r_13.2.2.2.2.1 (Int32.toNatClampNeg l1)) + (1 : Int32))))), (a1_3_13, .inl (cyI, r_13.2.2.2.2.2.2.2.1, .inl (upd (upd r_13.2.2.2.2.2.2.1 (Int32.toNatClampNeg v1_5) (-1)) (Int32.toNatClampNeg l1) v1_5))), (a1_4_13, .inl (cyI, r_13.2.2.2.2.2.2.2.2.2.1, .inl (upd r_13.2.2.2.2.2.2.2.2.1 (Int32.toNatClampNeg v1_5) ((upd r_13.2.2.2.2.2.2.1 (Int32.toNatClampNeg v1_5) (-1)) (Int32.toNatClampNeg l1)))))]) [0, 1, 2, 3, 4, 5] (by decide) rfl
          refine W.widen (k := 0 + r_13.2.2.2.2.2.2.2.2.2.2.1 + zc) (n := 0 + r_13.2.2.2.2.2.2.2.2.2.2.2 + zs) (by omega) (by omega) ?_
          exact W.iret hx hb hr (fun t ht hW => ⟨⟨_, (), rfl, rfl, a1_0_13, a1_1_13, a1_2_13, a1_3_13, a1_4_13, by rw [ht]; exact hP9, va_K.moved hW.alike hK, hD9⟩, hS.F ht⟩) hS.2.2 dX1_with_136
        · replace hf := x_in c_12 hf
          refine lv_aload_n hx hb dX1_with_24 rfl (lv_at hl 0 rfl) ?_
          refine va_get (D := (dC, dI)) (ci := 1) (v := .ref a1_1) (C := RX1) (T := TX1) (N := 6) hx hb hts i_X1_with_X1 hown hK hP 0 rfl rfl 1 (by decide) k_3 (fun _ h9 => h9) rfl dX1_with_25 ?_
          refine lv_iload_n hx hb dX1_with_28 rfl (lv_at hl 3 rfl) ?_
          replace hf := x_gu hf
          obtain ⟨g_23, hf⟩ := hf
          refine va_iald hx hb hK hP 2 0 rfl rfl (x_gdin g_23) dX1_with_29 ?_
          refine lv_iload_n hx hb dX1_with_30 rfl (lv_at hl 2 rfl) ?_
          refine lv_icmp_ne (tgt := 36) hx hb dX1_with_31 (by decide) (fun c_24 => ?_) (fun c_24 => ?_)
          · replace hf := x_in c_24 hf
            refine lv_aload_n hx hb dX1_with_36 rfl (lv_at hl 0 rfl) ?_
            refine va_get (D := (dC, dI)) (ci := 1) (v := .ref a1_4) (C := RX1) (T := TX1) (N := 6) hx hb hts i_X1_with_X1 hown hK hP 0 rfl rfl 4 (by decide) k_6 (fun _ h9 => h9) rfl dX1_with_37 ?_
            refine lv_iload_n hx hb dX1_with_40 rfl (lv_at hl 3 rfl) ?_
            replace hf := x_gu hf
            obtain ⟨g_25, hf⟩ := hf
            refine va_iald hx hb hK hP 5 0 rfl rfl (x_gdin g_25) dX1_with_41 ?_
            refine lv_istore_n (lv' := [(3, .int (g1_4 (Int32.toNatClampNeg l3))), (0, .ref o1), (1, .int l1), (2, .int l2), (4, .int l4)]) hx hb dX1_with_42 rfl hl (by decide) rfl (fun ls hl => ?_)
            refine lv_iinc (v := (l4 + 1)) (lv' := [(4, .int (l4 + 1)), (3, .int (g1_4 (Int32.toNatClampNeg l3))), (0, .ref o1), (1, .int l1), (2, .int l2)]) hx hb dX1_with_43 hl (k := 4) rfl rfl (by decide) rfl (fun ls hl => ?_)
            refine lv_goto (tgt := 10) hx hb dX1_with_46 (by decide) ?_
            exact (hWW _ _ _ _ _).mpr ((ih (0, g1_4 (Int32.toNatClampNeg l3), l4 + 1) _ hf zc zs (hR.trans (by first | rfl | simp only [Nat.add_assoc, Nat.add_comm, Nat.add_left_comm, Nat.add_zero, Nat.zero_add])) _ _ _ rfl) rfl a1_0 a1_1 a1_2 a1_3 a1_4 H locs ls hP hD hS (lv_sub hl [2, 3, 4, 1, 0] rfl))
          · replace hf := x_ip c_24 hf
            refine lv_iload_n hx hb dX1_with_34 rfl (lv_at hl 3 rfl) ?_
            obtain rfl := Option.some.inj hf
            dsimp only at hR
            clear hRc hRs
            subst hR
            have hP9 := hP.sub (ws' := [(o1, .inr (1, [.ref a1_0, .ref a1_1, .ref a1_2, .ref a1_3, .ref a1_4, .int v1_5])), (a1_0, .inl (cyI, n1_0, .inl g1_0)), (a1_1, .inl (cyI, n1_1, .inl g1_1)), (a1_2, .inl (cyI, n1_2, .inl g1_2)), (a1_3, .inl (cyI, n1_3, .inl g1_3)), (a1_4, .inl (cyI, n1_4, .inl g1_4))]) [0, 1, 2, 3, 4, 5] rfl
            have hD9 := hD.sub (ws' := [(o1, .inr (1, [.ref a1_0, .ref a1_1, .ref a1_2, .ref a1_3, .ref a1_4, .int v1_5])), (a1_0, .inl (cyI, n1_0, .inl g1_0)), (a1_1, .inl (cyI, n1_1, .inl g1_1)), (a1_2, .inl (cyI, n1_2, .inl g1_2)), (a1_3, .inl (cyI, n1_3, .inl g1_3)), (a1_4, .inl (cyI, n1_4, .inl g1_4))]) [0, 1, 2, 3, 4, 5] (by decide) rfl
            refine W.widen (k := 0 + zc) (n := 0 + zs) (by omega) (by omega) ?_
            exact W.iret hx hb hr (fun t ht hW => ⟨⟨_, (), rfl, rfl, a1_0, a1_1, a1_2, a1_3, a1_4, by rw [ht]; exact hP9, va_K.moved hW.alike hK, hD9⟩, hS.F ht⟩) hS.2.2 dX1_with_35)
  obtain ⟨Z_0, hZ0⟩ : ∃ z, z = R := ⟨_, rfl⟩
  rw [← hZ0] at hf
  have hR : R = (Z_0.1, Z_0.2.1, Z_0.2.2.1, Z_0.2.2.2.1, Z_0.2.2.2.2.1, Z_0.2.2.2.2.2.1, Z_0.2.2.2.2.2.2.1, Z_0.2.2.2.2.2.2.2.1, Z_0.2.2.2.2.2.2.2.2.1, Z_0.2.2.2.2.2.2.2.2.2.1, Z_0.2.2.2.2.2.2.2.2.2.2.1, Z_0.2.2.2.2.2.2.2.2.2.2.2.1, Z_0.2.2.2.2.2.2.2.2.2.2.2.2.1 + 0, Z_0.2.2.2.2.2.2.2.2.2.2.2.2.2 + 0) := by subst hZ0; rfl
  clear hZ0
  have hRc := congrArg (fun z => z.2.2.2.2.2.2.2.2.2.2.2.2.1) hR
  have hRs := congrArg (fun z => z.2.2.2.2.2.2.2.2.2.2.2.2.2) hR
  dsimp only at hRc hRs
  refine lv_aload_n hx hb dX1_with_0 rfl (lv_at hl 0 rfl) ?_
  refine va_get (D := (dC, dI)) (ci := 1) (v := .ref a1_3) (C := RX1) (T := TX1) (N := 6) hx hb hts i_X1_with_X1 hown hK hP 0 rfl rfl 3 (by decide) k_5 (fun _ h9 => h9) rfl dX1_with_1 ?_
  refine lv_iload_n hx hb dX1_with_4 rfl (lv_at hl 1 rfl) ?_
  replace hf := x_gu hf
  obtain ⟨g_26, hf⟩ := hf
  refine va_iald hx hb hK hP 4 0 rfl rfl (x_gdin g_26) dX1_with_5 ?_
  refine lv_istore_n (lv' := [(3, .int (g1_3 (Int32.toNatClampNeg p1))), (0, .ref o1), (1, .int p1), (2, .int p2)]) hx hb dX1_with_6 rfl hl (by decide) rfl (fun ls hl => ?_)
  refine lv_iconst (v := 0) hx hb dX1_with_7 (by decide) ?_
  refine lv_istore (lv' := [(4, .int 0), (3, .int (g1_3 (Int32.toNatClampNeg p1))), (0, .ref o1), (1, .int p1), (2, .int p2)]) hx hb dX1_with_8 hl (by decide) rfl (fun ls hl => ?_)
  exact (hWW _ _ _ _ _).mpr ((J p1 p2 v1_5 g1_0 n1_0 g1_1 n1_1 g1_2 n1_2 g1_3 n1_3 g1_4 n1_4 (0, g1_3 (Int32.toNatClampNeg p1), 0) _ hf 0 0 (hR.trans (by first | rfl | simp only [Nat.add_assoc, Nat.add_comm, Nat.add_left_comm, Nat.add_zero, Nat.zero_add])) _ _ _ rfl) rfl a1_0 a1_1 a1_2 a1_3 a1_4 H locs ls hP hD hS (lv_sub hl [2, 3, 4, 1, 0] rfl))

def f_X1_addressAt_L (g1_0 : Nat → Int32) (n1_0 : Nat) (g1_1 : Nat → Int32) (n1_1 : Nat) (g1_2 : Nat → Int32) (n1_2 : Nat) (l2 : Int32) (z : Nat × Int32 × Int32) : Option (Int32) := match z with
  | (q, l3, l4) => if q = 0 then if (16 : Int32) ≤ l4 then if x_gd l3 n1_1 = true then some (g1_1 (Int32.toNatClampNeg l3)) else none else if x_gd l3 n1_2 = true then if (g1_2 (Int32.toNatClampNeg l3)) ≤ (l2 + (1 : Int32)) then if x_gd l3 n1_1 = true then some (g1_1 (Int32.toNatClampNeg l3)) else none else if x_gd l3 n1_0 = true then (f_X1_addressAt_L g1_0 n1_0 g1_1 n1_1 g1_2 n1_2 l2 (0, g1_0 (Int32.toNatClampNeg l3), l4 + 1)) else none else none else none
partial_fixpoint
def f_X1_addressAt (g1_0 : Nat → Int32) (n1_0 : Nat) (g1_1 : Nat → Int32) (n1_1 : Nat) (g1_2 : Nat → Int32) (n1_2 : Nat) (p1 : Int32) (p2 : Int32) : Option (Int32) := (f_X1_addressAt_L g1_0 n1_0 g1_1 n1_1 g1_2 n1_2 p2 (0, p1, 0))
theorem i_X1_addressAt_X1 : ∀ w ∈ wsX10, w ∈ wsX1_addressAt := fun _ h => List.mem_cons_of_mem _ (List.mem_append_right _ h)
set_option maxHeartbeats 4000000 in
set_option maxRecDepth 100000 in
theorem c_X1_addressAt (l : Launch) (dC : Nat → ClassId) (dI : Nat → Nat → Nat) (cyI cyZ cyJ : ClassId) (sz : Nat) (o1 : Nat) (a1_0 : Nat) (a1_1 : Nat) (a1_2 : Nat) (a1_3 : Nat) (a1_4 : Nat) (v1_5 : Int32) (g1_0 : Nat → Int32) (n1_0 : Nat) (g1_1 : Nat → Int32) (n1_1 : Nat) (g1_2 : Nat → Int32) (n1_2 : Nat) (p1 : Int32) (p2 : Int32) (R : Int32) (hf : f_X1_addressAt g1_0 n1_0 g1_1 n1_1 g1_2 n1_2 p1 p2 = some R) : Met l yX1_addressAt wsX1_addressAt ({ frames := 0, cells := 0, slots := 0, locals := 0 }) (va_Pc [.ref o1, .int p1, .int p2] (x_Pre (dC, dI) (x_T cyI cyZ cyJ) [(o1, .inr (1, [.ref a1_0, .ref a1_1, .ref a1_2, .ref a1_3, .ref a1_4, .int v1_5])), (a1_0, .inl (cyI, n1_0, .inl g1_0)), (a1_1, .inl (cyI, n1_1, .inl g1_1)), (a1_2, .inl (cyI, n1_2, .inl g1_2))] sz)) (va_Qi (fun (r : Int32) (_ : Unit) => r = R) (fun _ _ => True) (x_new sz)) 0 0 (x_new sz) := by
  refine Met.ofW (cc := cX1_addressAt) (maxL := 5) (ret := (some .int)) (by decide) rfl ?_
  intro p e s m args below meth c s₁ B hml hv
  obtain ⟨rfl, hsz, hP, hK, hN⟩ := hv
  have hx := B.exec
  have hb := B.bytes
  have hr := B.returns
  have hts := atoms_spec (ws := wsX1_addressAt) B.pre
  have hown : s.vm.findClass RX1 = some m.cls := findClass_of_methodNamed B.named
  have k_1 := hts (.fieldLink RX1 15 "FlowJudge$Contexts" "addresses" "[I") (by decide +kernel)
  have k_2 := hts (.fieldLink RX1 18 "FlowJudge$Contexts" "lengths" "[I") (by decide +kernel)
  have k_3 := hts (.fieldLink RX1 9 "FlowJudge$Contexts" "parents" "[I") (by decide +kernel)
  subst hsz
  have hA : ∀ q : Nat, s.heap.size ≤ q → x_new s.heap.size q := fun _ h => h
  have hS : va_S (x_new s.heap.size) s.heap s.heap [] := va_S.rf
  have hP : va_P (dC, dI) vwCl [(o1, .inr (1, [.ref a1_0, .ref a1_1, .ref a1_2, .ref a1_3, .ref a1_4, .int v1_5])), (a1_0, .inl (cyI, n1_0, .inl g1_0)), (a1_1, .inl (cyI, n1_1, .inl g1_1)), (a1_2, .inl (cyI, n1_2, .inl g1_2))] s.heap := hP
  have hl := lv_entry ([.ref o1, .int p1, .int p2]) (n := 5) (Nat.le_of_ble_eq_true rfl)
  rw [lg_entry_eq]
  generalize (lg_sl ([.ref o1, .int p1, .int p2]) ++ List.replicate (5 - (lg_sl ([.ref o1, .int p1, .int p2])).length) Slot.unset).toArray = ls at hl ⊢
  have hl : lv_has ls 5 [(0, .ref o1), (1, .int p1), (2, .int p2)] := hl
  obtain ⟨H, hH⟩ : ∃ z, z = s.heap := ⟨_, rfl⟩
  refine x_here hH ?_
  have hP : va_P (dC, dI) vwCl [(o1, .inr (1, [.ref a1_0, .ref a1_1, .ref a1_2, .ref a1_3, .ref a1_4, .int v1_5])), (a1_0, .inl (cyI, n1_0, .inl g1_0)), (a1_1, .inl (cyI, n1_1, .inl g1_1)), (a1_2, .inl (cyI, n1_2, .inl g1_2))] H := by rw [hH]; exact hP
  have hS : va_S (x_new s.heap.size) s.heap H [] := by rw [hH]; exact va_S.rf
  clear hH
  obtain ⟨locs, hlo⟩ : ∃ z : List Loc, z = [] := ⟨_, rfl⟩
  refine x_herl hlo ?_
  have hS : va_S (x_new s.heap.size) s.heap H locs := by rw [hlo]; exact hS
  clear hlo
  unfold f_X1_addressAt at hf
  refine x_wn (fun WW hWW => ?_)
  have J := fun (l2 : Int32) => f_X1_addressAt_L.partial_correctness g1_0 n1_0 g1_1 n1_1 g1_2 n1_2 l2 (fun (z : Nat × Int32 × Int32) (r : Int32) => r = R → ∀ (q : Nat) (l3 : Int32) (l4 : Int32), z = (q, l3, l4) → ((q = 0 → ∀ (H : Heap) (locs : List Loc) (ls : Array Slot), va_P (dC, dI) vwCl [(o1, .inr (1, [.ref a1_0, .ref a1_1, .ref a1_2, .ref a1_3, .ref a1_4, .int v1_5])), (a1_0, .inl (cyI, n1_0, .inl g1_0)), (a1_1, .inl (cyI, n1_1, .inl g1_1)), (a1_2, .inl (cyI, n1_2, .inl g1_2))] H → va_S (x_new s.heap.size) s.heap H locs → lv_has ls 5 [(0, .ref o1), (2, .int l2), (3, .int l3), (4, .int l4)] → WW H locs 0 0 (F0 m 5 ls [])))) (by
    intro F ih z r hf hr q l3 l4 hz
    subst hz
    obtain rfl := hr
    · intro hq H locs ls hP hS hl
      subst hq
      refine (hWW _ _ _ _ _).mp ?_
      replace hf := x_ip rfl hf
      refine lv_iload hx hb dX1_addressAt_5 (lv_at hl 3 rfl) ?_
      refine lv_bipush (v := 16) hx hb dX1_addressAt_7 (by decide) ?_
      refine lv_icmp_ge (tgt := 37) hx hb dX1_addressAt_9 (by decide) (fun c_1 => ?_) (fun c_1 => ?_)
      · replace hf := x_ip c_1 hf
        refine lv_aload_n hx hb dX1_addressAt_37 rfl (lv_at hl 0 rfl) ?_
        refine va_get (D := (dC, dI)) (ci := 1) (v := .ref a1_1) (C := RX1) (T := TX1) (N := 6) hx hb hts i_X1_addressAt_X1 hown hK hP 0 rfl rfl 1 (by decide) k_1 (fun _ h9 => h9) rfl dX1_addressAt_38 ?_
        refine lv_iload_n hx hb dX1_addressAt_41 rfl (lv_at hl 2 rfl) ?_
        obtain ⟨g_2, hf⟩ := x_gu hf
        refine va_iald hx hb hK hP 2 0 rfl rfl (x_gdin g_2) dX1_addressAt_42 ?_
        obtain rfl := Option.some.inj hf
        exact W.iret hx hb hr (fun t ht hW => ⟨⟨_, (), rfl, rfl, trivial⟩, hS.F ht⟩) hS.2.2 dX1_addressAt_43
      · replace hf := x_in c_1 hf
        refine lv_aload_n hx hb dX1_addressAt_12 rfl (lv_at hl 0 rfl) ?_
        refine va_get (D := (dC, dI)) (ci := 1) (v := .ref a1_2) (C := RX1) (T := TX1) (N := 6) hx hb hts i_X1_addressAt_X1 hown hK hP 0 rfl rfl 2 (by decide) k_2 (fun _ h9 => h9) rfl dX1_addressAt_13 ?_
        refine lv_iload_n hx hb dX1_addressAt_16 rfl (lv_at hl 2 rfl) ?_
        obtain ⟨g_3, hf⟩ := x_gu hf
        refine va_iald hx hb hK hP 3 0 rfl rfl (x_gdin g_3) dX1_addressAt_17 ?_
        refine lv_iload_n hx hb dX1_addressAt_18 rfl (lv_at hl 1 rfl) ?_
        refine lv_iconst (v := 1) hx hb dX1_addressAt_19 (by decide) ?_
        refine lv_iadd hx hb dX1_addressAt_20 ?_
        refine lv_icmp_le (tgt := 37) hx hb dX1_addressAt_21 (by decide) (fun c_4 => ?_) (fun c_4 => ?_)
        · replace hf := x_ip c_4 hf
          refine lv_aload_n hx hb dX1_addressAt_37 rfl (lv_at hl 0 rfl) ?_
          refine va_get (D := (dC, dI)) (ci := 1) (v := .ref a1_1) (C := RX1) (T := TX1) (N := 6) hx hb hts i_X1_addressAt_X1 hown hK hP 0 rfl rfl 1 (by decide) k_1 (fun _ h9 => h9) rfl dX1_addressAt_38 ?_
          refine lv_iload_n hx hb dX1_addressAt_41 rfl (lv_at hl 2 rfl) ?_
          obtain ⟨g_5, hf⟩ := x_gu hf
          refine va_iald hx hb hK hP 2 0 rfl rfl (x_gdin g_5) dX1_addressAt_42 ?_
          obtain rfl := Option.some.inj hf
          exact W.iret hx hb hr (fun t ht hW => ⟨⟨_, (), rfl, rfl, trivial⟩, hS.F ht⟩) hS.2.2 dX1_addressAt_43
        · replace hf := x_in c_4 hf
          refine lv_aload_n hx hb dX1_addressAt_24 rfl (lv_at hl 0 rfl) ?_
          refine va_get (D := (dC, dI)) (ci := 1) (v := .ref a1_0) (C := RX1) (T := TX1) (N := 6) hx hb hts i_X1_addressAt_X1 hown hK hP 0 rfl rfl 0 (by decide) k_3 (fun _ h9 => h9) rfl dX1_addressAt_25 ?_
          refine lv_iload_n hx hb dX1_addressAt_28 rfl (lv_at hl 2 rfl) ?_
          obtain ⟨g_6, hf⟩ := x_gu hf
          refine va_iald hx hb hK hP 1 0 rfl rfl (x_gdin g_6) dX1_addressAt_29 ?_
          refine lv_istore_n (lv' := [(3, .int (g1_0 (Int32.toNatClampNeg l3))), (0, .ref o1), (2, .int l2), (4, .int l4)]) hx hb dX1_addressAt_30 rfl hl (by decide) rfl (fun ls hl => ?_)
          refine lv_iinc (v := (l4 + 1)) (lv' := [(4, .int (l4 + 1)), (3, .int (g1_0 (Int32.toNatClampNeg l3))), (0, .ref o1), (2, .int l2)]) hx hb dX1_addressAt_31 hl (k := 3) rfl rfl (by decide) rfl (fun ls hl => ?_)
          refine lv_goto (tgt := 5) hx hb dX1_addressAt_34 (by decide) ?_
          exact (hWW _ _ _ _ _).mpr ((ih (0, g1_0 (Int32.toNatClampNeg l3), l4 + 1) _ hf rfl _ _ _ rfl) rfl H locs ls hP hS (lv_sub hl [2, 3, 1, 0] rfl)))
  refine lv_iload_n hx hb dX1_addressAt_0 rfl (lv_at hl 1 rfl) ?_
  refine lv_istore_n (lv' := [(3, .int p1), (0, .ref o1), (1, .int p1), (2, .int p2)]) hx hb dX1_addressAt_1 rfl hl (by decide) rfl (fun ls hl => ?_)
  refine lv_iconst (v := 0) hx hb dX1_addressAt_2 (by decide) ?_
  refine lv_istore (lv' := [(4, .int 0), (3, .int p1), (0, .ref o1), (1, .int p1), (2, .int p2)]) hx hb dX1_addressAt_3 hl (by decide) rfl (fun ls hl => ?_)
  exact (hWW _ _ _ _ _).mpr ((J p2 (0, p1, 0) _ hf rfl _ _ _ rfl) rfl H locs ls hP hS (lv_sub hl [2, 4, 1, 0] rfl))

def f_X1_isBefore_L (g1_0 : Nat → Int32) (n1_0 : Nat) (g1_1 : Nat → Int32) (n1_1 : Nat) (g1_2 : Nat → Int32) (n1_2 : Nat) (z : Nat × Int32 × Int32 × Int32 × Int32 × Int32) : Option (Int32) := match z with
  | (q, l1, l2, l3, l4, l5) => if q = 0 then if (16 : Int32) ≤ l5 then (f_X1_isBefore_L g1_0 n1_0 g1_1 n1_1 g1_2 n1_2 (1, l1, l2, l3, l4, 0)) else if x_gd l3 n1_2 = true then if x_gd l4 n1_2 = true then if (g1_2 (Int32.toNatClampNeg l3)) ≤ (g1_2 (Int32.toNatClampNeg l4)) then (f_X1_isBefore_L g1_0 n1_0 g1_1 n1_1 g1_2 n1_2 (1, l1, l2, l3, l4, 0)) else if x_gd l3 n1_0 = true then (f_X1_isBefore_L g1_0 n1_0 g1_1 n1_1 g1_2 n1_2 (0, l1, l2, g1_0 (Int32.toNatClampNeg l3), l4, l5 + 1)) else none else none else none else if q = 1 then if (16 : Int32) ≤ l5 then if l3 = l4 then if x_gd l1 n1_2 = true then if x_gd l2 n1_2 = true then if (g1_2 (Int32.toNatClampNeg l2)) ≤ (g1_2 (Int32.toNatClampNeg l1)) then some 0 else some 1 else none else none else (f_X1_isBefore_L g1_0 n1_0 g1_1 n1_1 g1_2 n1_2 (2, 0, 0, l3, l4, 0)) else if x_gd l4 n1_2 = true then if x_gd l3 n1_2 = true then if (g1_2 (Int32.toNatClampNeg l4)) ≤ (g1_2 (Int32.toNatClampNeg l3)) then if l3 = l4 then if x_gd l1 n1_2 = true then if x_gd l2 n1_2 = true then if (g1_2 (Int32.toNatClampNeg l2)) ≤ (g1_2 (Int32.toNatClampNeg l1)) then some 0 else some 1 else none else none else (f_X1_isBefore_L g1_0 n1_0 g1_1 n1_1 g1_2 n1_2 (2, 0, 0, l3, l4, 0)) else if x_gd l4 n1_0 = true then (f_X1_isBefore_L g1_0 n1_0 g1_1 n1_1 g1_2 n1_2 (1, l1, l2, l3, g1_0 (Int32.toNatClampNeg l4), l5 + 1)) else none else none else none else if q = 2 then if (16 : Int32) ≤ l5 then if x_gd l3 n1_1 = true then if x_gd l4 n1_1 = true then if (g1_1 (Int32.toNatClampNeg l4)) ≤ (g1_1 (Int32.toNatClampNeg l3)) then some 0 else some 1 else none else none else if x_gd l3 n1_0 = true then if x_gd l4 n1_0 = true then if (g1_0 (Int32.toNatClampNeg l3)) = (g1_0 (Int32.toNatClampNeg l4)) then if x_gd l3 n1_1 = true then if x_gd l4 n1_1 = true then if (g1_1 (Int32.toNatClampNeg l4)) ≤ (g1_1 (Int32.toNatClampNeg l3)) then some 0 else some 1 else none else none else if x_gd l3 n1_0 = true then if x_gd l4 n1_0 = true then (f_X1_isBefore_L g1_0 n1_0 g1_1 n1_1 g1_2 n1_2 (2, 0, 0, g1_0 (Int32.toNatClampNeg l3), g1_0 (Int32.toNatClampNeg l4), l5 + 1)) else none else none else none else none else none
partial_fixpoint
def f_X1_isBefore (g1_0 : Nat → Int32) (n1_0 : Nat) (g1_1 : Nat → Int32) (n1_1 : Nat) (g1_2 : Nat → Int32) (n1_2 : Nat) (p1 : Int32) (p2 : Int32) : Option (Int32) := (f_X1_isBefore_L g1_0 n1_0 g1_1 n1_1 g1_2 n1_2 (0, p1, p2, p1, p2, 0))
theorem i_X1_isBefore_X1 : ∀ w ∈ wsX10, w ∈ wsX1_isBefore := fun _ h => List.mem_cons_of_mem _ (List.mem_append_right _ h)
set_option maxHeartbeats 4000000 in
set_option maxRecDepth 100000 in
theorem c_X1_isBefore (l : Launch) (dC : Nat → ClassId) (dI : Nat → Nat → Nat) (cyI cyZ cyJ : ClassId) (sz : Nat) (o1 : Nat) (a1_0 : Nat) (a1_1 : Nat) (a1_2 : Nat) (a1_3 : Nat) (a1_4 : Nat) (v1_5 : Int32) (g1_0 : Nat → Int32) (n1_0 : Nat) (g1_1 : Nat → Int32) (n1_1 : Nat) (g1_2 : Nat → Int32) (n1_2 : Nat) (p1 : Int32) (p2 : Int32) (R : Int32) (hf : f_X1_isBefore g1_0 n1_0 g1_1 n1_1 g1_2 n1_2 p1 p2 = some R) : Met l yX1_isBefore wsX1_isBefore ({ frames := 0, cells := 0, slots := 0, locals := 0 }) (va_Pc [.ref o1, .int p1, .int p2] (x_Pre (dC, dI) (x_T cyI cyZ cyJ) [(o1, .inr (1, [.ref a1_0, .ref a1_1, .ref a1_2, .ref a1_3, .ref a1_4, .int v1_5])), (a1_0, .inl (cyI, n1_0, .inl g1_0)), (a1_1, .inl (cyI, n1_1, .inl g1_1)), (a1_2, .inl (cyI, n1_2, .inl g1_2))] sz)) (va_Qi (fun (r : Int32) (_ : Unit) => r = R ∧ x_nb r) (fun _ _ => True) (x_new sz)) 0 0 (x_new sz) := by
  refine Met.ofW (cc := cX1_isBefore) (maxL := 6) (ret := (some .boolean)) (by decide) rfl ?_
  intro p e s m args below meth c s₁ B hml hv
  obtain ⟨rfl, hsz, hP, hK, hN⟩ := hv
  have hx := B.exec
  have hb := B.bytes
  have hr := B.returns
  have hts := atoms_spec (ws := wsX1_isBefore) B.pre
  have hown : s.vm.findClass RX1 = some m.cls := findClass_of_methodNamed B.named
  have k_1 := hts (.fieldLink RX1 18 "FlowJudge$Contexts" "lengths" "[I") (by decide +kernel)
  have k_2 := hts (.fieldLink RX1 9 "FlowJudge$Contexts" "parents" "[I") (by decide +kernel)
  have k_3 := hts (.fieldLink RX1 15 "FlowJudge$Contexts" "addresses" "[I") (by decide +kernel)
  subst hsz
  have hA : ∀ q : Nat, s.heap.size ≤ q → x_new s.heap.size q := fun _ h => h
  have hS : va_S (x_new s.heap.size) s.heap s.heap [] := va_S.rf
  have hP : va_P (dC, dI) vwCl [(o1, .inr (1, [.ref a1_0, .ref a1_1, .ref a1_2, .ref a1_3, .ref a1_4, .int v1_5])), (a1_0, .inl (cyI, n1_0, .inl g1_0)), (a1_1, .inl (cyI, n1_1, .inl g1_1)), (a1_2, .inl (cyI, n1_2, .inl g1_2))] s.heap := hP
  have hl := lv_entry ([.ref o1, .int p1, .int p2]) (n := 6) (Nat.le_of_ble_eq_true rfl)
  rw [lg_entry_eq]
  generalize (lg_sl ([.ref o1, .int p1, .int p2]) ++ List.replicate (6 - (lg_sl ([.ref o1, .int p1, .int p2])).length) Slot.unset).toArray = ls at hl ⊢
  have hl : lv_has ls 6 [(0, .ref o1), (1, .int p1), (2, .int p2)] := hl
  obtain ⟨H, hH⟩ : ∃ z, z = s.heap := ⟨_, rfl⟩
  refine x_here hH ?_
  have hP : va_P (dC, dI) vwCl [(o1, .inr (1, [.ref a1_0, .ref a1_1, .ref a1_2, .ref a1_3, .ref a1_4, .int v1_5])), (a1_0, .inl (cyI, n1_0, .inl g1_0)), (a1_1, .inl (cyI, n1_1, .inl g1_1)), (a1_2, .inl (cyI, n1_2, .inl g1_2))] H := by rw [hH]; exact hP
  have hS : va_S (x_new s.heap.size) s.heap H [] := by rw [hH]; exact va_S.rf
  clear hH
  obtain ⟨locs, hlo⟩ : ∃ z : List Loc, z = [] := ⟨_, rfl⟩
  refine x_herl hlo ?_
  have hS : va_S (x_new s.heap.size) s.heap H locs := by rw [hlo]; exact hS
  clear hlo
  unfold f_X1_isBefore at hf
  refine x_wn (fun WW hWW => ?_)
  have J := f_X1_isBefore_L.partial_correctness g1_0 n1_0 g1_1 n1_1 g1_2 n1_2 (fun (z : Nat × Int32 × Int32 × Int32 × Int32 × Int32) (r : Int32) => r = R → ∀ (q : Nat) (l1 : Int32) (l2 : Int32) (l3 : Int32) (l4 : Int32) (l5 : Int32), z = (q, l1, l2, l3, l4, l5) → ((q = 0 → ∀ (H : Heap) (locs : List Loc) (ls : Array Slot), va_P (dC, dI) vwCl [(o1, .inr (1, [.ref a1_0, .ref a1_1, .ref a1_2, .ref a1_3, .ref a1_4, .int v1_5])), (a1_0, .inl (cyI, n1_0, .inl g1_0)), (a1_1, .inl (cyI, n1_1, .inl g1_1)), (a1_2, .inl (cyI, n1_2, .inl g1_2))] H → va_S (x_new s.heap.size) s.heap H locs → lv_has ls 6 [(0, .ref o1), (1, .int l1), (2, .int l2), (3, .int l3), (4, .int l4), (5, .int l5)] → WW H locs 0 0 (F0 m 8 ls [])) ∧ (q = 1 → ∀ (H : Heap) (locs : List Loc) (ls : Array Slot), va_P (dC, dI) vwCl [(o1, .inr (1, [.ref a1_0, .ref a1_1, .ref a1_2, .ref a1_3, .ref a1_4, .int v1_5])), (a1_0, .inl (cyI, n1_0, .inl g1_0)), (a1_1, .inl (cyI, n1_1, .inl g1_1)), (a1_2, .inl (cyI, n1_2, .inl g1_2))] H → va_S (x_new s.heap.size) s.heap H locs → lv_has ls 6 [(0, .ref o1), (1, .int l1), (2, .int l2), (3, .int l3), (4, .int l4), (5, .int l5)] → WW H locs 0 0 (F0 m 47 ls [])) ∧ (q = 2 → ∀ (H : Heap) (locs : List Loc) (ls : Array Slot), va_P (dC, dI) vwCl [(o1, .inr (1, [.ref a1_0, .ref a1_1, .ref a1_2, .ref a1_3, .ref a1_4, .int v1_5])), (a1_0, .inl (cyI, n1_0, .inl g1_0)), (a1_1, .inl (cyI, n1_1, .inl g1_1)), (a1_2, .inl (cyI, n1_2, .inl g1_2))] H → va_S (x_new s.heap.size) s.heap H locs → lv_has ls 6 [(0, .ref o1), (3, .int l3), (4, .int l4), (5, .int l5)] → WW H locs 0 0 (F0 m 115 ls [])))) (by
    intro F ih z r hf hr q l1 l2 l3 l4 l5 hz
    subst hz
    obtain rfl := hr
    refine ⟨?_, ?_, ?_⟩
    · intro hq H locs ls hP hS hl
      subst hq
      refine (hWW _ _ _ _ _).mp ?_
      replace hf := x_ip rfl hf
      refine lv_iload hx hb dX1_isBefore_8 (lv_at hl 5 rfl) ?_
      refine lv_bipush (v := 16) hx hb dX1_isBefore_10 (by decide) ?_
      refine lv_icmp_ge (tgt := 44) hx hb dX1_isBefore_12 (by decide) (fun c_1 => ?_) (fun c_1 => ?_)
      · replace hf := x_ip c_1 hf
        refine lv_iconst (v := 0) hx hb dX1_isBefore_44 (by decide) ?_
        refine lv_istore (lv' := [(5, .int 0), (0, .ref o1), (1, .int l1), (2, .int l2), (3, .int l3), (4, .int l4)]) hx hb dX1_isBefore_45 hl (by decide) rfl (fun ls hl => ?_)
        exact (hWW _ _ _ _ _).mpr ((ih (1, l1, l2, l3, l4, 0) _ hf rfl _ _ _ _ _ _ rfl).2.1 rfl H locs ls hP hS (lv_sub hl [1, 2, 3, 4, 5, 0] rfl))
      · replace hf := x_in c_1 hf
        refine lv_aload_n hx hb dX1_isBefore_15 rfl (lv_at hl 0 rfl) ?_
        refine va_get (D := (dC, dI)) (ci := 1) (v := .ref a1_2) (C := RX1) (T := TX1) (N := 6) hx hb hts i_X1_isBefore_X1 hown hK hP 0 rfl rfl 2 (by decide) k_1 (fun _ h9 => h9) rfl dX1_isBefore_16 ?_
        refine lv_iload_n hx hb dX1_isBefore_19 rfl (lv_at hl 3 rfl) ?_
        obtain ⟨g_2, hf⟩ := x_gu hf
        refine va_iald hx hb hK hP 3 0 rfl rfl (x_gdin g_2) dX1_isBefore_20 ?_
        refine lv_aload_n hx hb dX1_isBefore_21 rfl (lv_at hl 0 rfl) ?_
        refine va_get (D := (dC, dI)) (ci := 1) (v := .ref a1_2) (C := RX1) (T := TX1) (N := 6) hx hb hts i_X1_isBefore_X1 hown hK hP 0 rfl rfl 2 (by decide) k_1 (fun _ h9 => h9) rfl dX1_isBefore_22 ?_
        refine lv_iload hx hb dX1_isBefore_25 (lv_at hl 4 rfl) ?_
        obtain ⟨g_3, hf⟩ := x_gu hf
        refine va_iald hx hb hK hP 3 0 rfl rfl (x_gdin g_3) dX1_isBefore_27 ?_
        refine lv_icmp_le (tgt := 44) hx hb dX1_isBefore_28 (by decide) (fun c_4 => ?_) (fun c_4 => ?_)
        · replace hf := x_ip c_4 hf
          refine lv_iconst (v := 0) hx hb dX1_isBefore_44 (by decide) ?_
          refine lv_istore (lv' := [(5, .int 0), (0, .ref o1), (1, .int l1), (2, .int l2), (3, .int l3), (4, .int l4)]) hx hb dX1_isBefore_45 hl (by decide) rfl (fun ls hl => ?_)
          exact (hWW _ _ _ _ _).mpr ((ih (1, l1, l2, l3, l4, 0) _ hf rfl _ _ _ _ _ _ rfl).2.1 rfl H locs ls hP hS (lv_sub hl [1, 2, 3, 4, 5, 0] rfl))
        · replace hf := x_in c_4 hf
          refine lv_aload_n hx hb dX1_isBefore_31 rfl (lv_at hl 0 rfl) ?_
          refine va_get (D := (dC, dI)) (ci := 1) (v := .ref a1_0) (C := RX1) (T := TX1) (N := 6) hx hb hts i_X1_isBefore_X1 hown hK hP 0 rfl rfl 0 (by decide) k_2 (fun _ h9 => h9) rfl dX1_isBefore_32 ?_
          refine lv_iload_n hx hb dX1_isBefore_35 rfl (lv_at hl 3 rfl) ?_
          obtain ⟨g_5, hf⟩ := x_gu hf
          refine va_iald hx hb hK hP 1 0 rfl rfl (x_gdin g_5) dX1_isBefore_36 ?_
          refine lv_istore_n (lv' := [(3, .int (g1_0 (Int32.toNatClampNeg l3))), (0, .ref o1), (1, .int l1), (2, .int l2), (4, .int l4), (5, .int l5)]) hx hb dX1_isBefore_37 rfl hl (by decide) rfl (fun ls hl => ?_)
          refine lv_iinc (v := (l5 + 1)) (lv' := [(5, .int (l5 + 1)), (3, .int (g1_0 (Int32.toNatClampNeg l3))), (0, .ref o1), (1, .int l1), (2, .int l2), (4, .int l4)]) hx hb dX1_isBefore_38 hl (k := 5) rfl rfl (by decide) rfl (fun ls hl => ?_)
          refine lv_goto (tgt := 8) hx hb dX1_isBefore_41 (by decide) ?_
          exact (hWW _ _ _ _ _).mpr ((ih (0, l1, l2, g1_0 (Int32.toNatClampNeg l3), l4, l5 + 1) _ hf rfl _ _ _ _ _ _ rfl).1 rfl H locs ls hP hS (lv_sub hl [2, 3, 4, 1, 5, 0] rfl))
    · intro hq H locs ls hP hS hl
      subst hq
      refine (hWW _ _ _ _ _).mp ?_
      replace hf := x_ip rfl (x_in (by decide) hf)
      refine lv_iload hx hb dX1_isBefore_47 (lv_at hl 5 rfl) ?_
      refine lv_bipush (v := 16) hx hb dX1_isBefore_49 (by decide) ?_
      refine lv_icmp_ge (tgt := 85) hx hb dX1_isBefore_51 (by decide) (fun c_6 => ?_) (fun c_6 => ?_)
      · replace hf := x_ip c_6 hf
        refine lv_iload_n hx hb dX1_isBefore_85 rfl (lv_at hl 3 rfl) ?_
        refine lv_iload hx hb dX1_isBefore_86 (lv_at hl 4 rfl) ?_
        refine lv_icmp_ne (tgt := 112) hx hb dX1_isBefore_88 (by decide) (fun c_7 => ?_) (fun c_7 => ?_)
        · replace hf := x_in c_7 hf
          refine lv_iconst (v := 0) hx hb dX1_isBefore_112 (by decide) ?_
          refine lv_istore (lv' := [(5, .int 0), (0, .ref o1), (1, .int l1), (2, .int l2), (3, .int l3), (4, .int l4)]) hx hb dX1_isBefore_113 hl (by decide) rfl (fun ls hl => ?_)
          exact (hWW _ _ _ _ _).mpr ((ih (2, 0, 0, l3, l4, 0) _ hf rfl _ _ _ _ _ _ rfl).2.2 rfl H locs ls hP hS (lv_sub hl [1, 4, 5, 0] rfl))
        · replace hf := x_ip c_7 hf
          refine lv_aload_n hx hb dX1_isBefore_91 rfl (lv_at hl 0 rfl) ?_
          refine va_get (D := (dC, dI)) (ci := 1) (v := .ref a1_2) (C := RX1) (T := TX1) (N := 6) hx hb hts i_X1_isBefore_X1 hown hK hP 0 rfl rfl 2 (by decide) k_1 (fun _ h9 => h9) rfl dX1_isBefore_92 ?_
          refine lv_iload_n hx hb dX1_isBefore_95 rfl (lv_at hl 1 rfl) ?_
          obtain ⟨g_8, hf⟩ := x_gu hf
          refine va_iald hx hb hK hP 3 0 rfl rfl (x_gdin g_8) dX1_isBefore_96 ?_
          refine lv_aload_n hx hb dX1_isBefore_97 rfl (lv_at hl 0 rfl) ?_
          refine va_get (D := (dC, dI)) (ci := 1) (v := .ref a1_2) (C := RX1) (T := TX1) (N := 6) hx hb hts i_X1_isBefore_X1 hown hK hP 0 rfl rfl 2 (by decide) k_1 (fun _ h9 => h9) rfl dX1_isBefore_98 ?_
          refine lv_iload_n hx hb dX1_isBefore_101 rfl (lv_at hl 2 rfl) ?_
          obtain ⟨g_9, hf⟩ := x_gu hf
          refine va_iald hx hb hK hP 3 0 rfl rfl (x_gdin g_9) dX1_isBefore_102 ?_
          refine lv_icmp_ge (tgt := 110) hx hb dX1_isBefore_103 (by decide) (fun c_10 => ?_) (fun c_10 => ?_)
          · replace hf := x_ip c_10 hf
            refine lv_iconst (v := 0) hx hb dX1_isBefore_110 (by decide) ?_
            obtain rfl := Option.some.inj hf
            exact W.zret (ty := .boolean) hx hb hr rfl (fun t ht hW => ⟨⟨_, (), rfl, ⟨rfl, rfl⟩, trivial⟩, hS.F ht⟩) hS.2.2 dX1_isBefore_111
          · replace hf := x_in c_10 hf
            refine lv_iconst (v := 1) hx hb dX1_isBefore_106 (by decide) ?_
            refine lv_goto (tgt := 111) hx hb dX1_isBefore_107 (by decide) ?_
            obtain rfl := Option.some.inj hf
            exact W.zret (ty := .boolean) hx hb hr rfl (fun t ht hW => ⟨⟨_, (), rfl, ⟨rfl, rfl⟩, trivial⟩, hS.F ht⟩) hS.2.2 dX1_isBefore_111
      · replace hf := x_in c_6 hf
        refine lv_aload_n hx hb dX1_isBefore_54 rfl (lv_at hl 0 rfl) ?_
        refine va_get (D := (dC, dI)) (ci := 1) (v := .ref a1_2) (C := RX1) (T := TX1) (N := 6) hx hb hts i_X1_isBefore_X1 hown hK hP 0 rfl rfl 2 (by decide) k_1 (fun _ h9 => h9) rfl dX1_isBefore_55 ?_
        refine lv_iload hx hb dX1_isBefore_58 (lv_at hl 4 rfl) ?_
        obtain ⟨g_11, hf⟩ := x_gu hf
        refine va_iald hx hb hK hP 3 0 rfl rfl (x_gdin g_11) dX1_isBefore_60 ?_
        refine lv_aload_n hx hb dX1_isBefore_61 rfl (lv_at hl 0 rfl) ?_
        refine va_get (D := (dC, dI)) (ci := 1) (v := .ref a1_2) (C := RX1) (T := TX1) (N := 6) hx hb hts i_X1_isBefore_X1 hown hK hP 0 rfl rfl 2 (by decide) k_1 (fun _ h9 => h9) rfl dX1_isBefore_62 ?_
        refine lv_iload_n hx hb dX1_isBefore_65 rfl (lv_at hl 3 rfl) ?_
        obtain ⟨g_12, hf⟩ := x_gu hf
        refine va_iald hx hb hK hP 3 0 rfl rfl (x_gdin g_12) dX1_isBefore_66 ?_
        refine lv_icmp_le (tgt := 85) hx hb dX1_isBefore_67 (by decide) (fun c_13 => ?_) (fun c_13 => ?_)
        · replace hf := x_ip c_13 hf
          refine lv_iload_n hx hb dX1_isBefore_85 rfl (lv_at hl 3 rfl) ?_
          refine lv_iload hx hb dX1_isBefore_86 (lv_at hl 4 rfl) ?_
          refine lv_icmp_ne (tgt := 112) hx hb dX1_isBefore_88 (by decide) (fun c_14 => ?_) (fun c_14 => ?_)
          · replace hf := x_in c_14 hf
            refine lv_iconst (v := 0) hx hb dX1_isBefore_112 (by decide) ?_
            refine lv_istore (lv' := [(5, .int 0), (0, .ref o1), (1, .int l1), (2, .int l2), (3, .int l3), (4, .int l4)]) hx hb dX1_isBefore_113 hl (by decide) rfl (fun ls hl => ?_)
            exact (hWW _ _ _ _ _).mpr ((ih (2, 0, 0, l3, l4, 0) _ hf rfl _ _ _ _ _ _ rfl).2.2 rfl H locs ls hP hS (lv_sub hl [1, 4, 5, 0] rfl))
          · replace hf := x_ip c_14 hf
            refine lv_aload_n hx hb dX1_isBefore_91 rfl (lv_at hl 0 rfl) ?_
            refine va_get (D := (dC, dI)) (ci := 1) (v := .ref a1_2) (C := RX1) (T := TX1) (N := 6) hx hb hts i_X1_isBefore_X1 hown hK hP 0 rfl rfl 2 (by decide) k_1 (fun _ h9 => h9) rfl dX1_isBefore_92 ?_
            refine lv_iload_n hx hb dX1_isBefore_95 rfl (lv_at hl 1 rfl) ?_
            obtain ⟨g_15, hf⟩ := x_gu hf
            refine va_iald hx hb hK hP 3 0 rfl rfl (x_gdin g_15) dX1_isBefore_96 ?_
            refine lv_aload_n hx hb dX1_isBefore_97 rfl (lv_at hl 0 rfl) ?_
            refine va_get (D := (dC, dI)) (ci := 1) (v := .ref a1_2) (C := RX1) (T := TX1) (N := 6) hx hb hts i_X1_isBefore_X1 hown hK hP 0 rfl rfl 2 (by decide) k_1 (fun _ h9 => h9) rfl dX1_isBefore_98 ?_
            refine lv_iload_n hx hb dX1_isBefore_101 rfl (lv_at hl 2 rfl) ?_
            obtain ⟨g_16, hf⟩ := x_gu hf
            refine va_iald hx hb hK hP 3 0 rfl rfl (x_gdin g_16) dX1_isBefore_102 ?_
            refine lv_icmp_ge (tgt := 110) hx hb dX1_isBefore_103 (by decide) (fun c_17 => ?_) (fun c_17 => ?_)
            · replace hf := x_ip c_17 hf
              refine lv_iconst (v := 0) hx hb dX1_isBefore_110 (by decide) ?_
              obtain rfl := Option.some.inj hf
              exact W.zret (ty := .boolean) hx hb hr rfl (fun t ht hW => ⟨⟨_, (), rfl, ⟨rfl, rfl⟩, trivial⟩, hS.F ht⟩) hS.2.2 dX1_isBefore_111
            · replace hf := x_in c_17 hf
              refine lv_iconst (v := 1) hx hb dX1_isBefore_106 (by decide) ?_
              refine lv_goto (tgt := 111) hx hb dX1_isBefore_107 (by decide) ?_
              obtain rfl := Option.some.inj hf
              exact W.zret (ty := .boolean) hx hb hr rfl (fun t ht hW => ⟨⟨_, (), rfl, ⟨rfl, rfl⟩, trivial⟩, hS.F ht⟩) hS.2.2 dX1_isBefore_111
        · replace hf := x_in c_13 hf
          refine lv_aload_n hx hb dX1_isBefore_70 rfl (lv_at hl 0 rfl) ?_
          refine va_get (D := (dC, dI)) (ci := 1) (v := .ref a1_0) (C := RX1) (T := TX1) (N := 6) hx hb hts i_X1_isBefore_X1 hown hK hP 0 rfl rfl 0 (by decide) k_2 (fun _ h9 => h9) rfl dX1_isBefore_71 ?_
          refine lv_iload hx hb dX1_isBefore_74 (lv_at hl 4 rfl) ?_
          obtain ⟨g_18, hf⟩ := x_gu hf
          refine va_iald hx hb hK hP 1 0 rfl rfl (x_gdin g_18) dX1_isBefore_76 ?_
          refine lv_istore (lv' := [(4, .int (g1_0 (Int32.toNatClampNeg l4))), (0, .ref o1), (1, .int l1), (2, .int l2), (3, .int l3), (5, .int l5)]) hx hb dX1_isBefore_77 hl (by decide) rfl (fun ls hl => ?_)
          refine lv_iinc (v := (l5 + 1)) (lv' := [(5, .int (l5 + 1)), (4, .int (g1_0 (Int32.toNatClampNeg l4))), (0, .ref o1), (1, .int l1), (2, .int l2), (3, .int l3)]) hx hb dX1_isBefore_79 hl (k := 5) rfl rfl (by decide) rfl (fun ls hl => ?_)
          refine lv_goto (tgt := 47) hx hb dX1_isBefore_82 (by decide) ?_
          exact (hWW _ _ _ _ _).mpr ((ih (1, l1, l2, l3, g1_0 (Int32.toNatClampNeg l4), l5 + 1) _ hf rfl _ _ _ _ _ _ rfl).2.1 rfl H locs ls hP hS (lv_sub hl [2, 3, 4, 5, 1, 0] rfl))
    · intro hq H locs ls hP hS hl
      subst hq
      refine (hWW _ _ _ _ _).mp ?_
      replace hf := x_ip rfl (x_in (by decide) (x_in (by decide) hf))
      refine lv_iload hx hb dX1_isBefore_115 (lv_at hl 3 rfl) ?_
      refine lv_bipush (v := 16) hx hb dX1_isBefore_117 (by decide) ?_
      refine lv_icmp_ge (tgt := 160) hx hb dX1_isBefore_119 (by decide) (fun c_19 => ?_) (fun c_19 => ?_)
      · replace hf := x_ip c_19 hf
        refine lv_aload_n hx hb dX1_isBefore_160 rfl (lv_at hl 0 rfl) ?_
        refine va_get (D := (dC, dI)) (ci := 1) (v := .ref a1_1) (C := RX1) (T := TX1) (N := 6) hx hb hts i_X1_isBefore_X1 hown hK hP 0 rfl rfl 1 (by decide) k_3 (fun _ h9 => h9) rfl dX1_isBefore_161 ?_
        refine lv_iload_n hx hb dX1_isBefore_164 rfl (lv_at hl 1 rfl) ?_
        obtain ⟨g_20, hf⟩ := x_gu hf
        refine va_iald hx hb hK hP 2 0 rfl rfl (x_gdin g_20) dX1_isBefore_165 ?_
        refine lv_aload_n hx hb dX1_isBefore_166 rfl (lv_at hl 0 rfl) ?_
        refine va_get (D := (dC, dI)) (ci := 1) (v := .ref a1_1) (C := RX1) (T := TX1) (N := 6) hx hb hts i_X1_isBefore_X1 hown hK hP 0 rfl rfl 1 (by decide) k_3 (fun _ h9 => h9) rfl dX1_isBefore_167 ?_
        refine lv_iload hx hb dX1_isBefore_170 (lv_at hl 2 rfl) ?_
        obtain ⟨g_21, hf⟩ := x_gu hf
        refine va_iald hx hb hK hP 2 0 rfl rfl (x_gdin g_21) dX1_isBefore_172 ?_
        refine lv_icmp_ge (tgt := 180) hx hb dX1_isBefore_173 (by decide) (fun c_22 => ?_) (fun c_22 => ?_)
        · replace hf := x_ip c_22 hf
          refine lv_iconst (v := 0) hx hb dX1_isBefore_180 (by decide) ?_
          obtain rfl := Option.some.inj hf
          exact W.zret (ty := .boolean) hx hb hr rfl (fun t ht hW => ⟨⟨_, (), rfl, ⟨rfl, rfl⟩, trivial⟩, hS.F ht⟩) hS.2.2 dX1_isBefore_181
        · replace hf := x_in c_22 hf
          refine lv_iconst (v := 1) hx hb dX1_isBefore_176 (by decide) ?_
          refine lv_goto (tgt := 181) hx hb dX1_isBefore_177 (by decide) ?_
          obtain rfl := Option.some.inj hf
          exact W.zret (ty := .boolean) hx hb hr rfl (fun t ht hW => ⟨⟨_, (), rfl, ⟨rfl, rfl⟩, trivial⟩, hS.F ht⟩) hS.2.2 dX1_isBefore_181
      · replace hf := x_in c_19 hf
        refine lv_aload_n hx hb dX1_isBefore_122 rfl (lv_at hl 0 rfl) ?_
        refine va_get (D := (dC, dI)) (ci := 1) (v := .ref a1_0) (C := RX1) (T := TX1) (N := 6) hx hb hts i_X1_isBefore_X1 hown hK hP 0 rfl rfl 0 (by decide) k_2 (fun _ h9 => h9) rfl dX1_isBefore_123 ?_
        refine lv_iload_n hx hb dX1_isBefore_126 rfl (lv_at hl 1 rfl) ?_
        obtain ⟨g_23, hf⟩ := x_gu hf
        refine va_iald hx hb hK hP 1 0 rfl rfl (x_gdin g_23) dX1_isBefore_127 ?_
        refine lv_aload_n hx hb dX1_isBefore_128 rfl (lv_at hl 0 rfl) ?_
        refine va_get (D := (dC, dI)) (ci := 1) (v := .ref a1_0) (C := RX1) (T := TX1) (N := 6) hx hb hts i_X1_isBefore_X1 hown hK hP 0 rfl rfl 0 (by decide) k_2 (fun _ h9 => h9) rfl dX1_isBefore_129 ?_
        refine lv_iload hx hb dX1_isBefore_132 (lv_at hl 2 rfl) ?_
        obtain ⟨g_24, hf⟩ := x_gu hf
        refine va_iald hx hb hK hP 1 0 rfl rfl (x_gdin g_24) dX1_isBefore_134 ?_
        refine lv_icmp_eq (tgt := 160) hx hb dX1_isBefore_135 (by decide) (fun c_25 => ?_) (fun c_25 => ?_)
        · replace hf := x_ip c_25 hf
          refine lv_aload_n hx hb dX1_isBefore_160 rfl (lv_at hl 0 rfl) ?_
          refine va_get (D := (dC, dI)) (ci := 1) (v := .ref a1_1) (C := RX1) (T := TX1) (N := 6) hx hb hts i_X1_isBefore_X1 hown hK hP 0 rfl rfl 1 (by decide) k_3 (fun _ h9 => h9) rfl dX1_isBefore_161 ?_
          refine lv_iload_n hx hb dX1_isBefore_164 rfl (lv_at hl 1 rfl) ?_
          obtain ⟨g_26, hf⟩ := x_gu hf
          refine va_iald hx hb hK hP 2 0 rfl rfl (x_gdin g_26) dX1_isBefore_165 ?_
          refine lv_aload_n hx hb dX1_isBefore_166 rfl (lv_at hl 0 rfl) ?_
          refine va_get (D := (dC, dI)) (ci := 1) (v := .ref a1_1) (C := RX1) (T := TX1) (N := 6) hx hb hts i_X1_isBefore_X1 hown hK hP 0 rfl rfl 1 (by decide) k_3 (fun _ h9 => h9) rfl dX1_isBefore_167 ?_
          refine lv_iload hx hb dX1_isBefore_170 (lv_at hl 2 rfl) ?_
          obtain ⟨g_27, hf⟩ := x_gu hf
          refine va_iald hx hb hK hP 2 0 rfl rfl (x_gdin g_27) dX1_isBefore_172 ?_
          refine lv_icmp_ge (tgt := 180) hx hb dX1_isBefore_173 (by decide) (fun c_28 => ?_) (fun c_28 => ?_)
          · replace hf := x_ip c_28 hf
            refine lv_iconst (v := 0) hx hb dX1_isBefore_180 (by decide) ?_
            obtain rfl := Option.some.inj hf
            exact W.zret (ty := .boolean) hx hb hr rfl (fun t ht hW => ⟨⟨_, (), rfl, ⟨rfl, rfl⟩, trivial⟩, hS.F ht⟩) hS.2.2 dX1_isBefore_181
          · replace hf := x_in c_28 hf
            refine lv_iconst (v := 1) hx hb dX1_isBefore_176 (by decide) ?_
            refine lv_goto (tgt := 181) hx hb dX1_isBefore_177 (by decide) ?_
            obtain rfl := Option.some.inj hf
            exact W.zret (ty := .boolean) hx hb hr rfl (fun t ht hW => ⟨⟨_, (), rfl, ⟨rfl, rfl⟩, trivial⟩, hS.F ht⟩) hS.2.2 dX1_isBefore_181
        · replace hf := x_in c_25 hf
          refine lv_aload_n hx hb dX1_isBefore_138 rfl (lv_at hl 0 rfl) ?_
          refine va_get (D := (dC, dI)) (ci := 1) (v := .ref a1_0) (C := RX1) (T := TX1) (N := 6) hx hb hts i_X1_isBefore_X1 hown hK hP 0 rfl rfl 0 (by decide) k_2 (fun _ h9 => h9) rfl dX1_isBefore_139 ?_
          refine lv_iload_n hx hb dX1_isBefore_142 rfl (lv_at hl 1 rfl) ?_
          obtain ⟨g_29, hf⟩ := x_gu hf
          refine va_iald hx hb hK hP 1 0 rfl rfl (x_gdin g_29) dX1_isBefore_143 ?_
          refine lv_istore_n (lv' := [(3, .int (g1_0 (Int32.toNatClampNeg l3))), (0, .ref o1), (4, .int l4), (5, .int l5)]) hx hb dX1_isBefore_144 rfl hl (by decide) rfl (fun ls hl => ?_)
          refine lv_aload_n hx hb dX1_isBefore_145 rfl (lv_at hl 1 rfl) ?_
          refine va_get (D := (dC, dI)) (ci := 1) (v := .ref a1_0) (C := RX1) (T := TX1) (N := 6) hx hb hts i_X1_isBefore_X1 hown hK hP 0 rfl rfl 0 (by decide) k_2 (fun _ h9 => h9) rfl dX1_isBefore_146 ?_
          refine lv_iload hx hb dX1_isBefore_149 (lv_at hl 2 rfl) ?_
          obtain ⟨g_30, hf⟩ := x_gu hf
          refine va_iald hx hb hK hP 1 0 rfl rfl (x_gdin g_30) dX1_isBefore_151 ?_
          refine lv_istore (lv' := [(4, .int (g1_0 (Int32.toNatClampNeg l4))), (3, .int (g1_0 (Int32.toNatClampNeg l3))), (0, .ref o1), (5, .int l5)]) hx hb dX1_isBefore_152 hl (by decide) rfl (fun ls hl => ?_)
          refine lv_iinc (v := (l5 + 1)) (lv' := [(5, .int (l5 + 1)), (4, .int (g1_0 (Int32.toNatClampNeg l4))), (3, .int (g1_0 (Int32.toNatClampNeg l3))), (0, .ref o1)]) hx hb dX1_isBefore_154 hl (k := 3) rfl rfl (by decide) rfl (fun ls hl => ?_)
          refine lv_goto (tgt := 115) hx hb dX1_isBefore_157 (by decide) ?_
          exact (hWW _ _ _ _ _).mpr ((ih (2, 0, 0, g1_0 (Int32.toNatClampNeg l3), g1_0 (Int32.toNatClampNeg l4), l5 + 1) _ hf rfl _ _ _ _ _ _ rfl).2.2 rfl H locs ls hP hS (lv_sub hl [3, 2, 1, 0] rfl)))
  refine lv_iload_n hx hb dX1_isBefore_0 rfl (lv_at hl 1 rfl) ?_
  refine lv_istore_n (lv' := [(3, .int p1), (0, .ref o1), (1, .int p1), (2, .int p2)]) hx hb dX1_isBefore_1 rfl hl (by decide) rfl (fun ls hl => ?_)
  refine lv_iload_n hx hb dX1_isBefore_2 rfl (lv_at hl 3 rfl) ?_
  refine lv_istore (lv' := [(4, .int p2), (3, .int p1), (0, .ref o1), (1, .int p1), (2, .int p2)]) hx hb dX1_isBefore_3 hl (by decide) rfl (fun ls hl => ?_)
  refine lv_iconst (v := 0) hx hb dX1_isBefore_5 (by decide) ?_
  refine lv_istore (lv' := [(5, .int 0), (4, .int p2), (3, .int p1), (0, .ref o1), (1, .int p1), (2, .int p2)]) hx hb dX1_isBefore_6 hl (by decide) rfl (fun ls hl => ?_)
  exact (hWW _ _ _ _ _).mpr ((J (0, p1, p2, p1, p2, 0) _ hf rfl _ _ _ _ _ _ rfl).1 rfl H locs ls hP hS (lv_sub hl [3, 4, 5, 2, 1, 0] rfl))

def f_X3_headOf (p0 : Int32) (p1 : Int32) : Option (Int32) := some ((((31 : Int32) * p1) + p0) &&& 255)
set_option maxHeartbeats 4000000 in
set_option maxRecDepth 100000 in
theorem c_X3_headOf (l : Launch) (dC : Nat → ClassId) (dI : Nat → Nat → Nat) (cyI cyZ cyJ : ClassId) (sz : Nat) (p0 : Int32) (p1 : Int32) (R : Int32) (hf : f_X3_headOf p0 p1 = some R) : Met l yX3_headOf wsX3_headOf ({ frames := 0, cells := 0, slots := 0, locals := 0 }) (va_Pc [.int p0, .int p1] (x_Pre (dC, dI) (x_T cyI cyZ cyJ) [] sz)) (va_Qi (fun (r : Int32) (_ : Unit) => r = R) (fun _ _ => True) (x_new sz)) 0 0 (x_new sz) := by
  refine Met.ofW (cc := cX3_headOf) (maxL := 2) (ret := (some .int)) (by decide) rfl ?_
  intro p e s m args below meth c s₁ B hml hv
  obtain ⟨rfl, hsz, hP, hK, hN⟩ := hv
  have hx := B.exec
  have hb := B.bytes
  have hr := B.returns
  have hts := atoms_spec (ws := wsX3_headOf) B.pre
  have hown : s.vm.findClass RX3 = some m.cls := findClass_of_methodNamed B.named
  subst hsz
  have hA : ∀ q : Nat, s.heap.size ≤ q → x_new s.heap.size q := fun _ h => h
  have hS : va_S (x_new s.heap.size) s.heap s.heap [] := va_S.rf
  have hP : va_P (dC, dI) vwCl [] s.heap := hP
  have hl := lv_entry ([.int p0, .int p1]) (n := 2) (Nat.le_of_ble_eq_true rfl)
  rw [lg_entry_eq]
  generalize (lg_sl ([.int p0, .int p1]) ++ List.replicate (2 - (lg_sl ([.int p0, .int p1])).length) Slot.unset).toArray = ls at hl ⊢
  have hl : lv_has ls 2 [(0, .int p0), (1, .int p1)] := hl
  obtain ⟨H, hH⟩ : ∃ z, z = s.heap := ⟨_, rfl⟩
  refine x_here hH ?_
  have hP : va_P (dC, dI) vwCl [] H := by rw [hH]; exact hP
  have hS : va_S (x_new s.heap.size) s.heap H [] := by rw [hH]; exact va_S.rf
  clear hH
  obtain ⟨locs, hlo⟩ : ∃ z : List Loc, z = [] := ⟨_, rfl⟩
  refine x_herl hlo ?_
  have hS : va_S (x_new s.heap.size) s.heap H locs := by rw [hlo]; exact hS
  clear hlo
  unfold f_X3_headOf at hf
  refine lv_bipush (v := 31) hx hb dX3_headOf_0 (by decide) ?_
  refine lv_iload_n hx hb dX3_headOf_2 rfl (lv_at hl 1 rfl) ?_
  refine lv_imul hx hb dX3_headOf_3 ?_
  refine lv_iload_n hx hb dX3_headOf_4 rfl (lv_at hl 0 rfl) ?_
  refine lv_iadd hx hb dX3_headOf_5 ?_
  refine lv_sipush (v := 255) hx hb dX3_headOf_6 (by decide) ?_
  refine lv_iand hx hb dX3_headOf_9 ?_
  obtain rfl := Option.some.inj hf
  exact W.iret hx hb hr (fun t ht hW => ⟨⟨_, (), rfl, rfl, trivial⟩, hS.F ht⟩) hS.2.2 dX3_headOf_10

def f_X3_clear (v3_2 : Int32) (v3_3 : Int32) (v3_4 : Int32) (v3_13 : Int32) (v3_14 : Int32) (g3_10 : Nat → Int32) (p1 : Int32) (p2 : Int32) : Option (Int32 × Int32 × Int32 × Int32 × Int32 × (Nat → Int32)) := (f_J7_fill_53178_a3_10 g3_10 (-1)) >>= (fun r_1 => some (p1, p1 + p2, 0, -1, -1, r_1))
theorem i_X3_clear_X3 : ∀ w ∈ wsX30, w ∈ wsX3_clear := fun _ h => List.mem_cons_of_mem _ (List.mem_append_right _ h)
set_option maxHeartbeats 4000000 in
set_option maxRecDepth 100000 in
theorem c_X3_clear (l : Launch) (dC : Nat → ClassId) (dI : Nat → Nat → Nat) (cyI cyZ cyJ : ClassId) (sz : Nat) (o3 : Nat) (o7 : Nat) (o1 : Nat) (v3_2 : Int32) (v3_3 : Int32) (v3_4 : Int32) (a3_5 : Nat) (a3_6 : Nat) (a3_7 : Nat) (a3_8 : Nat) (a3_9 : Nat) (a3_10 : Nat) (a3_11 : Nat) (a3_12 : Nat) (v3_13 : Int32) (v3_14 : Int32) (a3_15 : Nat) (a3_16 : Nat) (g3_10 : Nat → Int32) (p1 : Int32) (p2 : Int32) (R : Int32 × Int32 × Int32 × Int32 × Int32 × (Nat → Int32)) (hf : f_X3_clear v3_2 v3_3 v3_4 v3_13 v3_14 g3_10 p1 p2 = some R) : Met l yX3_clear wsX3_clear ({ frames := 1, cells := 0, slots := 0, locals := 23 }) (va_Pc [.ref o3, .int p1, .int p2] (x_PreD (dC, dI) (x_T cyI cyZ cyJ) [(o3, .inr (3, [.ref o7, .ref o1, .int v3_2, .int v3_3, .int v3_4, .ref a3_5, .ref a3_6, .ref a3_7, .ref a3_8, .ref a3_9, .ref a3_10, .ref a3_11, .ref a3_12, .int v3_13, .int v3_14, .ref a3_15, .ref a3_16])), (a3_10, .inl (cyI, 256, .inl g3_10))] sz)) (va_Qv (fun _ : Unit => True) (fun (_ : Unit) (t : State) => va_P (dC, dI) vwCl [(o3, .inr (3, [.ref o7, .ref o1, .int (R.1), .int (R.2.1), .int (R.2.2.1), .ref a3_5, .ref a3_6, .ref a3_7, .ref a3_8, .ref a3_9, .ref a3_10, .ref a3_11, .ref a3_12, .int (R.2.2.2.1), .int (R.2.2.2.2.1), .ref a3_15, .ref a3_16])), (a3_10, .inl (cyI, 256, .inl R.2.2.2.2.2))] t.heap ∧ va_K (dC, dI) vwCl (x_T cyI cyZ cyJ) t ∧ va_D (va_A [(o3, .inr (3, [.ref o7, .ref o1, .int v3_2, .int v3_3, .int v3_4, .ref a3_5, .ref a3_6, .ref a3_7, .ref a3_8, .ref a3_9, .ref a3_10, .ref a3_11, .ref a3_12, .int v3_13, .int v3_14, .ref a3_15, .ref a3_16])), (a3_10, .inl (cyI, 256, .inl g3_10))] sz) [(o3, .inr (3, [.ref o7, .ref o1, .int (R.1), .int (R.2.1), .int (R.2.2.1), .ref a3_5, .ref a3_6, .ref a3_7, .ref a3_8, .ref a3_9, .ref a3_10, .ref a3_11, .ref a3_12, .int (R.2.2.2.1), .int (R.2.2.2.2.1), .ref a3_15, .ref a3_16])), (a3_10, .inl (cyI, 256, .inl R.2.2.2.2.2))]) (va_A [(o3, .inr (3, [.ref o7, .ref o1, .int v3_2, .int v3_3, .int v3_4, .ref a3_5, .ref a3_6, .ref a3_7, .ref a3_8, .ref a3_9, .ref a3_10, .ref a3_11, .ref a3_12, .int v3_13, .int v3_14, .ref a3_15, .ref a3_16])), (a3_10, .inl (cyI, 256, .inl g3_10))] sz)) 0 0 (va_A [(o3, .inr (3, [.ref o7, .ref o1, .int v3_2, .int v3_3, .int v3_4, .ref a3_5, .ref a3_6, .ref a3_7, .ref a3_8, .ref a3_9, .ref a3_10, .ref a3_11, .ref a3_12, .int v3_13, .int v3_14, .ref a3_15, .ref a3_16])), (a3_10, .inl (cyI, 256, .inl g3_10))] sz) := by
  refine Met.ofW (cc := cX3_clear) (maxL := 3) (ret := none) (by decide) rfl ?_
  intro p e s m args below meth c s₁ B hml hv
  obtain ⟨rfl, ⟨hsz, hP, hK, hN⟩, hD0⟩ := hv
  have hx := B.exec
  have hb := B.bytes
  have hr := B.returns
  have hts := atoms_spec (ws := wsX3_clear) B.pre
  have hown : s.vm.findClass RX3 = some m.cls := findClass_of_methodNamed B.named
  have k_1 := hts (.fieldLink RX3 63 "FlowJudge$Frames" "locals" "I") (by decide +kernel)
  have k_2 := hts (.fieldLink RX3 66 "FlowJudge$Frames" "size" "I") (by decide +kernel)
  have k_3 := hts (.fieldLink RX3 69 "FlowJudge$Frames" "count" "I") (by decide +kernel)
  have k_4 := hts (.fieldLink RX3 36 "FlowJudge$Frames" "firstAwaited" "I") (by decide +kernel)
  have k_5 := hts (.fieldLink RX3 40 "FlowJudge$Frames" "lastAwaited" "I") (by decide +kernel)
  have k_6 := hts (.fieldLink RX3 27 "FlowJudge$Frames" "heads" "[I") (by decide +kernel)
  subst hsz
  have hD := hD0.self (sz := s.heap.size)
  generalize hAe : va_A [(o3, .inr (3, [.ref o7, .ref o1, .int v3_2, .int v3_3, .int v3_4, .ref a3_5, .ref a3_6, .ref a3_7, .ref a3_8, .ref a3_9, .ref a3_10, .ref a3_11, .ref a3_12, .int v3_13, .int v3_14, .ref a3_15, .ref a3_16])), (a3_10, .inl (cyI, 256, .inl g3_10))] s.heap.size = A at hD ⊢
  have hA : ∀ q : Nat, s.heap.size ≤ q → A q := fun q h => by rw [← hAe]; exact Or.inr h
  have hP : va_P (dC, dI) vwCl [(o3, .inr (3, [.ref o7, .ref o1, .int v3_2, .int v3_3, .int v3_4, .ref a3_5, .ref a3_6, .ref a3_7, .ref a3_8, .ref a3_9, .ref a3_10, .ref a3_11, .ref a3_12, .int v3_13, .int v3_14, .ref a3_15, .ref a3_16])), (a3_10, .inl (cyI, 256, .inl g3_10))] s.heap := hP
  have hl := lv_entry ([.ref o3, .int p1, .int p2]) (n := 3) (Nat.le_of_ble_eq_true rfl)
  rw [lg_entry_eq]
  generalize (lg_sl ([.ref o3, .int p1, .int p2]) ++ List.replicate (3 - (lg_sl ([.ref o3, .int p1, .int p2])).length) Slot.unset).toArray = ls at hl ⊢
  have hl : lv_has ls 3 [(0, .ref o3), (1, .int p1), (2, .int p2)] := hl
  obtain ⟨H, hH⟩ : ∃ z, z = s.heap := ⟨_, rfl⟩
  refine x_here hH ?_
  have hP : va_P (dC, dI) vwCl [(o3, .inr (3, [.ref o7, .ref o1, .int v3_2, .int v3_3, .int v3_4, .ref a3_5, .ref a3_6, .ref a3_7, .ref a3_8, .ref a3_9, .ref a3_10, .ref a3_11, .ref a3_12, .int v3_13, .int v3_14, .ref a3_15, .ref a3_16])), (a3_10, .inl (cyI, 256, .inl g3_10))] H := by rw [hH]; exact hP
  have hS : va_S A s.heap H [] := by rw [hH]; exact va_S.rf
  clear hH
  obtain ⟨locs, hlo⟩ : ∃ z : List Loc, z = [] := ⟨_, rfl⟩
  refine x_herl hlo ?_
  have hS : va_S A s.heap H locs := by rw [hlo]; exact hS
  clear hlo
  unfold f_X3_clear at hf
  refine lv_aload_n hx hb dX3_clear_0 rfl (lv_at hl 0 rfl) ?_
  refine lv_iload_n hx hb dX3_clear_1 rfl (lv_at hl 1 rfl) ?_
  refine va_put (D := (dC, dI)) (ci := 3) (v := .int p1) (ty := .int) (C := RX3) (T := TX3) (N := 17) hx hb hts i_X3_clear_X3 tyX3 tyX3_ok nmX3 hown hK hP hD hS 0 rfl rfl 2 (by decide) k_1 (fun _ h9 => h9) rfl (by decide +kernel) rfl rfl (Nat.le_of_ble_eq_true rfl) dX3_clear_2 (fun H locs hP hD hS => ?_)
  have hP : va_P (dC, dI) vwCl [(o3, .inr (3, [.ref o7, .ref o1, .int p1, .int v3_3, .int v3_4, .ref a3_5, .ref a3_6, .ref a3_7, .ref a3_8, .ref a3_9, .ref a3_10, .ref a3_11, .ref a3_12, .int v3_13, .int v3_14, .ref a3_15, .ref a3_16])), (a3_10, .inl (cyI, 256, .inl g3_10))] H := hP
  have hD : va_D A [(o3, .inr (3, [.ref o7, .ref o1, .int p1, .int v3_3, .int v3_4, .ref a3_5, .ref a3_6, .ref a3_7, .ref a3_8, .ref a3_9, .ref a3_10, .ref a3_11, .ref a3_12, .int v3_13, .int v3_14, .ref a3_15, .ref a3_16])), (a3_10, .inl (cyI, 256, .inl g3_10))] := hD
  refine lv_aload_n hx hb dX3_clear_5 rfl (lv_at hl 0 rfl) ?_
  refine lv_iload_n hx hb dX3_clear_6 rfl (lv_at hl 1 rfl) ?_
  refine lv_iload_n hx hb dX3_clear_7 rfl (lv_at hl 2 rfl) ?_
  refine lv_iadd hx hb dX3_clear_8 ?_
  refine va_put (D := (dC, dI)) (ci := 3) (v := .int (p1 + p2)) (ty := .int) (C := RX3) (T := TX3) (N := 17) hx hb hts i_X3_clear_X3 tyX3 tyX3_ok nmX3 hown hK hP hD hS 0 rfl rfl 3 (by decide) k_2 (fun _ h9 => h9) rfl (by decide +kernel) rfl rfl (Nat.le_of_ble_eq_true rfl) dX3_clear_9 (fun H locs hP hD hS => ?_)
  have hP : va_P (dC, dI) vwCl [(o3, .inr (3, [.ref o7, .ref o1, .int p1, .int (p1 + p2), .int v3_4, .ref a3_5, .ref a3_6, .ref a3_7, .ref a3_8, .ref a3_9, .ref a3_10, .ref a3_11, .ref a3_12, .int v3_13, .int v3_14, .ref a3_15, .ref a3_16])), (a3_10, .inl (cyI, 256, .inl g3_10))] H := hP
  have hD : va_D A [(o3, .inr (3, [.ref o7, .ref o1, .int p1, .int (p1 + p2), .int v3_4, .ref a3_5, .ref a3_6, .ref a3_7, .ref a3_8, .ref a3_9, .ref a3_10, .ref a3_11, .ref a3_12, .int v3_13, .int v3_14, .ref a3_15, .ref a3_16])), (a3_10, .inl (cyI, 256, .inl g3_10))] := hD
  refine lv_aload_n hx hb dX3_clear_12 rfl (lv_at hl 0 rfl) ?_
  refine lv_iconst (v := 0) hx hb dX3_clear_13 (by decide) ?_
  refine va_put (D := (dC, dI)) (ci := 3) (v := .int 0) (ty := .int) (C := RX3) (T := TX3) (N := 17) hx hb hts i_X3_clear_X3 tyX3 tyX3_ok nmX3 hown hK hP hD hS 0 rfl rfl 4 (by decide) k_3 (fun _ h9 => h9) rfl (by decide +kernel) rfl rfl (Nat.le_of_ble_eq_true rfl) dX3_clear_14 (fun H locs hP hD hS => ?_)
  have hP : va_P (dC, dI) vwCl [(o3, .inr (3, [.ref o7, .ref o1, .int p1, .int (p1 + p2), .int 0, .ref a3_5, .ref a3_6, .ref a3_7, .ref a3_8, .ref a3_9, .ref a3_10, .ref a3_11, .ref a3_12, .int v3_13, .int v3_14, .ref a3_15, .ref a3_16])), (a3_10, .inl (cyI, 256, .inl g3_10))] H := hP
  have hD : va_D A [(o3, .inr (3, [.ref o7, .ref o1, .int p1, .int (p1 + p2), .int 0, .ref a3_5, .ref a3_6, .ref a3_7, .ref a3_8, .ref a3_9, .ref a3_10, .ref a3_11, .ref a3_12, .int v3_13, .int v3_14, .ref a3_15, .ref a3_16])), (a3_10, .inl (cyI, 256, .inl g3_10))] := hD
  refine lv_aload_n hx hb dX3_clear_17 rfl (lv_at hl 0 rfl) ?_
  refine lv_iconst (v := (-1)) hx hb dX3_clear_18 (by decide) ?_
  refine va_put (D := (dC, dI)) (ci := 3) (v := .int (-1)) (ty := .int) (C := RX3) (T := TX3) (N := 17) hx hb hts i_X3_clear_X3 tyX3 tyX3_ok nmX3 hown hK hP hD hS 0 rfl rfl 13 (by decide) k_4 (fun _ h9 => h9) rfl (by decide +kernel) rfl rfl (Nat.le_of_ble_eq_true rfl) dX3_clear_19 (fun H locs hP hD hS => ?_)
  have hP : va_P (dC, dI) vwCl [(o3, .inr (3, [.ref o7, .ref o1, .int p1, .int (p1 + p2), .int 0, .ref a3_5, .ref a3_6, .ref a3_7, .ref a3_8, .ref a3_9, .ref a3_10, .ref a3_11, .ref a3_12, .int (-1), .int v3_14, .ref a3_15, .ref a3_16])), (a3_10, .inl (cyI, 256, .inl g3_10))] H := hP
  have hD : va_D A [(o3, .inr (3, [.ref o7, .ref o1, .int p1, .int (p1 + p2), .int 0, .ref a3_5, .ref a3_6, .ref a3_7, .ref a3_8, .ref a3_9, .ref a3_10, .ref a3_11, .ref a3_12, .int (-1), .int v3_14, .ref a3_15, .ref a3_16])), (a3_10, .inl (cyI, 256, .inl g3_10))] := hD
  refine lv_aload_n hx hb dX3_clear_22 rfl (lv_at hl 0 rfl) ?_
  refine lv_iconst (v := (-1)) hx hb dX3_clear_23 (by decide) ?_
  refine va_put (D := (dC, dI)) (ci := 3) (v := .int (-1)) (ty := .int) (C := RX3) (T := TX3) (N := 17) hx hb hts i_X3_clear_X3 tyX3 tyX3_ok nmX3 hown hK hP hD hS 0 rfl rfl 14 (by decide) k_5 (fun _ h9 => h9) rfl (by decide +kernel) rfl rfl (Nat.le_of_ble_eq_true rfl) dX3_clear_24 (fun H locs hP hD hS => ?_)
  have hP : va_P (dC, dI) vwCl [(o3, .inr (3, [.ref o7, .ref o1, .int p1, .int (p1 + p2), .int 0, .ref a3_5, .ref a3_6, .ref a3_7, .ref a3_8, .ref a3_9, .ref a3_10, .ref a3_11, .ref a3_12, .int (-1), .int (-1), .ref a3_15, .ref a3_16])), (a3_10, .inl (cyI, 256, .inl g3_10))] H := hP
  have hD : va_D A [(o3, .inr (3, [.ref o7, .ref o1, .int p1, .int (p1 + p2), .int 0, .ref a3_5, .ref a3_6, .ref a3_7, .ref a3_8, .ref a3_9, .ref a3_10, .ref a3_11, .ref a3_12, .int (-1), .int (-1), .ref a3_15, .ref a3_16])), (a3_10, .inl (cyI, 256, .inl g3_10))] := hD
  refine lv_aload_n hx hb dX3_clear_27 rfl (lv_at hl 0 rfl) ?_
  refine va_get (D := (dC, dI)) (ci := 3) (v := .ref a3_10) (C := RX3) (T := TX3) (N := 17) hx hb hts i_X3_clear_X3 hown hK hP 0 rfl rfl 10 (by decide) k_6 (fun _ h9 => h9) rfl dX3_clear_28 ?_
  refine lv_iconst (v := (-1)) hx hb dX3_clear_31 (by decide) ?_
  obtain ⟨r_1, h_1, hf⟩ := x_bi hf
  have hPc := hP.sub (ws' := [(a3_10, .inl (cyI, 256, .inl g3_10))]) [1] rfl
  have hDc := hD.sub (ws' := [(a3_10, .inl (cyI, 256, .inl g3_10))]) [1] (by decide) rfl
  have hFc := va_free (wc := [(a3_10, .inl (cyI, 256, .inl g3_10))]) hD hS hA [1] rfl
  refine va_callv (va_runS (As := [.ref a3_10, .int (-1)]) (rest := []) ⟨hx, hb, hml, hown, hts⟩ (c_J7_fill_53178_a3_10 l dC dI cyI cyZ cyJ H.size a3_10 g3_10 (-1) r_1 h_1) (va_cwS 2 hts gX3_clear_J7_fill_53178 rfl rfl rfl (by decide +kernel) ⟨Nat.le_of_ble_eq_true rfl, Nat.le_of_ble_eq_true rfl⟩) (x_pSD hN hK hPc hDc) rfl rfl hl.1 rfl (lv_room (Nat.le_of_ble_eq_true rfl)) dX3_clear_32 ⟨Nat.le_of_ble_eq_true rfl, Nat.le_of_ble_eq_true rfl⟩) hS (fun q _ h => hFc q h) hFc (fun u t H1 locs ht hvm hw hB hz1 hk1 hS => ?_)
  obtain ⟨hP1, hK1, hD1⟩ := hB
  rw [ht] at hP1
  obtain ⟨hP, hD⟩ := va_join (wr := [(o3, .inr (3, [.ref o7, .ref o1, .int p1, .int (p1 + p2), .int 0, .ref a3_5, .ref a3_6, .ref a3_7, .ref a3_8, .ref a3_9, .ref a3_10, .ref a3_11, .ref a3_12, .int (-1), .int (-1), .ref a3_15, .ref a3_16]))]) (w1 := [(a3_10, .inl (cyI, 256, .inl r_1))]) hP hD [1] [0] rfl rfl (by decide) (by decide) hk1 hFc hP1 hD1
  clear hz1 hk1 hPc hDc hFc hP1 hK1 hD1 ht hvm t u
  generalize H1 = H at hP hS ⊢
  have hP : va_P (dC, dI) vwCl [(o3, .inr (3, [.ref o7, .ref o1, .int p1, .int (p1 + p2), .int 0, .ref a3_5, .ref a3_6, .ref a3_7, .ref a3_8, .ref a3_9, .ref a3_10, .ref a3_11, .ref a3_12, .int (-1), .int (-1), .ref a3_15, .ref a3_16])), (a3_10, .inl (cyI, 256, .inl r_1))] H := hP
  have hD : va_D A [(o3, .inr (3, [.ref o7, .ref o1, .int p1, .int (p1 + p2), .int 0, .ref a3_5, .ref a3_6, .ref a3_7, .ref a3_8, .ref a3_9, .ref a3_10, .ref a3_11, .ref a3_12, .int (-1), .int (-1), .ref a3_15, .ref a3_16])), (a3_10, .inl (cyI, 256, .inl r_1))] := hD
  obtain rfl := Option.some.inj hf
  have hP9 := hP.sub (ws' := [(o3, .inr (3, [.ref o7, .ref o1, .int p1, .int (p1 + p2), .int 0, .ref a3_5, .ref a3_6, .ref a3_7, .ref a3_8, .ref a3_9, .ref a3_10, .ref a3_11, .ref a3_12, .int (-1), .int (-1), .ref a3_15, .ref a3_16])), (a3_10, .inl (cyI, 256, .inl r_1))]) [0, 1] rfl
  have hD9 := hD.sub (ws' := [(o3, .inr (3, [.ref o7, .ref o1, .int p1, .int (p1 + p2), .int 0, .ref a3_5, .ref a3_6, .ref a3_7, .ref a3_8, .ref a3_9, .ref a3_10, .ref a3_11, .ref a3_12, .int (-1), .int (-1), .ref a3_15, .ref a3_16])), (a3_10, .inl (cyI, 256, .inl r_1))]) [0, 1] (by decide) rfl
  exact W.vret hx hb hr (fun t ht hW => ⟨⟨(), rfl, trivial, by rw [ht]; exact hP9, va_K.moved hW.alike hK, hD9⟩, hS.F ht⟩) hS.2.2 dX3_clear_35

def f_X3_find_L (v3_4 : Int32) (g3_6 : Nat → Int32) (n3_6 : Nat) (g3_7 : Nat → Int32) (n3_7 : Nat) (g3_10 : Nat → Int32) (g3_11 : Nat → Int32) (n3_11 : Nat) (l1 : Int32) (l2 : Int32) (z : Nat × Int32 × Int32) : Option (Int32) := match z with
  | (q, l3, l4) => if q = 0 then if v3_4 ≤ l4 then some (-1) else if l3 = (-1 : Int32) then some (-1) else if x_gd l3 n3_6 = true then if (g3_6 (Int32.toNatClampNeg l3)) = l1 then if x_gd l3 n3_7 = true then if (g3_7 (Int32.toNatClampNeg l3)) = l2 then some l3 else if x_gd l3 n3_11 = true then (f_X3_find_L v3_4 g3_6 n3_6 g3_7 n3_7 g3_10 g3_11 n3_11 l1 l2 (0, g3_11 (Int32.toNatClampNeg l3), l4 + 1)) else none else none else if x_gd l3 n3_11 = true then (f_X3_find_L v3_4 g3_6 n3_6 g3_7 n3_7 g3_10 g3_11 n3_11 l1 l2 (0, g3_11 (Int32.toNatClampNeg l3), l4 + 1)) else none else none else none
partial_fixpoint
def f_X3_find (v3_4 : Int32) (g3_6 : Nat → Int32) (n3_6 : Nat) (g3_7 : Nat → Int32) (n3_7 : Nat) (g3_10 : Nat → Int32) (g3_11 : Nat → Int32) (n3_11 : Nat) (p1 : Int32) (p2 : Int32) : Option (Int32) := (f_X3_headOf p1 p2) >>= (fun r_9 => if x_gd r_9 256 = true then (f_X3_find_L v3_4 g3_6 n3_6 g3_7 n3_7 g3_10 g3_11 n3_11 p1 p2 (0, g3_10 (Int32.toNatClampNeg r_9), 0)) else none)
theorem i_X3_find_X3 : ∀ w ∈ wsX30, w ∈ wsX3_find := fun _ h => List.mem_cons_of_mem _ (List.mem_append_right _ h)
set_option maxHeartbeats 4000000 in
set_option maxRecDepth 100000 in
theorem c_X3_find (l : Launch) (dC : Nat → ClassId) (dI : Nat → Nat → Nat) (cyI cyZ cyJ : ClassId) (sz : Nat) (o3 : Nat) (o7 : Nat) (o1 : Nat) (v3_2 : Int32) (v3_3 : Int32) (v3_4 : Int32) (a3_5 : Nat) (a3_6 : Nat) (a3_7 : Nat) (a3_8 : Nat) (a3_9 : Nat) (a3_10 : Nat) (a3_11 : Nat) (a3_12 : Nat) (v3_13 : Int32) (v3_14 : Int32) (a3_15 : Nat) (a3_16 : Nat) (g3_6 : Nat → Int32) (n3_6 : Nat) (g3_7 : Nat → Int32) (n3_7 : Nat) (g3_10 : Nat → Int32) (g3_11 : Nat → Int32) (n3_11 : Nat) (p1 : Int32) (p2 : Int32) (R : Int32) (hf : f_X3_find v3_4 g3_6 n3_6 g3_7 n3_7 g3_10 g3_11 n3_11 p1 p2 = some R) : Met l yX3_find wsX3_find ({ frames := 1, cells := 0, slots := 0, locals := 21 }) (va_Pc [.ref o3, .int p1, .int p2] (x_Pre (dC, dI) (x_T cyI cyZ cyJ) [(o3, .inr (3, [.ref o7, .ref o1, .int v3_2, .int v3_3, .int v3_4, .ref a3_5, .ref a3_6, .ref a3_7, .ref a3_8, .ref a3_9, .ref a3_10, .ref a3_11, .ref a3_12, .int v3_13, .int v3_14, .ref a3_15, .ref a3_16])), (a3_6, .inl (cyI, n3_6, .inl g3_6)), (a3_7, .inl (cyI, n3_7, .inl g3_7)), (a3_10, .inl (cyI, 256, .inl g3_10)), (a3_11, .inl (cyI, n3_11, .inl g3_11))] sz)) (va_Qi (fun (r : Int32) (_ : Unit) => r = R) (fun _ _ => True) (x_new sz)) 0 0 (x_new sz) := by
  refine Met.ofW (cc := cX3_find) (maxL := 5) (ret := (some .int)) (by decide) rfl ?_
  intro p e s m args below meth c s₁ B hml hv
  obtain ⟨rfl, hsz, hP, hK, hN⟩ := hv
  have hx := B.exec
  have hb := B.bytes
  have hr := B.returns
  have hts := atoms_spec (ws := wsX3_find) B.pre
  have hown : s.vm.findClass RX3 = some m.cls := findClass_of_methodNamed B.named
  have k_1 := hts (.fieldLink RX3 69 "FlowJudge$Frames" "count" "I") (by decide +kernel)
  have k_2 := hts (.fieldLink RX3 15 "FlowJudge$Frames" "targets" "[I") (by decide +kernel)
  have k_3 := hts (.fieldLink RX3 30 "FlowJudge$Frames" "nextOfHead" "[I") (by decide +kernel)
  have k_4 := hts (.fieldLink RX3 18 "FlowJudge$Frames" "ways" "[I") (by decide +kernel)
  have k_5 := hts (.fieldLink RX3 27 "FlowJudge$Frames" "heads" "[I") (by decide +kernel)
  subst hsz
  have hA : ∀ q : Nat, s.heap.size ≤ q → x_new s.heap.size q := fun _ h => h
  have hS : va_S (x_new s.heap.size) s.heap s.heap [] := va_S.rf
  have hP : va_P (dC, dI) vwCl [(o3, .inr (3, [.ref o7, .ref o1, .int v3_2, .int v3_3, .int v3_4, .ref a3_5, .ref a3_6, .ref a3_7, .ref a3_8, .ref a3_9, .ref a3_10, .ref a3_11, .ref a3_12, .int v3_13, .int v3_14, .ref a3_15, .ref a3_16])), (a3_6, .inl (cyI, n3_6, .inl g3_6)), (a3_7, .inl (cyI, n3_7, .inl g3_7)), (a3_10, .inl (cyI, 256, .inl g3_10)), (a3_11, .inl (cyI, n3_11, .inl g3_11))] s.heap := hP
  have hl := lv_entry ([.ref o3, .int p1, .int p2]) (n := 5) (Nat.le_of_ble_eq_true rfl)
  rw [lg_entry_eq]
  generalize (lg_sl ([.ref o3, .int p1, .int p2]) ++ List.replicate (5 - (lg_sl ([.ref o3, .int p1, .int p2])).length) Slot.unset).toArray = ls at hl ⊢
  have hl : lv_has ls 5 [(0, .ref o3), (1, .int p1), (2, .int p2)] := hl
  obtain ⟨H, hH⟩ : ∃ z, z = s.heap := ⟨_, rfl⟩
  refine x_here hH ?_
  have hP : va_P (dC, dI) vwCl [(o3, .inr (3, [.ref o7, .ref o1, .int v3_2, .int v3_3, .int v3_4, .ref a3_5, .ref a3_6, .ref a3_7, .ref a3_8, .ref a3_9, .ref a3_10, .ref a3_11, .ref a3_12, .int v3_13, .int v3_14, .ref a3_15, .ref a3_16])), (a3_6, .inl (cyI, n3_6, .inl g3_6)), (a3_7, .inl (cyI, n3_7, .inl g3_7)), (a3_10, .inl (cyI, 256, .inl g3_10)), (a3_11, .inl (cyI, n3_11, .inl g3_11))] H := by rw [hH]; exact hP
  have hS : va_S (x_new s.heap.size) s.heap H [] := by rw [hH]; exact va_S.rf
  clear hH
  obtain ⟨locs, hlo⟩ : ∃ z : List Loc, z = [] := ⟨_, rfl⟩
  refine x_herl hlo ?_
  have hS : va_S (x_new s.heap.size) s.heap H locs := by rw [hlo]; exact hS
  clear hlo
  unfold f_X3_find at hf
  refine x_wn (fun WW hWW => ?_)
  have J := fun (l1 : Int32) (l2 : Int32) => f_X3_find_L.partial_correctness v3_4 g3_6 n3_6 g3_7 n3_7 g3_10 g3_11 n3_11 l1 l2 (fun (z : Nat × Int32 × Int32) (r : Int32) => r = R → ∀ (q : Nat) (l3 : Int32) (l4 : Int32), z = (q, l3, l4) → ((q = 0 → ∀ (H : Heap) (locs : List Loc) (ls : Array Slot), va_P (dC, dI) vwCl [(o3, .inr (3, [.ref o7, .ref o1, .int v3_2, .int v3_3, .int v3_4, .ref a3_5, .ref a3_6, .ref a3_7, .ref a3_8, .ref a3_9, .ref a3_10, .ref a3_11, .ref a3_12, .int v3_13, .int v3_14, .ref a3_15, .ref a3_16])), (a3_6, .inl (cyI, n3_6, .inl g3_6)), (a3_7, .inl (cyI, n3_7, .inl g3_7)), (a3_10, .inl (cyI, 256, .inl g3_10)), (a3_11, .inl (cyI, n3_11, .inl g3_11))] H → va_S (x_new s.heap.size) s.heap H locs → lv_has ls 5 [(0, .ref o3), (1, .int l1), (2, .int l2), (3, .int l3), (4, .int l4)] → WW H locs 0 0 (F0 m 14 ls [])))) (by
    intro F ih z r hf hr q l3 l4 hz
    subst hz
    obtain rfl := hr
    · intro hq H locs ls hP hS hl
      subst hq
      refine (hWW _ _ _ _ _).mp ?_
      replace hf := x_ip rfl hf
      refine lv_iload hx hb dX3_find_14 (lv_at hl 4 rfl) ?_
      refine lv_aload_n hx hb dX3_find_16 rfl (lv_at hl 0 rfl) ?_
      refine va_get (D := (dC, dI)) (ci := 3) (v := .int v3_4) (C := RX3) (T := TX3) (N := 17) hx hb hts i_X3_find_X3 hown hK hP 0 rfl rfl 4 (by decide) k_1 (fun _ h9 => h9) rfl dX3_find_17 ?_
      refine lv_icmp_ge (tgt := 63) hx hb dX3_find_20 (by decide) (fun c_1 => ?_) (fun c_1 => ?_)
      · replace hf := x_ip c_1 hf
        refine lv_iconst (v := (-1)) hx hb dX3_find_63 (by decide) ?_
        obtain rfl := Option.some.inj hf
        exact W.iret hx hb hr (fun t ht hW => ⟨⟨_, (), rfl, rfl, trivial⟩, hS.F ht⟩) hS.2.2 dX3_find_64
      · replace hf := x_in c_1 hf
        refine lv_iload_n hx hb dX3_find_23 rfl (lv_at hl 3 rfl) ?_
        refine lv_iconst (v := (-1)) hx hb dX3_find_24 (by decide) ?_
        refine lv_icmp_eq (tgt := 63) hx hb dX3_find_25 (by decide) (fun c_2 => ?_) (fun c_2 => ?_)
        · replace hf := x_ip c_2 hf
          refine lv_iconst (v := (-1)) hx hb dX3_find_63 (by decide) ?_
          obtain rfl := Option.some.inj hf
          exact W.iret hx hb hr (fun t ht hW => ⟨⟨_, (), rfl, rfl, trivial⟩, hS.F ht⟩) hS.2.2 dX3_find_64
        · replace hf := x_in c_2 hf
          refine lv_aload_n hx hb dX3_find_28 rfl (lv_at hl 0 rfl) ?_
          refine va_get (D := (dC, dI)) (ci := 3) (v := .ref a3_6) (C := RX3) (T := TX3) (N := 17) hx hb hts i_X3_find_X3 hown hK hP 0 rfl rfl 6 (by decide) k_2 (fun _ h9 => h9) rfl dX3_find_29 ?_
          refine lv_iload_n hx hb dX3_find_32 rfl (lv_at hl 3 rfl) ?_
          obtain ⟨g_3, hf⟩ := x_gu hf
          refine va_iald hx hb hK hP 1 0 rfl rfl (x_gdin g_3) dX3_find_33 ?_
          refine lv_iload_n hx hb dX3_find_34 rfl (lv_at hl 1 rfl) ?_
          refine lv_icmp_ne (tgt := 50) hx hb dX3_find_35 (by decide) (fun c_4 => ?_) (fun c_4 => ?_)
          · replace hf := x_in c_4 hf
            refine lv_aload_n hx hb dX3_find_50 rfl (lv_at hl 0 rfl) ?_
            refine va_get (D := (dC, dI)) (ci := 3) (v := .ref a3_11) (C := RX3) (T := TX3) (N := 17) hx hb hts i_X3_find_X3 hown hK hP 0 rfl rfl 11 (by decide) k_3 (fun _ h9 => h9) rfl dX3_find_51 ?_
            refine lv_iload_n hx hb dX3_find_54 rfl (lv_at hl 3 rfl) ?_
            obtain ⟨g_5, hf⟩ := x_gu hf
            refine va_iald hx hb hK hP 4 0 rfl rfl (x_gdin g_5) dX3_find_55 ?_
            refine lv_istore_n (lv' := [(3, .int (g3_11 (Int32.toNatClampNeg l3))), (0, .ref o3), (1, .int l1), (2, .int l2), (4, .int l4)]) hx hb dX3_find_56 rfl hl (by decide) rfl (fun ls hl => ?_)
            refine lv_iinc (v := (l4 + 1)) (lv' := [(4, .int (l4 + 1)), (3, .int (g3_11 (Int32.toNatClampNeg l3))), (0, .ref o3), (1, .int l1), (2, .int l2)]) hx hb dX3_find_57 hl (k := 4) rfl rfl (by decide) rfl (fun ls hl => ?_)
            refine lv_goto (tgt := 14) hx hb dX3_find_60 (by decide) ?_
            exact (hWW _ _ _ _ _).mpr ((ih (0, g3_11 (Int32.toNatClampNeg l3), l4 + 1) _ hf rfl _ _ _ rfl) rfl H locs ls hP hS (lv_sub hl [2, 3, 4, 1, 0] rfl))
          · replace hf := x_ip c_4 hf
            refine lv_aload_n hx hb dX3_find_38 rfl (lv_at hl 0 rfl) ?_
            refine va_get (D := (dC, dI)) (ci := 3) (v := .ref a3_7) (C := RX3) (T := TX3) (N := 17) hx hb hts i_X3_find_X3 hown hK hP 0 rfl rfl 7 (by decide) k_4 (fun _ h9 => h9) rfl dX3_find_39 ?_
            refine lv_iload_n hx hb dX3_find_42 rfl (lv_at hl 3 rfl) ?_
            obtain ⟨g_6, hf⟩ := x_gu hf
            refine va_iald hx hb hK hP 2 0 rfl rfl (x_gdin g_6) dX3_find_43 ?_
            refine lv_iload_n hx hb dX3_find_44 rfl (lv_at hl 2 rfl) ?_
            refine lv_icmp_ne (tgt := 50) hx hb dX3_find_45 (by decide) (fun c_7 => ?_) (fun c_7 => ?_)
            · replace hf := x_in c_7 hf
              refine lv_aload_n hx hb dX3_find_50 rfl (lv_at hl 0 rfl) ?_
              refine va_get (D := (dC, dI)) (ci := 3) (v := .ref a3_11) (C := RX3) (T := TX3) (N := 17) hx hb hts i_X3_find_X3 hown hK hP 0 rfl rfl 11 (by decide) k_3 (fun _ h9 => h9) rfl dX3_find_51 ?_
              refine lv_iload_n hx hb dX3_find_54 rfl (lv_at hl 3 rfl) ?_
              obtain ⟨g_8, hf⟩ := x_gu hf
              refine va_iald hx hb hK hP 4 0 rfl rfl (x_gdin g_8) dX3_find_55 ?_
              refine lv_istore_n (lv' := [(3, .int (g3_11 (Int32.toNatClampNeg l3))), (0, .ref o3), (1, .int l1), (2, .int l2), (4, .int l4)]) hx hb dX3_find_56 rfl hl (by decide) rfl (fun ls hl => ?_)
              refine lv_iinc (v := (l4 + 1)) (lv' := [(4, .int (l4 + 1)), (3, .int (g3_11 (Int32.toNatClampNeg l3))), (0, .ref o3), (1, .int l1), (2, .int l2)]) hx hb dX3_find_57 hl (k := 4) rfl rfl (by decide) rfl (fun ls hl => ?_)
              refine lv_goto (tgt := 14) hx hb dX3_find_60 (by decide) ?_
              exact (hWW _ _ _ _ _).mpr ((ih (0, g3_11 (Int32.toNatClampNeg l3), l4 + 1) _ hf rfl _ _ _ rfl) rfl H locs ls hP hS (lv_sub hl [2, 3, 4, 1, 0] rfl))
            · replace hf := x_ip c_7 hf
              refine lv_iload_n hx hb dX3_find_48 rfl (lv_at hl 3 rfl) ?_
              obtain rfl := Option.some.inj hf
              exact W.iret hx hb hr (fun t ht hW => ⟨⟨_, (), rfl, rfl, trivial⟩, hS.F ht⟩) hS.2.2 dX3_find_49)
  refine lv_aload_n hx hb dX3_find_0 rfl (lv_at hl 0 rfl) ?_
  refine va_get (D := (dC, dI)) (ci := 3) (v := .ref a3_10) (C := RX3) (T := TX3) (N := 17) hx hb hts i_X3_find_X3 hown hK hP 0 rfl rfl 10 (by decide) k_5 (fun _ h9 => h9) rfl dX3_find_1 ?_
  refine lv_iload_n hx hb dX3_find_4 rfl (lv_at hl 1 rfl) ?_
  refine lv_iload_n hx hb dX3_find_5 rfl (lv_at hl 2 rfl) ?_
  obtain ⟨r_9, h_9, hf⟩ := x_bi hf
  have hPc := hP.sub (ws' := []) [] rfl
  refine va_calli (va_runS (As := [.int p1, .int p2]) (rest := [.ref a3_10]) ⟨hx, hb, hml, hown, hts⟩ (c_X3_headOf l dC dI cyI cyZ cyJ H.size p1 p2 r_9 h_9) (va_cwS 2 hts gX3_find_X3_headOf rfl rfl rfl (by decide +kernel) ⟨Nat.le_of_ble_eq_true rfl, Nat.le_of_ble_eq_true rfl⟩) (x_pS hN hK hPc) rfl rfl hl.1 rfl (lv_room (Nat.le_of_ble_eq_true rfl)) dX3_find_6 ⟨Nat.le_of_ble_eq_true rfl, Nat.le_of_ble_eq_true rfl⟩) hS x_nA (x_nf hA hS) (fun q_9 u t H1 locs ht hvm hw hB hz1 hk1 hS => ?_)
  have hP := x_kp hP hk1
  clear ht hvm hB hz1 hk1 t u hPc
  generalize H1 = H at hP hS ⊢
  obtain rfl := hw.symm
  obtain ⟨g_10, hf⟩ := x_gu hf
  refine va_iald hx hb hK hP 3 0 rfl rfl (x_gdin g_10) dX3_find_9 ?_
  refine lv_istore_n (lv' := [(3, .int (g3_10 (Int32.toNatClampNeg r_9))), (0, .ref o3), (1, .int p1), (2, .int p2)]) hx hb dX3_find_10 rfl hl (by decide) rfl (fun ls hl => ?_)
  refine lv_iconst (v := 0) hx hb dX3_find_11 (by decide) ?_
  refine lv_istore (lv' := [(4, .int 0), (3, .int (g3_10 (Int32.toNatClampNeg r_9))), (0, .ref o3), (1, .int p1), (2, .int p2)]) hx hb dX3_find_12 hl (by decide) rfl (fun ls hl => ?_)
  exact (hWW _ _ _ _ _).mpr ((J p1 p2 (0, g3_10 (Int32.toNatClampNeg r_9), 0) _ hf rfl _ _ _ rfl) rfl H locs ls hP hS (lv_sub hl [2, 3, 4, 1, 0] rfl))

def f_X3_isFull (v3_3 : Int32) (v3_4 : Int32) : Option (Int32) := if ((v3_4 + (1 : Int32)) * (v3_3 + (1 : Int32))) ≤ (20000 : Int32) then some 0 else some 1
theorem i_X3_isFull_X3 : ∀ w ∈ wsX30, w ∈ wsX3_isFull := fun _ h => List.mem_cons_of_mem _ (List.mem_append_right _ h)
set_option maxHeartbeats 4000000 in
set_option maxRecDepth 100000 in
theorem c_X3_isFull (l : Launch) (dC : Nat → ClassId) (dI : Nat → Nat → Nat) (cyI cyZ cyJ : ClassId) (sz : Nat) (o3 : Nat) (o7 : Nat) (o1 : Nat) (v3_2 : Int32) (v3_3 : Int32) (v3_4 : Int32) (a3_5 : Nat) (a3_6 : Nat) (a3_7 : Nat) (a3_8 : Nat) (a3_9 : Nat) (a3_10 : Nat) (a3_11 : Nat) (a3_12 : Nat) (v3_13 : Int32) (v3_14 : Int32) (a3_15 : Nat) (a3_16 : Nat) (R : Int32) (hf : f_X3_isFull v3_3 v3_4 = some R) : Met l yX3_isFull wsX3_isFull ({ frames := 0, cells := 0, slots := 0, locals := 0 }) (va_Pc [.ref o3] (x_Pre (dC, dI) (x_T cyI cyZ cyJ) [(o3, .inr (3, [.ref o7, .ref o1, .int v3_2, .int v3_3, .int v3_4, .ref a3_5, .ref a3_6, .ref a3_7, .ref a3_8, .ref a3_9, .ref a3_10, .ref a3_11, .ref a3_12, .int v3_13, .int v3_14, .ref a3_15, .ref a3_16]))] sz)) (va_Qi (fun (r : Int32) (_ : Unit) => r = R ∧ x_nb r) (fun _ _ => True) (x_new sz)) 0 0 (x_new sz) := by
  refine Met.ofW (cc := cX3_isFull) (maxL := 1) (ret := (some .boolean)) (by decide) rfl ?_
  intro p e s m args below meth c s₁ B hml hv
  obtain ⟨rfl, hsz, hP, hK, hN⟩ := hv
  have hx := B.exec
  have hb := B.bytes
  have hr := B.returns
  have hts := atoms_spec (ws := wsX3_isFull) B.pre
  have hown : s.vm.findClass RX3 = some m.cls := findClass_of_methodNamed B.named
  have k_1 := hts (.fieldLink RX3 69 "FlowJudge$Frames" "count" "I") (by decide +kernel)
  have k_2 := hts (.fieldLink RX3 66 "FlowJudge$Frames" "size" "I") (by decide +kernel)
  subst hsz
  have hA : ∀ q : Nat, s.heap.size ≤ q → x_new s.heap.size q := fun _ h => h
  have hS : va_S (x_new s.heap.size) s.heap s.heap [] := va_S.rf
  have hP : va_P (dC, dI) vwCl [(o3, .inr (3, [.ref o7, .ref o1, .int v3_2, .int v3_3, .int v3_4, .ref a3_5, .ref a3_6, .ref a3_7, .ref a3_8, .ref a3_9, .ref a3_10, .ref a3_11, .ref a3_12, .int v3_13, .int v3_14, .ref a3_15, .ref a3_16]))] s.heap := hP
  have hl := lv_entry ([.ref o3]) (n := 1) (Nat.le_of_ble_eq_true rfl)
  rw [lg_entry_eq]
  generalize (lg_sl ([.ref o3]) ++ List.replicate (1 - (lg_sl ([.ref o3])).length) Slot.unset).toArray = ls at hl ⊢
  have hl : lv_has ls 1 [(0, .ref o3)] := hl
  obtain ⟨H, hH⟩ : ∃ z, z = s.heap := ⟨_, rfl⟩
  refine x_here hH ?_
  have hP : va_P (dC, dI) vwCl [(o3, .inr (3, [.ref o7, .ref o1, .int v3_2, .int v3_3, .int v3_4, .ref a3_5, .ref a3_6, .ref a3_7, .ref a3_8, .ref a3_9, .ref a3_10, .ref a3_11, .ref a3_12, .int v3_13, .int v3_14, .ref a3_15, .ref a3_16]))] H := by rw [hH]; exact hP
  have hS : va_S (x_new s.heap.size) s.heap H [] := by rw [hH]; exact va_S.rf
  clear hH
  obtain ⟨locs, hlo⟩ : ∃ z : List Loc, z = [] := ⟨_, rfl⟩
  refine x_herl hlo ?_
  have hS : va_S (x_new s.heap.size) s.heap H locs := by rw [hlo]; exact hS
  clear hlo
  unfold f_X3_isFull at hf
  refine lv_aload_n hx hb dX3_isFull_0 rfl (lv_at hl 0 rfl) ?_
  refine va_get (D := (dC, dI)) (ci := 3) (v := .int v3_4) (C := RX3) (T := TX3) (N := 17) hx hb hts i_X3_isFull_X3 hown hK hP 0 rfl rfl 4 (by decide) k_1 (fun _ h9 => h9) rfl dX3_isFull_1 ?_
  refine lv_iconst (v := 1) hx hb dX3_isFull_4 (by decide) ?_
  refine lv_iadd hx hb dX3_isFull_5 ?_
  refine lv_aload_n hx hb dX3_isFull_6 rfl (lv_at hl 0 rfl) ?_
  refine va_get (D := (dC, dI)) (ci := 3) (v := .int v3_3) (C := RX3) (T := TX3) (N := 17) hx hb hts i_X3_isFull_X3 hown hK hP 0 rfl rfl 3 (by decide) k_2 (fun _ h9 => h9) rfl dX3_isFull_7 ?_
  refine lv_iconst (v := 1) hx hb dX3_isFull_10 (by decide) ?_
  refine lv_iadd hx hb dX3_isFull_11 ?_
  refine lv_imul hx hb dX3_isFull_12 ?_
  refine lv_sipush (v := 20000) hx hb dX3_isFull_13 (by decide) ?_
  refine lv_icmp_le (tgt := 23) hx hb dX3_isFull_16 (by decide) (fun c_1 => ?_) (fun c_1 => ?_)
  · replace hf := x_ip c_1 hf
    refine lv_iconst (v := 0) hx hb dX3_isFull_23 (by decide) ?_
    obtain rfl := Option.some.inj hf
    exact W.zret (ty := .boolean) hx hb hr rfl (fun t ht hW => ⟨⟨_, (), rfl, ⟨rfl, rfl⟩, trivial⟩, hS.F ht⟩) hS.2.2 dX3_isFull_24
  · replace hf := x_in c_1 hf
    refine lv_iconst (v := 1) hx hb dX3_isFull_19 (by decide) ?_
    refine lv_goto (tgt := 24) hx hb dX3_isFull_20 (by decide) ?_
    obtain rfl := Option.some.inj hf
    exact W.zret (ty := .boolean) hx hb hr rfl (fun t ht hW => ⟨⟨_, (), rfl, ⟨rfl, rfl⟩, trivial⟩, hS.F ht⟩) hS.2.2 dX3_isFull_24

