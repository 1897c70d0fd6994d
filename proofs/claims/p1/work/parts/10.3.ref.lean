def f_X9_argument (p0 : Int32) : Int32 × Int32 := if (f_X9_isType p0) = (0 : Int32) then (1, 0) else (0, 1)
theorem i_X9_argument_X9 : ∀ w ∈ wsX90, w ∈ wsX9_argument := by decide +kernel
set_option maxHeartbeats 4000000 in
set_option maxRecDepth 100000 in
theorem c_X9_argument (l : Launch) (dC : Nat → ClassId) (dI : Nat → Nat → Nat) (cyI cyZ cyJ : ClassId) (sz : Nat) (h0 : Nat) (a4 : Nat) (a5 : Nat) (a6 : Nat) (a7 : Nat) (a8 : Nat) (a9 : Nat) (a10 : Nat) (a11 : Nat) (a12 : Nat) (a19 : Nat) (a23 : Nat) (a24 : Nat) (a25 : Nat) (a26 : Nat) (a27 : Nat) (a28 : Nat) (a29 : Nat) (a30 : Nat) (a31 : Nat) (a32 : Nat) (a33 : Nat) (a34 : Nat) (a37 : Nat) (a38 : Nat) (a39 : Nat) (a40 : Nat) (a41 : Nat) (a43 : Nat) (a44 : Nat) (a45 : Nat) (a46 : Nat) (a47 : Nat) (a52 : Nat) (a53 : Nat) (a56 : Nat) (a57 : Nat) (a59 : Nat) (a60 : Nat) (a61 : Nat) (g19 : Nat → Int32) (p0 : Int32) : Met l yX9_argument wsX9_argument ({ frames := 2, cells := 0, slots := 0, locals := 42 }) (va_Pc [.ref h0, .int p0] (x_PreD (dC, dI) (x_T cyI cyZ cyJ) [(h0, .inr (9, [.int 0, .int 4, .int 0, .int 0, .ref a4, .ref a5, .ref a6, .ref a7, .ref a8, .ref a9, .ref a10, .ref a11, .ref a12, .int 0, .int 0, .int (-1), .int 0, .int 0, .int 0, .ref a19, .int 0, .int 0, .int 0, .ref a23, .ref a24, .ref a25, .ref a26, .ref a27, .ref a28, .ref a29, .ref a30, .ref a31, .ref a32, .ref a33, .ref a34, .int 0, .int 0, .ref a37, .ref a38, .ref a39, .ref a40, .ref a41, .int 0, .ref a43, .ref a44, .ref a45, .ref a46, .ref a47, .int 0, .int 0, .int 0, .int 0, .ref a52, .ref a53, .int 0, .int 0, .ref a56, .ref a57, .int 0, .ref a59, .ref a60, .ref a61])), (a19, .inl (cyI, 20, .inl g19))] sz)) (va_Qi (fun (r : Int32) (_ : Unit) => r = (f_X9_argument p0).2) (fun (_ : Unit) (t : State) => ∃ u : List Value, va_P (dC, dI) vwCl [(h0, .inr (9, .int (f_X9_argument p0).1 :: u))] t.heap ∧ va_K (dC, dI) vwCl (x_T cyI cyZ cyJ) t ∧ va_D (va_A [(h0, .inr (9, [.int 0, .int 4, .int 0, .int 0, .ref a4, .ref a5, .ref a6, .ref a7, .ref a8, .ref a9, .ref a10, .ref a11, .ref a12, .int 0, .int 0, .int (-1), .int 0, .int 0, .int 0, .ref a19, .int 0, .int 0, .int 0, .ref a23, .ref a24, .ref a25, .ref a26, .ref a27, .ref a28, .ref a29, .ref a30, .ref a31, .ref a32, .ref a33, .ref a34, .int 0, .int 0, .ref a37, .ref a38, .ref a39, .ref a40, .ref a41, .int 0, .ref a43, .ref a44, .ref a45, .ref a46, .ref a47, .int 0, .int 0, .int 0, .int 0, .ref a52, .ref a53, .int 0, .int 0, .ref a56, .ref a57, .int 0, .ref a59, .ref a60, .ref a61])), (a19, .inl (cyI, 20, .inl g19))] sz) [(h0, .inr (9, .int (f_X9_argument p0).1 :: u))]) (va_A [(h0, .inr (9, [.int 0, .int 4, .int 0, .int 0, .ref a4, .ref a5, .ref a6, .ref a7, .ref a8, .ref a9, .ref a10, .ref a11, .ref a12, .int 0, .int 0, .int (-1), .int 0, .int 0, .int 0, .ref a19, .int 0, .int 0, .int 0, .ref a23, .ref a24, .ref a25, .ref a26, .ref a27, .ref a28, .ref a29, .ref a30, .ref a31, .ref a32, .ref a33, .ref a34, .int 0, .int 0, .ref a37, .ref a38, .ref a39, .ref a40, .ref a41, .int 0, .ref a43, .ref a44, .ref a45, .ref a46, .ref a47, .int 0, .int 0, .int 0, .int 0, .ref a52, .ref a53, .int 0, .int 0, .ref a56, .ref a57, .int 0, .ref a59, .ref a60, .ref a61])), (a19, .inl (cyI, 20, .inl g19))] sz)) 0 0 (va_A [(h0, .inr (9, [.int 0, .int 4, .int 0, .int 0, .ref a4, .ref a5, .ref a6, .ref a7, .ref a8, .ref a9, .ref a10, .ref a11, .ref a12, .int 0, .int 0, .int (-1), .int 0, .int 0, .int 0, .ref a19, .int 0, .int 0, .int 0, .ref a23, .ref a24, .ref a25, .ref a26, .ref a27, .ref a28, .ref a29, .ref a30, .ref a31, .ref a32, .ref a33, .ref a34, .int 0, .int 0, .ref a37, .ref a38, .ref a39, .ref a40, .ref a41, .int 0, .ref a43, .ref a44, .ref a45, .ref a46, .ref a47, .int 0, .int 0, .int 0, .int 0, .ref a52, .ref a53, .int 0, .int 0, .ref a56, .ref a57, .int 0, .ref a59, .ref a60, .ref a61])), (a19, .inl (cyI, 20, .inl g19))] sz) := by
  refine Met.ofW (cc := cX9_argument) (maxL := 2) (ret := (some .int)) (by decide) rfl ?_
  intro p e s m args below meth c s₁ B hml hv
  obtain ⟨rfl, ⟨hsz, hP, hK, hN⟩, hD0⟩ := hv
  have hx := B.exec
  have hb := B.bytes
  have hr := B.returns
  have hts := atoms_spec (ws := wsX9_argument) B.pre
  have hown : s.vm.findClass RX9 = some m.cls := findClass_of_methodNamed B.named
  have hlocks := B.notSynchronized
  have k_1 := hts (.fieldLink RX9 1 "FlowJudgeModel" "thrown" "I") (by decide +kernel)
  have k_2 := hts (.fieldLink RX9 176 "FlowJudgeModel" "mArgs" "I") (by decide +kernel)
  have k_3 := hts (.fieldLink RX9 48 "FlowJudgeModel" "mArg" "[I") (by decide +kernel)
  subst hsz
  have hD := hD0.self (sz := s.heap.size)
  generalize hAe : va_A [(h0, .inr (9, [.int 0, .int 4, .int 0, .int 0, .ref a4, .ref a5, .ref a6, .ref a7, .ref a8, .ref a9, .ref a10, .ref a11, .ref a12, .int 0, .int 0, .int (-1), .int 0, .int 0, .int 0, .ref a19, .int 0, .int 0, .int 0, .ref a23, .ref a24, .ref a25, .ref a26, .ref a27, .ref a28, .ref a29, .ref a30, .ref a31, .ref a32, .ref a33, .ref a34, .int 0, .int 0, .ref a37, .ref a38, .ref a39, .ref a40, .ref a41, .int 0, .ref a43, .ref a44, .ref a45, .ref a46, .ref a47, .int 0, .int 0, .int 0, .int 0, .ref a52, .ref a53, .int 0, .int 0, .ref a56, .ref a57, .int 0, .ref a59, .ref a60, .ref a61])), (a19, .inl (cyI, 20, .inl g19))] s.heap.size = A at hD ⊢
  have hA : ∀ q : Nat, s.heap.size ≤ q → A q := fun q h => by rw [← hAe]; exact Or.inr h
  have hS : va_S A s.heap s.heap [] := va_S.rf
  have hP : va_P (dC, dI) vwCl [(h0, .inr (9, [.int 0, .int 4, .int 0, .int 0, .ref a4, .ref a5, .ref a6, .ref a7, .ref a8, .ref a9, .ref a10, .ref a11, .ref a12, .int 0, .int 0, .int (-1), .int 0, .int 0, .int 0, .ref a19, .int 0, .int 0, .int 0, .ref a23, .ref a24, .ref a25, .ref a26, .ref a27, .ref a28, .ref a29, .ref a30, .ref a31, .ref a32, .ref a33, .ref a34, .int 0, .int 0, .ref a37, .ref a38, .ref a39, .ref a40, .ref a41, .int 0, .ref a43, .ref a44, .ref a45, .ref a46, .ref a47, .int 0, .int 0, .int 0, .int 0, .ref a52, .ref a53, .int 0, .int 0, .ref a56, .ref a57, .int 0, .ref a59, .ref a60, .ref a61])), (a19, .inl (cyI, 20, .inl g19))] s.heap := hP
  have hl := lv_entry ([.ref h0, .int p0]) (n := 2) (Nat.le_of_ble_eq_true rfl)
  rw [lg_entry_eq]
  generalize (lg_sl ([.ref h0, .int p0]) ++ List.replicate (2 - (lg_sl ([.ref h0, .int p0])).length) Slot.unset).toArray = ls at hl ⊢
  have hl : lv_has ls 2 [(0, .ref h0), (1, .int p0)] := hl
  obtain ⟨H, hH⟩ : ∃ z, z = s.heap := ⟨_, rfl⟩
  refine x_here hH ?_
  have hP : va_P (dC, dI) vwCl [(h0, .inr (9, [.int 0, .int 4, .int 0, .int 0, .ref a4, .ref a5, .ref a6, .ref a7, .ref a8, .ref a9, .ref a10, .ref a11, .ref a12, .int 0, .int 0, .int (-1), .int 0, .int 0, .int 0, .ref a19, .int 0, .int 0, .int 0, .ref a23, .ref a24, .ref a25, .ref a26, .ref a27, .ref a28, .ref a29, .ref a30, .ref a31, .ref a32, .ref a33, .ref a34, .int 0, .int 0, .ref a37, .ref a38, .ref a39, .ref a40, .ref a41, .int 0, .ref a43, .ref a44, .ref a45, .ref a46, .ref a47, .int 0, .int 0, .int 0, .int 0, .ref a52, .ref a53, .int 0, .int 0, .ref a56, .ref a57, .int 0, .ref a59, .ref a60, .ref a61])), (a19, .inl (cyI, 20, .inl g19))] H := by rw [hH]; exact hP
  have hS : va_S A s.heap H [] := by rw [hH]; exact va_S.rf
  clear hH
  refine lv_aload_n hx hb dX9_argument_0 rfl (lv_at hl 0 rfl) ?_
  refine lv_iconst (v := 0) hx hb dX9_argument_1 (by decide) ?_
  refine va_put (D := (dC, dI)) (ci := 9) (v := .int 0) (ty := .int) (C := RX9) (T := TX9) (N := 62) hx hb hts i_X9_argument_X9 tyX9 tyX9_ok nmX9 hown hK hP hD hS 0 rfl rfl 0 (by decide) k_1 (fun _ h9 => h9) rfl (by decide +kernel) rfl rfl (Nat.le_of_ble_eq_true rfl) dX9_argument_2 (fun H locs hP hD hS => ?_)
  have hP : va_P (dC, dI) vwCl [(h0, .inr (9, [.int 0, .int 4, .int 0, .int 0, .ref a4, .ref a5, .ref a6, .ref a7, .ref a8, .ref a9, .ref a10, .ref a11, .ref a12, .int 0, .int 0, .int (-1), .int 0, .int 0, .int 0, .ref a19, .int 0, .int 0, .int 0, .ref a23, .ref a24, .ref a25, .ref a26, .ref a27, .ref a28, .ref a29, .ref a30, .ref a31, .ref a32, .ref a33, .ref a34, .int 0, .int 0, .ref a37, .ref a38, .ref a39, .ref a40, .ref a41, .int 0, .ref a43, .ref a44, .ref a45, .ref a46, .ref a47, .int 0, .int 0, .int 0, .int 0, .ref a52, .ref a53, .int 0, .int 0, .ref a56, .ref a57, .int 0, .ref a59, .ref a60, .ref a61])), (a19, .inl (cyI, 20, .inl g19))] H := hP
  have hD : va_D A [(h0, .inr (9, [.int 0, .int 4, .int 0, .int 0, .ref a4, .ref a5, .ref a6, .ref a7, .ref a8, .ref a9, .ref a10, .ref a11, .ref a12, .int 0, .int 0, .int (-1), .int 0, .int 0, .int 0, .ref a19, .int 0, .int 0, .int 0, .ref a23, .ref a24, .ref a25, .ref a26, .ref a27, .ref a28, .ref a29, .ref a30, .ref a31, .ref a32, .ref a33, .ref a34, .int 0, .int 0, .ref a37, .ref a38, .ref a39, .ref a40, .ref a41, .int 0, .ref a43, .ref a44, .ref a45, .ref a46, .ref a47, .int 0, .int 0, .int 0, .int 0, .ref a52, .ref a53, .int 0, .int 0, .ref a56, .ref a57, .int 0, .ref a59, .ref a60, .ref a61])), (a19, .inl (cyI, 20, .inl g19))] := hD
  refine lv_aload_n hx hb dX9_argument_5 rfl (lv_at hl 0 rfl) ?_
  refine lv_iload_n hx hb dX9_argument_6 rfl (lv_at hl 1 rfl) ?_
  have hPc := hP.sub (ws' := [(h0, .inr (9, [.int 0, .int 4, .int 0, .int 0, .ref a4, .ref a5, .ref a6, .ref a7, .ref a8, .ref a9, .ref a10, .ref a11, .ref a12, .int 0, .int 0, .int (-1), .int 0, .int 0, .int 0, .ref a19, .int 0, .int 0, .int 0, .ref a23, .ref a24, .ref a25, .ref a26, .ref a27, .ref a28, .ref a29, .ref a30, .ref a31, .ref a32, .ref a33, .ref a34, .int 0, .int 0, .ref a37, .ref a38, .ref a39, .ref a40, .ref a41, .int 0, .ref a43, .ref a44, .ref a45, .ref a46, .ref a47, .int 0, .int 0, .int 0, .int 0, .ref a52, .ref a53, .int 0, .int 0, .ref a56, .ref a57, .int 0, .ref a59, .ref a60, .ref a61]))]) [0] rfl
  refine va_calli (va_runV (As := [.int p0]) (rest := []) ⟨hx, hb, hml, hown, hts⟩ (c_X9_isType l dC dI cyI cyZ cyJ H.size h0 a4 a5 a6 a7 a8 a9 a10 a11 a12 a19 a23 a24 a25 a26 a27 a28 a29 a30 a31 a32 a33 a34 a37 a38 a39 a40 a41 a43 a44 a45 a46 a47 a52 a53 a56 a57 a59 a60 a61 p0) (cwV 1 hts gX9_argument_X9_isType rfl rfl rfl (by decide +kernel) ⟨Nat.le_of_ble_eq_true rfl, Nat.le_of_ble_eq_true rfl⟩) (x_pV hN hK hPc (ci := 9) (q0 := 0) rfl rfl) rfl rfl hl.1 rfl (lv_room (Nat.le_of_ble_eq_true rfl)) dX9_argument_7 ⟨Nat.le_of_ble_eq_true rfl, Nat.le_of_ble_eq_true rfl⟩) hS x_nA (x_nf hA hS) (fun r_7 u t H1 locs ht hvm hw hB hz1 hk1 hS => ?_)
  have hP := x_kp hP hk1
  clear ht hvm hB hz1 hk1 t u hPc
  generalize H1 = H at hP hS ⊢
  obtain rfl := hw
  refine lv_if_ne (tgt := 18) hx hb dX9_argument_10 (by decide) (fun c_1 => ?_) (fun c_1 => ?_)
  · skip
    refine lv_aload_n hx hb dX9_argument_18 rfl (lv_at hl 0 rfl) ?_
    refine va_get (D := (dC, dI)) (ci := 9) (v := .int 0) (C := RX9) (T := TX9) (N := 62) hx hb hts i_X9_argument_X9 hown hK hP 0 rfl rfl 18 (by decide) k_2 (fun _ h9 => h9) rfl dX9_argument_19 ?_
    refine lv_bipush (v := 20) hx hb dX9_argument_22 (by decide) ?_
    refine lv_icmp_ne (tgt := 32) hx hb dX9_argument_24 (by decide) (fun _ => ?_) (fun c_2 => absurd c_2 (by decide))
    refine lv_aload_n hx hb dX9_argument_32 rfl (lv_at hl 0 rfl) ?_
    refine va_get (D := (dC, dI)) (ci := 9) (v := .ref a19) (C := RX9) (T := TX9) (N := 62) hx hb hts i_X9_argument_X9 hown hK hP 0 rfl rfl 19 (by decide) k_3 (fun _ h9 => h9) rfl dX9_argument_33 ?_
    refine lv_aload_n hx hb dX9_argument_36 rfl (lv_at hl 0 rfl) ?_
    refine lv_dup hx hb dX9_argument_37 rfl ?_
    refine va_get (D := (dC, dI)) (ci := 9) (v := .int 0) (C := RX9) (T := TX9) (N := 62) hx hb hts i_X9_argument_X9 hown hK hP 0 rfl rfl 18 (by decide) k_2 (fun _ h9 => h9) rfl dX9_argument_38 ?_
    refine lv_dup_x1 hx hb dX9_argument_41 rfl rfl ?_
    refine lv_iconst (v := 1) hx hb dX9_argument_42 (by decide) ?_
    refine lv_iadd hx hb dX9_argument_43 ?_
    refine lv_topi (fun z_3 ez_3 => ?_)
    obtain rfl : z_3 = 1 := ez_3.trans (by decide)
    refine va_put (D := (dC, dI)) (ci := 9) (v := .int 1) (ty := .int) (C := RX9) (T := TX9) (N := 62) hx hb hts i_X9_argument_X9 tyX9 tyX9_ok nmX9 hown hK hP hD hS 0 rfl rfl 18 (by decide) k_2 (fun _ h9 => h9) rfl (by decide +kernel) rfl rfl (Nat.le_of_ble_eq_true rfl) dX9_argument_44 (fun H locs hP hD hS => ?_)
    have hP : va_P (dC, dI) vwCl [(h0, .inr (9, [.int 0, .int 4, .int 0, .int 0, .ref a4, .ref a5, .ref a6, .ref a7, .ref a8, .ref a9, .ref a10, .ref a11, .ref a12, .int 0, .int 0, .int (-1), .int 0, .int 0, .int 1, .ref a19, .int 0, .int 0, .int 0, .ref a23, .ref a24, .ref a25, .ref a26, .ref a27, .ref a28, .ref a29, .ref a30, .ref a31, .ref a32, .ref a33, .ref a34, .int 0, .int 0, .ref a37, .ref a38, .ref a39, .ref a40, .ref a41, .int 0, .ref a43, .ref a44, .ref a45, .ref a46, .ref a47, .int 0, .int 0, .int 0, .int 0, .ref a52, .ref a53, .int 0, .int 0, .ref a56, .ref a57, .int 0, .ref a59, .ref a60, .ref a61])), (a19, .inl (cyI, 20, .inl g19))] H := hP
    have hD : va_D A [(h0, .inr (9, [.int 0, .int 4, .int 0, .int 0, .ref a4, .ref a5, .ref a6, .ref a7, .ref a8, .ref a9, .ref a10, .ref a11, .ref a12, .int 0, .int 0, .int (-1), .int 0, .int 0, .int 1, .ref a19, .int 0, .int 0, .int 0, .ref a23, .ref a24, .ref a25, .ref a26, .ref a27, .ref a28, .ref a29, .ref a30, .ref a31, .ref a32, .ref a33, .ref a34, .int 0, .int 0, .ref a37, .ref a38, .ref a39, .ref a40, .ref a41, .int 0, .ref a43, .ref a44, .ref a45, .ref a46, .ref a47, .int 0, .int 0, .int 0, .int 0, .ref a52, .ref a53, .int 0, .int 0, .ref a56, .ref a57, .int 0, .ref a59, .ref a60, .ref a61])), (a19, .inl (cyI, 20, .inl g19))] := hD
    refine lv_iload_n hx hb dX9_argument_47 rfl (lv_at hl 1 rfl) ?_
    refine va_iast hx hb hK hP hD hS 1 0 rfl rfl (x_lit _ _ (by decide)) dX9_argument_48 (fun H locs hP hD hS => ?_)
    have hP : va_P (dC, dI) vwCl [(h0, .inr (9, [.int 0, .int 4, .int 0, .int 0, .ref a4, .ref a5, .ref a6, .ref a7, .ref a8, .ref a9, .ref a10, .ref a11, .ref a12, .int 0, .int 0, .int (-1), .int 0, .int 0, .int 1, .ref a19, .int 0, .int 0, .int 0, .ref a23, .ref a24, .ref a25, .ref a26, .ref a27, .ref a28, .ref a29, .ref a30, .ref a31, .ref a32, .ref a33, .ref a34, .int 0, .int 0, .ref a37, .ref a38, .ref a39, .ref a40, .ref a41, .int 0, .ref a43, .ref a44, .ref a45, .ref a46, .ref a47, .int 0, .int 0, .int 0, .int 0, .ref a52, .ref a53, .int 0, .int 0, .ref a56, .ref a57, .int 0, .ref a59, .ref a60, .ref a61])), (a19, .inl (cyI, 20, .inl (upd g19 (Int32.toNatClampNeg 0) p0)))] H := hP
    have hD : va_D A [(h0, .inr (9, [.int 0, .int 4, .int 0, .int 0, .ref a4, .ref a5, .ref a6, .ref a7, .ref a8, .ref a9, .ref a10, .ref a11, .ref a12, .int 0, .int 0, .int (-1), .int 0, .int 0, .int 1, .ref a19, .int 0, .int 0, .int 0, .ref a23, .ref a24, .ref a25, .ref a26, .ref a27, .ref a28, .ref a29, .ref a30, .ref a31, .ref a32, .ref a33, .ref a34, .int 0, .int 0, .ref a37, .ref a38, .ref a39, .ref a40, .ref a41, .int 0, .ref a43, .ref a44, .ref a45, .ref a46, .ref a47, .int 0, .int 0, .int 0, .int 0, .ref a52, .ref a53, .int 0, .int 0, .ref a56, .ref a57, .int 0, .ref a59, .ref a60, .ref a61])), (a19, .inl (cyI, 20, .inl (upd g19 (Int32.toNatClampNeg 0) p0)))] := hD
    refine lv_aload_n hx hb dX9_argument_49 rfl (lv_at hl 0 rfl) ?_
    refine va_get (D := (dC, dI)) (ci := 9) (v := .int 1) (C := RX9) (T := TX9) (N := 62) hx hb hts i_X9_argument_X9 hown hK hP 0 rfl rfl 18 (by decide) k_2 (fun _ h9 => h9) rfl dX9_argument_50 ?_
    have e9 : f_X9_argument p0 = (0, 1) := by rw [f_X9_argument, if_neg c_1]
    have hP9 := hP.sub (ws' := [(h0, .inr (9, [.int 0, .int 4, .int 0, .int 0, .ref a4, .ref a5, .ref a6, .ref a7, .ref a8, .ref a9, .ref a10, .ref a11, .ref a12, .int 0, .int 0, .int (-1), .int 0, .int 0, .int 1, .ref a19, .int 0, .int 0, .int 0, .ref a23, .ref a24, .ref a25, .ref a26, .ref a27, .ref a28, .ref a29, .ref a30, .ref a31, .ref a32, .ref a33, .ref a34, .int 0, .int 0, .ref a37, .ref a38, .ref a39, .ref a40, .ref a41, .int 0, .ref a43, .ref a44, .ref a45, .ref a46, .ref a47, .int 0, .int 0, .int 0, .int 0, .ref a52, .ref a53, .int 0, .int 0, .ref a56, .ref a57, .int 0, .ref a59, .ref a60, .ref a61]))]) [0] rfl
    have hD9 := hD.sub (ws' := [(h0, .inr (9, [.int 0, .int 4, .int 0, .int 0, .ref a4, .ref a5, .ref a6, .ref a7, .ref a8, .ref a9, .ref a10, .ref a11, .ref a12, .int 0, .int 0, .int (-1), .int 0, .int 0, .int 1, .ref a19, .int 0, .int 0, .int 0, .ref a23, .ref a24, .ref a25, .ref a26, .ref a27, .ref a28, .ref a29, .ref a30, .ref a31, .ref a32, .ref a33, .ref a34, .int 0, .int 0, .ref a37, .ref a38, .ref a39, .ref a40, .ref a41, .int 0, .ref a43, .ref a44, .ref a45, .ref a46, .ref a47, .int 0, .int 0, .int 0, .int 0, .ref a52, .ref a53, .int 0, .int 0, .ref a56, .ref a57, .int 0, .ref a59, .ref a60, .ref a61]))]) [0] (by decide) rfl
    exact W.iret hx hb hr (fun t ht hW => ⟨⟨_, (), rfl, by rw [e9], [.int 4, .int 0, .int 0, .ref a4, .ref a5, .ref a6, .ref a7, .ref a8, .ref a9, .ref a10, .ref a11, .ref a12, .int 0, .int 0, .int (-1), .int 0, .int 0, .int 1, .ref a19, .int 0, .int 0, .int 0, .ref a23, .ref a24, .ref a25, .ref a26, .ref a27, .ref a28, .ref a29, .ref a30, .ref a31, .ref a32, .ref a33, .ref a34, .int 0, .int 0, .ref a37, .ref a38, .ref a39, .ref a40, .ref a41, .int 0, .ref a43, .ref a44, .ref a45, .ref a46, .ref a47, .int 0, .int 0, .int 0, .int 0, .ref a52, .ref a53, .int 0, .int 0, .ref a56, .ref a57, .int 0, .ref a59, .ref a60, .ref a61], by rw [ht, e9]; exact hP9, va_K.moved hW.alike hK, by rw [e9]; exact hD9⟩, hS.F ht⟩) hS.2.2 dX9_argument_53
  · skip
    refine lv_aload_n hx hb dX9_argument_13 rfl (lv_at hl 0 rfl) ?_
    have hPc := hP.sub (ws' := [(h0, .inr (9, [.int 0, .int 4, .int 0, .int 0, .ref a4, .ref a5, .ref a6, .ref a7, .ref a8, .ref a9, .ref a10, .ref a11, .ref a12, .int 0, .int 0, .int (-1), .int 0, .int 0, .int 0, .ref a19, .int 0, .int 0, .int 0, .ref a23, .ref a24, .ref a25, .ref a26, .ref a27, .ref a28, .ref a29, .ref a30, .ref a31, .ref a32, .ref a33, .ref a34, .int 0, .int 0, .ref a37, .ref a38, .ref a39, .ref a40, .ref a41, .int 0, .ref a43, .ref a44, .ref a45, .ref a46, .ref a47, .int 0, .int 0, .int 0, .int 0, .ref a52, .ref a53, .int 0, .int 0, .ref a56, .ref a57, .int 0, .ref a59, .ref a60, .ref a61]))]) [0] rfl
    have hDc := hD.sub (ws' := [(h0, .inr (9, [.int 0, .int 4, .int 0, .int 0, .ref a4, .ref a5, .ref a6, .ref a7, .ref a8, .ref a9, .ref a10, .ref a11, .ref a12, .int 0, .int 0, .int (-1), .int 0, .int 0, .int 0, .ref a19, .int 0, .int 0, .int 0, .ref a23, .ref a24, .ref a25, .ref a26, .ref a27, .ref a28, .ref a29, .ref a30, .ref a31, .ref a32, .ref a33, .ref a34, .int 0, .int 0, .ref a37, .ref a38, .ref a39, .ref a40, .ref a41, .int 0, .ref a43, .ref a44, .ref a45, .ref a46, .ref a47, .int 0, .int 0, .int 0, .int 0, .ref a52, .ref a53, .int 0, .int 0, .ref a56, .ref a57, .int 0, .ref a59, .ref a60, .ref a61]))]) [0] (by decide) rfl
    have hFc := va_free (wc := [(h0, .inr (9, [.int 0, .int 4, .int 0, .int 0, .ref a4, .ref a5, .ref a6, .ref a7, .ref a8, .ref a9, .ref a10, .ref a11, .ref a12, .int 0, .int 0, .int (-1), .int 0, .int 0, .int 0, .ref a19, .int 0, .int 0, .int 0, .ref a23, .ref a24, .ref a25, .ref a26, .ref a27, .ref a28, .ref a29, .ref a30, .ref a31, .ref a32, .ref a33, .ref a34, .int 0, .int 0, .ref a37, .ref a38, .ref a39, .ref a40, .ref a41, .int 0, .ref a43, .ref a44, .ref a45, .ref a46, .ref a47, .int 0, .int 0, .int 0, .int 0, .ref a52, .ref a53, .int 0, .int 0, .ref a56, .ref a57, .int 0, .ref a59, .ref a60, .ref a61]))]) hD hS hA [0] rfl
    refine va_calli (va_runV (As := []) (rest := []) ⟨hx, hb, hml, hown, hts⟩ (c_X9_bad l dC dI cyI cyZ cyJ H.size h0 a4 a5 a6 a7 a8 a9 a10 a11 a12 a19 a23 a24 a25 a26 a27 a28 a29 a30 a31 a32 a33 a34 a37 a38 a39 a40 a41 a43 a44 a45 a46 a47 a52 a53 a56 a57 a59 a60 a61) (cwV 0 hts gX9_argument_X9_bad rfl rfl rfl (by decide +kernel) ⟨Nat.le_of_ble_eq_true rfl, Nat.le_of_ble_eq_true rfl⟩) (x_pVD hN hK hPc hDc (ci := 9) (q0 := 0) rfl rfl) rfl rfl hl.1 rfl (lv_room (Nat.le_of_ble_eq_true rfl)) dX9_argument_14 ⟨Nat.le_of_ble_eq_true rfl, Nat.le_of_ble_eq_true rfl⟩) hS (fun q _ h => hFc q h) hFc (fun r_14 u t H1 locs ht hvm hw hB hz1 hk1 hS => ?_)
    obtain ⟨hP1, hK1, hD1⟩ := hB
    rw [ht] at hP1
    obtain ⟨hP, hD⟩ := va_join (wr := [(a19, .inl (cyI, 20, .inl g19))]) (w1 := [(h0, .inr (9, [.int 1, .int 4, .int 0, .int 0, .ref a4, .ref a5, .ref a6, .ref a7, .ref a8, .ref a9, .ref a10, .ref a11, .ref a12, .int 0, .int 0, .int (-1), .int 0, .int 0, .int 0, .ref a19, .int 0, .int 0, .int 0, .ref a23, .ref a24, .ref a25, .ref a26, .ref a27, .ref a28, .ref a29, .ref a30, .ref a31, .ref a32, .ref a33, .ref a34, .int 0, .int 0, .ref a37, .ref a38, .ref a39, .ref a40, .ref a41, .int 0, .ref a43, .ref a44, .ref a45, .ref a46, .ref a47, .int 0, .int 0, .int 0, .int 0, .ref a52, .ref a53, .int 0, .int 0, .ref a56, .ref a57, .int 0, .ref a59, .ref a60, .ref a61]))]) hP hD [0] [1] rfl rfl (by decide) (by decide) hk1 hFc hP1 hD1
    clear hz1 hk1 hPc hDc hFc hP1 hK1 hD1 ht hvm t u
    generalize H1 = H at hP hS ⊢
    have hP : va_P (dC, dI) vwCl [(a19, .inl (cyI, 20, .inl g19)), (h0, .inr (9, [.int 1, .int 4, .int 0, .int 0, .ref a4, .ref a5, .ref a6, .ref a7, .ref a8, .ref a9, .ref a10, .ref a11, .ref a12, .int 0, .int 0, .int (-1), .int 0, .int 0, .int 0, .ref a19, .int 0, .int 0, .int 0, .ref a23, .ref a24, .ref a25, .ref a26, .ref a27, .ref a28, .ref a29, .ref a30, .ref a31, .ref a32, .ref a33, .ref a34, .int 0, .int 0, .ref a37, .ref a38, .ref a39, .ref a40, .ref a41, .int 0, .ref a43, .ref a44, .ref a45, .ref a46, .ref a47, .int 0, .int 0, .int 0, .int 0, .ref a52, .ref a53, .int 0, .int 0, .ref a56, .ref a57, .int 0, .ref a59, .ref a60, .ref a61]))] H := hP
    have hD : va_D A [(a19, .inl (cyI, 20, .inl g19)), (h0, .inr (9, [.int 1, .int 4, .int 0, .int 0, .ref a4, .ref a5, .ref a6, .ref a7, .ref a8, .ref a9, .ref a10, .ref a11, .ref a12, .int 0, .int 0, .int (-1), .int 0, .int 0, .int 0, .ref a19, .int 0, .int 0, .int 0, .ref a23, .ref a24, .ref a25, .ref a26, .ref a27, .ref a28, .ref a29, .ref a30, .ref a31, .ref a32, .ref a33, .ref a34, .int 0, .int 0, .ref a37, .ref a38, .ref a39, .ref a40, .ref a41, .int 0, .ref a43, .ref a44, .ref a45, .ref a46, .ref a47, .int 0, .int 0, .int 0, .int 0, .ref a52, .ref a53, .int 0, .int 0, .ref a56, .ref a57, .int 0, .ref a59, .ref a60, .ref a61]))] := hD
    obtain rfl := hw
    have e9 : f_X9_argument p0 = (1, 0) := by rw [f_X9_argument, if_pos c_1]
    have hP9 := hP.sub (ws' := [(h0, .inr (9, [.int 1, .int 4, .int 0, .int 0, .ref a4, .ref a5, .ref a6, .ref a7, .ref a8, .ref a9, .ref a10, .ref a11, .ref a12, .int 0, .int 0, .int (-1), .int 0, .int 0, .int 0, .ref a19, .int 0, .int 0, .int 0, .ref a23, .ref a24, .ref a25, .ref a26, .ref a27, .ref a28, .ref a29, .ref a30, .ref a31, .ref a32, .ref a33, .ref a34, .int 0, .int 0, .ref a37, .ref a38, .ref a39, .ref a40, .ref a41, .int 0, .ref a43, .ref a44, .ref a45, .ref a46, .ref a47, .int 0, .int 0, .int 0, .int 0, .ref a52, .ref a53, .int 0, .int 0, .ref a56, .ref a57, .int 0, .ref a59, .ref a60, .ref a61]))]) [1] rfl
    have hD9 := hD.sub (ws' := [(h0, .inr (9, [.int 1, .int 4, .int 0, .int 0, .ref a4, .ref a5, .ref a6, .ref a7, .ref a8, .ref a9, .ref a10, .ref a11, .ref a12, .int 0, .int 0, .int (-1), .int 0, .int 0, .int 0, .ref a19, .int 0, .int 0, .int 0, .ref a23, .ref a24, .ref a25, .ref a26, .ref a27, .ref a28, .ref a29, .ref a30, .ref a31, .ref a32, .ref a33, .ref a34, .int 0, .int 0, .ref a37, .ref a38, .ref a39, .ref a40, .ref a41, .int 0, .ref a43, .ref a44, .ref a45, .ref a46, .ref a47, .int 0, .int 0, .int 0, .int 0, .ref a52, .ref a53, .int 0, .int 0, .ref a56, .ref a57, .int 0, .ref a59, .ref a60, .ref a61]))]) [1] (by decide) rfl
    exact W.iret hx hb hr (fun t ht hW => ⟨⟨_, (), rfl, by rw [e9], [.int 4, .int 0, .int 0, .ref a4, .ref a5, .ref a6, .ref a7, .ref a8, .ref a9, .ref a10, .ref a11, .ref a12, .int 0, .int 0, .int (-1), .int 0, .int 0, .int 0, .ref a19, .int 0, .int 0, .int 0, .ref a23, .ref a24, .ref a25, .ref a26, .ref a27, .ref a28, .ref a29, .ref a30, .ref a31, .ref a32, .ref a33, .ref a34, .int 0, .int 0, .ref a37, .ref a38, .ref a39, .ref a40, .ref a41, .int 0, .ref a43, .ref a44, .ref a45, .ref a46, .ref a47, .int 0, .int 0, .int 0, .int 0, .ref a52, .ref a53, .int 0, .int 0, .ref a56, .ref a57, .int 0, .ref a59, .ref a60, .ref a61], by rw [ht, e9]; exact hP9, va_K.moved hW.alike hK, by rw [e9]; exact hD9⟩, hS.F ht⟩) hS.2.2 dX9_argument_17

def f_X9_fits_438 (p0 : Int32) (p1 : Int32) (p2 : Int32) : Int32 := if (f_X9_isType p1) = (0 : Int32) then 0 else if (f_X9_isPrimitive p1) = (0 : Int32) then 1 else 0
def f_X9_fits_349 (p0 : Int32) (p1 : Int32) (p2 : Int32) : Int32 := if p0 = (187 : Int32) then (f_X9_isClass p1) else if p0 = (188 : Int32) then if p1 < (0 : Int32) then 0 else if (7 : Int32) < p1 then 0 else 1 else if p0 = (189 : Int32) then if (f_X9_isType p1) = (0 : Int32) then 0 else if (f_X9_isPrimitive p1) = (0 : Int32) then if (255 : Int32) ≤ (p1 >>> (16 &&& 31)) then 0 else 1 else 0 else if p0 = (192 : Int32) then (f_X9_fits_438 p0 p1 p2) else if p0 = (193 : Int32) then (f_X9_fits_438 p0 p1 p2) else 0
def f_X9_fits_317 (p0 : Int32) (p1 : Int32) (p2 : Int32) : Int32 := if p0 < (182 : Int32) then (f_X9_fits_349 p0 p1 p2) else if (186 : Int32) < p0 then (f_X9_fits_349 p0 p1 p2) else if p1 < (0 : Int32) then 0 else if (0 : Int32) ≤ p1 then 0 else 1
def f_X9_fits_275 (p0 : Int32) (p1 : Int32) (p2 : Int32) : Int32 := if p1 < (0 : Int32) then 0 else 1
def f_X9_fits_261 (p0 : Int32) (p1 : Int32) (p2 : Int32) : Int32 := if p0 = (198 : Int32) then (f_X9_fits_275 p0 p1 p2) else if p0 = (199 : Int32) then (f_X9_fits_275 p0 p1 p2) else if p0 < (178 : Int32) then (f_X9_fits_317 p0 p1 p2) else if (181 : Int32) < p0 then (f_X9_fits_317 p0 p1 p2) else if p1 < (0 : Int32) then 0 else if (0 : Int32) ≤ p1 then 0 else 1
def f_X9_fits_240 (p0 : Int32) (p1 : Int32) (p2 : Int32) : Int32 := if p0 = (169 : Int32) then (f_X9_fits_275 p0 p1 p2) else if p0 < (153 : Int32) then (f_X9_fits_261 p0 p1 p2) else if p0 ≤ (168 : Int32) then (f_X9_fits_275 p0 p1 p2) else (f_X9_fits_261 p0 p1 p2)
def f_X9_fits_228 (p0 : Int32) (p1 : Int32) (p2 : Int32) : Int32 := if p0 < (54 : Int32) then (f_X9_fits_240 p0 p1 p2) else if p0 ≤ (58 : Int32) then (f_X9_fits_275 p0 p1 p2) else (f_X9_fits_240 p0 p1 p2)
def f_X9_fits_91 (p0 : Int32) (p1 : Int32) (p2 : Int32) : Int32 := if p1 = (0 : Int32) then if p2 = (0 : Int32) then 1 else 0 else 0
def f_X9_fits_63 (p0 : Int32) (p1 : Int32) (p2 : Int32) : Int32 := if p0 = (190 : Int32) then (f_X9_fits_91 p0 p1 p2) else if p0 = (191 : Int32) then (f_X9_fits_91 p0 p1 p2) else if p0 = (194 : Int32) then (f_X9_fits_91 p0 p1 p2) else if p0 = (195 : Int32) then (f_X9_fits_91 p0 p1 p2) else if p0 = (132 : Int32) then if p1 < (0 : Int32) then 0 else 1 else if p0 = (197 : Int32) then if (f_X9_isType p1) = (0 : Int32) then 0 else if p2 < (1 : Int32) then 0 else if (p1 >>> (16 &&& 31)) < p2 then 0 else 1 else if p2 = (0 : Int32) then if p0 = (16 : Int32) then 1 else if p0 = (17 : Int32) then 1 else if p0 = (18 : Int32) then if (f_X9_isType p1) = (0 : Int32) then 0 else if (f_X9_isWide p1) = (0 : Int32) then 1 else 0 else if p0 = (20 : Int32) then (f_X9_isWide p1) else if p0 < (21 : Int32) then (f_X9_fits_228 p0 p1 p2) else if p0 ≤ (25 : Int32) then (f_X9_fits_275 p0 p1 p2) else (f_X9_fits_228 p0 p1 p2) else 0
def f_X9_fits_49 (p0 : Int32) (p1 : Int32) (p2 : Int32) : Int32 := if p0 < (170 : Int32) then (f_X9_fits_63 p0 p1 p2) else if p0 ≤ (177 : Int32) then (f_X9_fits_91 p0 p1 p2) else (f_X9_fits_63 p0 p1 p2)
def f_X9_fits_35 (p0 : Int32) (p1 : Int32) (p2 : Int32) : Int32 := if p0 < (133 : Int32) then (f_X9_fits_49 p0 p1 p2) else if p0 ≤ (152 : Int32) then (f_X9_fits_91 p0 p1 p2) else (f_X9_fits_49 p0 p1 p2)
def f_X9_fits_22 (p0 : Int32) (p1 : Int32) (p2 : Int32) : Int32 := if p0 < (79 : Int32) then (f_X9_fits_35 p0 p1 p2) else if p0 ≤ (131 : Int32) then (f_X9_fits_91 p0 p1 p2) else (f_X9_fits_35 p0 p1 p2)
def f_X9_fits_10 (p0 : Int32) (p1 : Int32) (p2 : Int32) : Int32 := if p0 < (46 : Int32) then (f_X9_fits_22 p0 p1 p2) else if p0 ≤ (53 : Int32) then (f_X9_fits_91 p0 p1 p2) else (f_X9_fits_22 p0 p1 p2)
def f_X9_fits (p0 : Int32) (p1 : Int32) (p2 : Int32) : Int32 := if p0 < (0 : Int32) then (f_X9_fits_10 p0 p1 p2) else if p0 ≤ (15 : Int32) then (f_X9_fits_91 p0 p1 p2) else (f_X9_fits_10 p0 p1 p2)
theorem b_X9_fits_438 (p0 : Int32) (p1 : Int32) (p2 : Int32) : x_nb (f_X9_fits_438 p0 p1 p2) := (x_ite rfl (x_ite rfl rfl))
theorem b_X9_fits_349 (p0 : Int32) (p1 : Int32) (p2 : Int32) : x_nb (f_X9_fits_349 p0 p1 p2) := (x_ite (b_X9_isClass p1) (x_ite (x_ite rfl (x_ite rfl rfl)) (x_ite (x_ite rfl (x_ite (x_ite rfl rfl) rfl)) (x_ite (b_X9_fits_438 p0 p1 p2) (x_ite (b_X9_fits_438 p0 p1 p2) rfl)))))
theorem b_X9_fits_317 (p0 : Int32) (p1 : Int32) (p2 : Int32) : x_nb (f_X9_fits_317 p0 p1 p2) := (x_ite (b_X9_fits_349 p0 p1 p2) (x_ite (b_X9_fits_349 p0 p1 p2) (x_ite rfl (x_ite rfl rfl))))
theorem b_X9_fits_275 (p0 : Int32) (p1 : Int32) (p2 : Int32) : x_nb (f_X9_fits_275 p0 p1 p2) := (x_ite rfl rfl)
theorem b_X9_fits_261 (p0 : Int32) (p1 : Int32) (p2 : Int32) : x_nb (f_X9_fits_261 p0 p1 p2) := (x_ite (b_X9_fits_275 p0 p1 p2) (x_ite (b_X9_fits_275 p0 p1 p2) (x_ite (b_X9_fits_317 p0 p1 p2) (x_ite (b_X9_fits_317 p0 p1 p2) (x_ite rfl (x_ite rfl rfl))))))
theorem b_X9_fits_240 (p0 : Int32) (p1 : Int32) (p2 : Int32) : x_nb (f_X9_fits_240 p0 p1 p2) := (x_ite (b_X9_fits_275 p0 p1 p2) (x_ite (b_X9_fits_261 p0 p1 p2) (x_ite (b_X9_fits_275 p0 p1 p2) (b_X9_fits_261 p0 p1 p2))))
theorem b_X9_fits_228 (p0 : Int32) (p1 : Int32) (p2 : Int32) : x_nb (f_X9_fits_228 p0 p1 p2) := (x_ite (b_X9_fits_240 p0 p1 p2) (x_ite (b_X9_fits_275 p0 p1 p2) (b_X9_fits_240 p0 p1 p2)))
theorem b_X9_fits_91 (p0 : Int32) (p1 : Int32) (p2 : Int32) : x_nb (f_X9_fits_91 p0 p1 p2) := (x_ite (x_ite rfl rfl) rfl)
theorem b_X9_fits_63 (p0 : Int32) (p1 : Int32) (p2 : Int32) : x_nb (f_X9_fits_63 p0 p1 p2) := (x_ite (b_X9_fits_91 p0 p1 p2) (x_ite (b_X9_fits_91 p0 p1 p2) (x_ite (b_X9_fits_91 p0 p1 p2) (x_ite (b_X9_fits_91 p0 p1 p2) (x_ite (x_ite rfl rfl) (x_ite (x_ite rfl (x_ite rfl (x_ite rfl rfl))) (x_ite (x_ite rfl (x_ite rfl (x_ite (x_ite rfl (x_ite rfl rfl)) (x_ite (b_X9_isWide p1) (x_ite (b_X9_fits_228 p0 p1 p2) (x_ite (b_X9_fits_275 p0 p1 p2) (b_X9_fits_228 p0 p1 p2))))))) rfl)))))))
theorem b_X9_fits_49 (p0 : Int32) (p1 : Int32) (p2 : Int32) : x_nb (f_X9_fits_49 p0 p1 p2) := (x_ite (b_X9_fits_63 p0 p1 p2) (x_ite (b_X9_fits_91 p0 p1 p2) (b_X9_fits_63 p0 p1 p2)))
theorem b_X9_fits_35 (p0 : Int32) (p1 : Int32) (p2 : Int32) : x_nb (f_X9_fits_35 p0 p1 p2) := (x_ite (b_X9_fits_49 p0 p1 p2) (x_ite (b_X9_fits_91 p0 p1 p2) (b_X9_fits_49 p0 p1 p2)))
theorem b_X9_fits_22 (p0 : Int32) (p1 : Int32) (p2 : Int32) : x_nb (f_X9_fits_22 p0 p1 p2) := (x_ite (b_X9_fits_35 p0 p1 p2) (x_ite (b_X9_fits_91 p0 p1 p2) (b_X9_fits_35 p0 p1 p2)))
theorem b_X9_fits_10 (p0 : Int32) (p1 : Int32) (p2 : Int32) : x_nb (f_X9_fits_10 p0 p1 p2) := (x_ite (b_X9_fits_22 p0 p1 p2) (x_ite (b_X9_fits_91 p0 p1 p2) (b_X9_fits_22 p0 p1 p2)))
theorem b_X9_fits (p0 : Int32) (p1 : Int32) (p2 : Int32) : x_nb (f_X9_fits p0 p1 p2) := (x_ite (b_X9_fits_10 p0 p1 p2) (x_ite (b_X9_fits_91 p0 p1 p2) (b_X9_fits_10 p0 p1 p2)))
theorem i_X9_fits_X9 : ∀ w ∈ wsX90, w ∈ wsX9_fits := by decide +kernel
set_option maxHeartbeats 4000000 in
set_option maxRecDepth 100000 in
theorem c_X9_fits (l : Launch) (dC : Nat → ClassId) (dI : Nat → Nat → Nat) (cyI cyZ cyJ : ClassId) (sz : Nat) (h0 : Nat) (a4 : Nat) (a5 : Nat) (a6 : Nat) (a7 : Nat) (a8 : Nat) (a9 : Nat) (a10 : Nat) (a11 : Nat) (a12 : Nat) (a19 : Nat) (a23 : Nat) (a24 : Nat) (a25 : Nat) (a26 : Nat) (a27 : Nat) (a28 : Nat) (a29 : Nat) (a30 : Nat) (a31 : Nat) (a32 : Nat) (a33 : Nat) (a34 : Nat) (a37 : Nat) (a38 : Nat) (a39 : Nat) (a40 : Nat) (a41 : Nat) (a43 : Nat) (a44 : Nat) (a45 : Nat) (a46 : Nat) (a47 : Nat) (a52 : Nat) (a53 : Nat) (a56 : Nat) (a57 : Nat) (a59 : Nat) (a60 : Nat) (a61 : Nat) (p0 : Int32) (p1 : Int32) (p2 : Int32) : Met l yX9_fits wsX9_fits ({ frames := 2, cells := 0, slots := 0, locals := 42 }) (va_Pc [.ref h0, .int p0, .int p1, .int p2] (x_Pre (dC, dI) (x_T cyI cyZ cyJ) [(h0, .inr (9, [.int 0, .int 4, .int 0, .int 0, .ref a4, .ref a5, .ref a6, .ref a7, .ref a8, .ref a9, .ref a10, .ref a11, .ref a12, .int 0, .int 0, .int (-1), .int 0, .int 0, .int 0, .ref a19, .int 0, .int 0, .int 0, .ref a23, .ref a24, .ref a25, .ref a26, .ref a27, .ref a28, .ref a29, .ref a30, .ref a31, .ref a32, .ref a33, .ref a34, .int 0, .int 0, .ref a37, .ref a38, .ref a39, .ref a40, .ref a41, .int 0, .ref a43, .ref a44, .ref a45, .ref a46, .ref a47, .int 0, .int 0, .int 0, .int 0, .ref a52, .ref a53, .int 0, .int 0, .ref a56, .ref a57, .int 0, .ref a59, .ref a60, .ref a61]))] sz)) (va_Qi (fun (r : Int32) (_ : Unit) => r = f_X9_fits p0 p1 p2) (fun _ _ => True) (x_new sz)) 0 0 (x_new sz) := by
  refine Met.ofW (cc := cX9_fits) (maxL := 4) (ret := (some .boolean)) (by decide) rfl ?_
  intro p e s m args below meth c s₁ B hml hv
  obtain ⟨rfl, hsz, hP, hK, hN⟩ := hv
  have hx := B.exec
  have hb := B.bytes
  have hr := B.returns
  have hts := atoms_spec (ws := wsX9_fits) B.pre
  have hown : s.vm.findClass RX9 = some m.cls := findClass_of_methodNamed B.named
  have hlocks := B.notSynchronized
  have k_1 := hts (.fieldLink RX9 161 "FlowJudgeModel" "shapes" "I") (by decide +kernel)
  have k_2 := hts (.fieldLink RX9 158 "FlowJudgeModel" "fields" "I") (by decide +kernel)
  subst hsz
  have hA : ∀ q : Nat, s.heap.size ≤ q → x_new s.heap.size q := fun _ h => h
  have hS : va_S (x_new s.heap.size) s.heap s.heap [] := va_S.rf
  have hP : va_P (dC, dI) vwCl [(h0, .inr (9, [.int 0, .int 4, .int 0, .int 0, .ref a4, .ref a5, .ref a6, .ref a7, .ref a8, .ref a9, .ref a10, .ref a11, .ref a12, .int 0, .int 0, .int (-1), .int 0, .int 0, .int 0, .ref a19, .int 0, .int 0, .int 0, .ref a23, .ref a24, .ref a25, .ref a26, .ref a27, .ref a28, .ref a29, .ref a30, .ref a31, .ref a32, .ref a33, .ref a34, .int 0, .int 0, .ref a37, .ref a38, .ref a39, .ref a40, .ref a41, .int 0, .ref a43, .ref a44, .ref a45, .ref a46, .ref a47, .int 0, .int 0, .int 0, .int 0, .ref a52, .ref a53, .int 0, .int 0, .ref a56, .ref a57, .int 0, .ref a59, .ref a60, .ref a61]))] s.heap := hP
  have hl := lv_entry ([.ref h0, .int p0, .int p1, .int p2]) (n := 4) (Nat.le_of_ble_eq_true rfl)
  rw [lg_entry_eq]
  generalize (lg_sl ([.ref h0, .int p0, .int p1, .int p2]) ++ List.replicate (4 - (lg_sl ([.ref h0, .int p0, .int p1, .int p2])).length) Slot.unset).toArray = ls at hl ⊢
  have hl : lv_has ls 4 [(0, .ref h0), (1, .int p0), (2, .int p1), (3, .int p2)] := hl
  obtain ⟨H, hH⟩ : ∃ z, z = s.heap := ⟨_, rfl⟩
  refine x_here hH ?_
  have hP : va_P (dC, dI) vwCl [(h0, .inr (9, [.int 0, .int 4, .int 0, .int 0, .ref a4, .ref a5, .ref a6, .ref a7, .ref a8, .ref a9, .ref a10, .ref a11, .ref a12, .int 0, .int 0, .int (-1), .int 0, .int 0, .int 0, .ref a19, .int 0, .int 0, .int 0, .ref a23, .ref a24, .ref a25, .ref a26, .ref a27, .ref a28, .ref a29, .ref a30, .ref a31, .ref a32, .ref a33, .ref a34, .int 0, .int 0, .ref a37, .ref a38, .ref a39, .ref a40, .ref a41, .int 0, .ref a43, .ref a44, .ref a45, .ref a46, .ref a47, .int 0, .int 0, .int 0, .int 0, .ref a52, .ref a53, .int 0, .int 0, .ref a56, .ref a57, .int 0, .ref a59, .ref a60, .ref a61]))] H := by rw [hH]; exact hP
  have hS : va_S (x_new s.heap.size) s.heap H [] := by rw [hH]; exact va_S.rf
  clear hH
  refine x_cut (g2 := F0 m 438 ls []) (E := f_X9_fits p0 p1 p2 = f_X9_fits_438 p0 p1 p2) (fun J_438 => ?_) (fun e_438 => ?_)
  rotate_left
  · skip
    refine lv_aload_n hx hb dX9_fits_438 rfl (lv_at hl 0 rfl) ?_
    refine lv_iload_n hx hb dX9_fits_439 rfl (lv_at hl 2 rfl) ?_
    have hPc := hP.sub (ws' := [(h0, .inr (9, [.int 0, .int 4, .int 0, .int 0, .ref a4, .ref a5, .ref a6, .ref a7, .ref a8, .ref a9, .ref a10, .ref a11, .ref a12, .int 0, .int 0, .int (-1), .int 0, .int 0, .int 0, .ref a19, .int 0, .int 0, .int 0, .ref a23, .ref a24, .ref a25, .ref a26, .ref a27, .ref a28, .ref a29, .ref a30, .ref a31, .ref a32, .ref a33, .ref a34, .int 0, .int 0, .ref a37, .ref a38, .ref a39, .ref a40, .ref a41, .int 0, .ref a43, .ref a44, .ref a45, .ref a46, .ref a47, .int 0, .int 0, .int 0, .int 0, .ref a52, .ref a53, .int 0, .int 0, .ref a56, .ref a57, .int 0, .ref a59, .ref a60, .ref a61]))]) [0] rfl
    refine va_calli (va_runV (As := [.int p1]) (rest := []) ⟨hx, hb, hml, hown, hts⟩ (c_X9_isType l dC dI cyI cyZ cyJ H.size h0 a4 a5 a6 a7 a8 a9 a10 a11 a12 a19 a23 a24 a25 a26 a27 a28 a29 a30 a31 a32 a33 a34 a37 a38 a39 a40 a41 a43 a44 a45 a46 a47 a52 a53 a56 a57 a59 a60 a61 p1) (cwV 1 hts gX9_fits_X9_isType rfl rfl rfl (by decide +kernel) ⟨Nat.le_of_ble_eq_true rfl, Nat.le_of_ble_eq_true rfl⟩) (x_pV hN hK hPc (ci := 9) (q0 := 0) rfl rfl) rfl rfl hl.1 rfl (lv_room (Nat.le_of_ble_eq_true rfl)) dX9_fits_440 ⟨Nat.le_of_ble_eq_true rfl, Nat.le_of_ble_eq_true rfl⟩) hS x_nA (x_nf hA hS) (fun r_440 u t H1 locs ht hvm hw hB hz1 hk1 hS => ?_)
    have hP := x_kp hP hk1
    clear ht hvm hB hz1 hk1 t u hPc
    generalize H1 = H at hP hS ⊢
    obtain rfl := hw
    refine lv_if_eq (tgt := 458) hx hb dX9_fits_443 (by decide) (fun c_1 => ?_) (fun c_1 => ?_)
    · skip
      refine lv_iconst (v := 0) hx hb dX9_fits_458 (by decide) ?_
      exact W.zret (ty := .boolean) hx hb hr rfl (fun t ht hW => ⟨⟨_, (), rfl, by rw [e_438, f_X9_fits_438, if_pos c_1], trivial⟩, hS.F ht⟩) hS.2.2 dX9_fits_459
    · skip
      refine lv_aload_n hx hb dX9_fits_446 rfl (lv_at hl 0 rfl) ?_
      refine lv_iload_n hx hb dX9_fits_447 rfl (lv_at hl 2 rfl) ?_
      have hPc := hP.sub (ws' := [(h0, .inr (9, [.int 0, .int 4, .int 0, .int 0, .ref a4, .ref a5, .ref a6, .ref a7, .ref a8, .ref a9, .ref a10, .ref a11, .ref a12, .int 0, .int 0, .int (-1), .int 0, .int 0, .int 0, .ref a19, .int 0, .int 0, .int 0, .ref a23, .ref a24, .ref a25, .ref a26, .ref a27, .ref a28, .ref a29, .ref a30, .ref a31, .ref a32, .ref a33, .ref a34, .int 0, .int 0, .ref a37, .ref a38, .ref a39, .ref a40, .ref a41, .int 0, .ref a43, .ref a44, .ref a45, .ref a46, .ref a47, .int 0, .int 0, .int 0, .int 0, .ref a52, .ref a53, .int 0, .int 0, .ref a56, .ref a57, .int 0, .ref a59, .ref a60, .ref a61]))]) [0] rfl
      refine va_calli (va_runV (As := [.int p1]) (rest := []) ⟨hx, hb, hml, hown, hts⟩ (c_X9_isPrimitive l dC dI cyI cyZ cyJ H.size h0 a4 a5 a6 a7 a8 a9 a10 a11 a12 a19 a23 a24 a25 a26 a27 a28 a29 a30 a31 a32 a33 a34 a37 a38 a39 a40 a41 a43 a44 a45 a46 a47 a52 a53 a56 a57 a59 a60 a61 p1) (cwV 1 hts gX9_fits_X9_isPrimitive rfl rfl rfl (by decide +kernel) ⟨Nat.le_of_ble_eq_true rfl, Nat.le_of_ble_eq_true rfl⟩) (x_pV hN hK hPc (ci := 9) (q0 := 0) rfl rfl) rfl rfl hl.1 rfl (lv_room (Nat.le_of_ble_eq_true rfl)) dX9_fits_448 ⟨Nat.le_of_ble_eq_true rfl, Nat.le_of_ble_eq_true rfl⟩) hS x_nA (x_nf hA hS) (fun r_448 u t H1 locs ht hvm hw hB hz1 hk1 hS => ?_)
      have hP := x_kp hP hk1
      clear ht hvm hB hz1 hk1 t u hPc
      generalize H1 = H at hP hS ⊢
      obtain rfl := hw
      refine lv_if_ne (tgt := 458) hx hb dX9_fits_451 (by decide) (fun c_2 => ?_) (fun c_2 => ?_)
      · skip
        refine lv_iconst (v := 0) hx hb dX9_fits_458 (by decide) ?_
        exact W.zret (ty := .boolean) hx hb hr rfl (fun t ht hW => ⟨⟨_, (), rfl, by rw [e_438, f_X9_fits_438, if_neg c_1, if_neg c_2], trivial⟩, hS.F ht⟩) hS.2.2 dX9_fits_459
      · skip
        refine lv_iconst (v := 1) hx hb dX9_fits_454 (by decide) ?_
        refine lv_goto (tgt := 459) hx hb dX9_fits_455 (by decide) ?_
        exact W.zret (ty := .boolean) hx hb hr rfl (fun t ht hW => ⟨⟨_, (), rfl, by rw [e_438, f_X9_fits_438, if_neg c_1, if_pos c_2], trivial⟩, hS.F ht⟩) hS.2.2 dX9_fits_459
  refine x_cut (g2 := F0 m 349 ls []) (E := f_X9_fits p0 p1 p2 = f_X9_fits_349 p0 p1 p2) (fun J_349 => ?_) (fun e_349 => ?_)
  rotate_left
  · skip
    refine lv_iload_n hx hb dX9_fits_349 rfl (lv_at hl 1 rfl) ?_
    refine lv_sipush (v := 187) hx hb dX9_fits_350 (by decide) ?_
    refine lv_icmp_ne (tgt := 362) hx hb dX9_fits_353 (by decide) (fun c_3 => ?_) (fun c_3 => ?_)
    · skip
      refine lv_iload_n hx hb dX9_fits_362 rfl (lv_at hl 1 rfl) ?_
      refine lv_sipush (v := 188) hx hb dX9_fits_363 (by decide) ?_
      refine lv_icmp_ne (tgt := 385) hx hb dX9_fits_366 (by decide) (fun c_4 => ?_) (fun c_4 => ?_)
      · skip
        refine lv_iload_n hx hb dX9_fits_385 rfl (lv_at hl 1 rfl) ?_
        refine lv_sipush (v := 189) hx hb dX9_fits_386 (by decide) ?_
        refine lv_icmp_ne (tgt := 424) hx hb dX9_fits_389 (by decide) (fun c_5 => ?_) (fun c_5 => ?_)
        · skip
          refine lv_iload_n hx hb dX9_fits_424 rfl (lv_at hl 1 rfl) ?_
          refine lv_sipush (v := 192) hx hb dX9_fits_425 (by decide) ?_
          refine lv_icmp_eq (tgt := 438) hx hb dX9_fits_428 (by decide) (fun c_6 => ?_) (fun c_6 => ?_)
          · skip
            exact J_438 (by rw [e_349, f_X9_fits_349, if_neg c_3, if_neg c_4, if_neg c_5, if_pos c_6])
          · skip
            refine lv_iload_n hx hb dX9_fits_431 rfl (lv_at hl 1 rfl) ?_
            refine lv_sipush (v := 193) hx hb dX9_fits_432 (by decide) ?_
            refine lv_icmp_ne (tgt := 458) hx hb dX9_fits_435 (by decide) (fun c_7 => ?_) (fun c_7 => ?_)
            · skip
              refine lv_iconst (v := 0) hx hb dX9_fits_458 (by decide) ?_
              exact W.zret (ty := .boolean) hx hb hr rfl (fun t ht hW => ⟨⟨_, (), rfl, by rw [e_349, f_X9_fits_349, if_neg c_3, if_neg c_4, if_neg c_5, if_neg c_6, if_neg c_7], trivial⟩, hS.F ht⟩) hS.2.2 dX9_fits_459
            · skip
              exact J_438 (by rw [e_349, f_X9_fits_349, if_neg c_3, if_neg c_4, if_neg c_5, if_neg c_6, if_pos c_7])
        · skip
          refine lv_aload_n hx hb dX9_fits_392 rfl (lv_at hl 0 rfl) ?_
          refine lv_iload_n hx hb dX9_fits_393 rfl (lv_at hl 2 rfl) ?_
          have hPc := hP.sub (ws' := [(h0, .inr (9, [.int 0, .int 4, .int 0, .int 0, .ref a4, .ref a5, .ref a6, .ref a7, .ref a8, .ref a9, .ref a10, .ref a11, .ref a12, .int 0, .int 0, .int (-1), .int 0, .int 0, .int 0, .ref a19, .int 0, .int 0, .int 0, .ref a23, .ref a24, .ref a25, .ref a26, .ref a27, .ref a28, .ref a29, .ref a30, .ref a31, .ref a32, .ref a33, .ref a34, .int 0, .int 0, .ref a37, .ref a38, .ref a39, .ref a40, .ref a41, .int 0, .ref a43, .ref a44, .ref a45, .ref a46, .ref a47, .int 0, .int 0, .int 0, .int 0, .ref a52, .ref a53, .int 0, .int 0, .ref a56, .ref a57, .int 0, .ref a59, .ref a60, .ref a61]))]) [0] rfl
          refine va_calli (va_runV (As := [.int p1]) (rest := []) ⟨hx, hb, hml, hown, hts⟩ (c_X9_isType l dC dI cyI cyZ cyJ H.size h0 a4 a5 a6 a7 a8 a9 a10 a11 a12 a19 a23 a24 a25 a26 a27 a28 a29 a30 a31 a32 a33 a34 a37 a38 a39 a40 a41 a43 a44 a45 a46 a47 a52 a53 a56 a57 a59 a60 a61 p1) (cwV 1 hts gX9_fits_X9_isType rfl rfl rfl (by decide +kernel) ⟨Nat.le_of_ble_eq_true rfl, Nat.le_of_ble_eq_true rfl⟩) (x_pV hN hK hPc (ci := 9) (q0 := 0) rfl rfl) rfl rfl hl.1 rfl (lv_room (Nat.le_of_ble_eq_true rfl)) dX9_fits_394 ⟨Nat.le_of_ble_eq_true rfl, Nat.le_of_ble_eq_true rfl⟩) hS x_nA (x_nf hA hS) (fun r_394 u t H1 locs ht hvm hw hB hz1 hk1 hS => ?_)
          have hP := x_kp hP hk1
          clear ht hvm hB hz1 hk1 t u hPc
          generalize H1 = H at hP hS ⊢
          obtain rfl := hw
          refine lv_if_eq (tgt := 422) hx hb dX9_fits_397 (by decide) (fun c_8 => ?_) (fun c_8 => ?_)
          · skip
            refine lv_iconst (v := 0) hx hb dX9_fits_422 (by decide) ?_
            exact W.zret (ty := .boolean) hx hb hr rfl (fun t ht hW => ⟨⟨_, (), rfl, by rw [e_349, f_X9_fits_349, if_neg c_3, if_neg c_4, if_pos c_5, if_pos c_8], trivial⟩, hS.F ht⟩) hS.2.2 dX9_fits_423
          · skip
            refine lv_aload_n hx hb dX9_fits_400 rfl (lv_at hl 0 rfl) ?_
            refine lv_iload_n hx hb dX9_fits_401 rfl (lv_at hl 2 rfl) ?_
            have hPc := hP.sub (ws' := [(h0, .inr (9, [.int 0, .int 4, .int 0, .int 0, .ref a4, .ref a5, .ref a6, .ref a7, .ref a8, .ref a9, .ref a10, .ref a11, .ref a12, .int 0, .int 0, .int (-1), .int 0, .int 0, .int 0, .ref a19, .int 0, .int 0, .int 0, .ref a23, .ref a24, .ref a25, .ref a26, .ref a27, .ref a28, .ref a29, .ref a30, .ref a31, .ref a32, .ref a33, .ref a34, .int 0, .int 0, .ref a37, .ref a38, .ref a39, .ref a40, .ref a41, .int 0, .ref a43, .ref a44, .ref a45, .ref a46, .ref a47, .int 0, .int 0, .int 0, .int 0, .ref a52, .ref a53, .int 0, .int 0, .ref a56, .ref a57, .int 0, .ref a59, .ref a60, .ref a61]))]) [0] rfl
            refine va_calli (va_runV (As := [.int p1]) (rest := []) ⟨hx, hb, hml, hown, hts⟩ (c_X9_isPrimitive l dC dI cyI cyZ cyJ H.size h0 a4 a5 a6 a7 a8 a9 a10 a11 a12 a19 a23 a24 a25 a26 a27 a28 a29 a30 a31 a32 a33 a34 a37 a38 a39 a40 a41 a43 a44 a45 a46 a47 a52 a53 a56 a57 a59 a60 a61 p1) (cwV 1 hts gX9_fits_X9_isPrimitive rfl rfl rfl (by decide +kernel) ⟨Nat.le_of_ble_eq_true rfl, Nat.le_of_ble_eq_true rfl⟩) (x_pV hN hK hPc (ci := 9) (q0 := 0) rfl rfl) rfl rfl hl.1 rfl (lv_room (Nat.le_of_ble_eq_true rfl)) dX9_fits_402 ⟨Nat.le_of_ble_eq_true rfl, Nat.le_of_ble_eq_true rfl⟩) hS x_nA (x_nf hA hS) (fun r_402 u t H1 locs ht hvm hw hB hz1 hk1 hS => ?_)
            have hP := x_kp hP hk1
            clear ht hvm hB hz1 hk1 t u hPc
            generalize H1 = H at hP hS ⊢
            obtain rfl := hw
            refine lv_if_ne (tgt := 422) hx hb dX9_fits_405 (by decide) (fun c_9 => ?_) (fun c_9 => ?_)
            · skip
              refine lv_iconst (v := 0) hx hb dX9_fits_422 (by decide) ?_
              exact W.zret (ty := .boolean) hx hb hr rfl (fun t ht hW => ⟨⟨_, (), rfl, by rw [e_349, f_X9_fits_349, if_neg c_3, if_neg c_4, if_pos c_5, if_neg c_8, if_neg c_9], trivial⟩, hS.F ht⟩) hS.2.2 dX9_fits_423
            · skip
              refine lv_iload_n hx hb dX9_fits_408 rfl (lv_at hl 2 rfl) ?_
              refine lv_bipush (v := 16) hx hb dX9_fits_409 (by decide) ?_
              refine lv_ishr hx hb dX9_fits_411 ?_
              refine lv_sipush (v := 255) hx hb dX9_fits_412 (by decide) ?_
              refine lv_icmp_ge (tgt := 422) hx hb dX9_fits_415 (by decide) (fun c_10 => ?_) (fun c_10 => ?_)
              · skip
                refine lv_iconst (v := 0) hx hb dX9_fits_422 (by decide) ?_
                exact W.zret (ty := .boolean) hx hb hr rfl (fun t ht hW => ⟨⟨_, (), rfl, by rw [e_349, f_X9_fits_349, if_neg c_3, if_neg c_4, if_pos c_5, if_neg c_8, if_pos c_9, if_pos c_10], trivial⟩, hS.F ht⟩) hS.2.2 dX9_fits_423
              · skip
                refine lv_iconst (v := 1) hx hb dX9_fits_418 (by decide) ?_
                refine lv_goto (tgt := 423) hx hb dX9_fits_419 (by decide) ?_
                exact W.zret (ty := .boolean) hx hb hr rfl (fun t ht hW => ⟨⟨_, (), rfl, by rw [e_349, f_X9_fits_349, if_neg c_3, if_neg c_4, if_pos c_5, if_neg c_8, if_pos c_9, if_neg c_10], trivial⟩, hS.F ht⟩) hS.2.2 dX9_fits_423
      · skip
        refine lv_iload_n hx hb dX9_fits_369 rfl (lv_at hl 2 rfl) ?_
        refine lv_if_lt (tgt := 383) hx hb dX9_fits_370 (by decide) (fun c_11 => ?_) (fun c_11 => ?_)
        · skip
          refine lv_iconst (v := 0) hx hb dX9_fits_383 (by decide) ?_
          exact W.zret (ty := .boolean) hx hb hr rfl (fun t ht hW => ⟨⟨_, (), rfl, by rw [e_349, f_X9_fits_349, if_neg c_3, if_pos c_4, if_pos c_11], trivial⟩, hS.F ht⟩) hS.2.2 dX9_fits_384
        · skip
          refine lv_iload_n hx hb dX9_fits_373 rfl (lv_at hl 2 rfl) ?_
          refine lv_bipush (v := 7) hx hb dX9_fits_374 (by decide) ?_
          refine lv_icmp_gt (tgt := 383) hx hb dX9_fits_376 (by decide) (fun c_12 => ?_) (fun c_12 => ?_)
          · skip
            refine lv_iconst (v := 0) hx hb dX9_fits_383 (by decide) ?_
            exact W.zret (ty := .boolean) hx hb hr rfl (fun t ht hW => ⟨⟨_, (), rfl, by rw [e_349, f_X9_fits_349, if_neg c_3, if_pos c_4, if_neg c_11, if_pos c_12], trivial⟩, hS.F ht⟩) hS.2.2 dX9_fits_384
          · skip
            refine lv_iconst (v := 1) hx hb dX9_fits_379 (by decide) ?_
            refine lv_goto (tgt := 384) hx hb dX9_fits_380 (by decide) ?_
            exact W.zret (ty := .boolean) hx hb hr rfl (fun t ht hW => ⟨⟨_, (), rfl, by rw [e_349, f_X9_fits_349, if_neg c_3, if_pos c_4, if_neg c_11, if_neg c_12], trivial⟩, hS.F ht⟩) hS.2.2 dX9_fits_384
    · skip
      refine lv_aload_n hx hb dX9_fits_356 rfl (lv_at hl 0 rfl) ?_
      refine lv_iload_n hx hb dX9_fits_357 rfl (lv_at hl 2 rfl) ?_
      have hPc := hP.sub (ws' := [(h0, .inr (9, [.int 0, .int 4, .int 0, .int 0, .ref a4, .ref a5, .ref a6, .ref a7, .ref a8, .ref a9, .ref a10, .ref a11, .ref a12, .int 0, .int 0, .int (-1), .int 0, .int 0, .int 0, .ref a19, .int 0, .int 0, .int 0, .ref a23, .ref a24, .ref a25, .ref a26, .ref a27, .ref a28, .ref a29, .ref a30, .ref a31, .ref a32, .ref a33, .ref a34, .int 0, .int 0, .ref a37, .ref a38, .ref a39, .ref a40, .ref a41, .int 0, .ref a43, .ref a44, .ref a45, .ref a46, .ref a47, .int 0, .int 0, .int 0, .int 0, .ref a52, .ref a53, .int 0, .int 0, .ref a56, .ref a57, .int 0, .ref a59, .ref a60, .ref a61]))]) [0] rfl
      refine va_calli (va_runV (As := [.int p1]) (rest := []) ⟨hx, hb, hml, hown, hts⟩ (c_X9_isClass l dC dI cyI cyZ cyJ H.size h0 a4 a5 a6 a7 a8 a9 a10 a11 a12 a19 a23 a24 a25 a26 a27 a28 a29 a30 a31 a32 a33 a34 a37 a38 a39 a40 a41 a43 a44 a45 a46 a47 a52 a53 a56 a57 a59 a60 a61 p1) (cwV 1 hts gX9_fits_X9_isClass rfl rfl rfl (by decide +kernel) ⟨Nat.le_of_ble_eq_true rfl, Nat.le_of_ble_eq_true rfl⟩) (x_pV hN hK hPc (ci := 9) (q0 := 0) rfl rfl) rfl rfl hl.1 rfl (lv_room (Nat.le_of_ble_eq_true rfl)) dX9_fits_358 ⟨Nat.le_of_ble_eq_true rfl, Nat.le_of_ble_eq_true rfl⟩) hS x_nA (x_nf hA hS) (fun r_358 u t H1 locs ht hvm hw hB hz1 hk1 hS => ?_)
      have hP := x_kp hP hk1
      clear ht hvm hB hz1 hk1 t u hPc
      generalize H1 = H at hP hS ⊢
      obtain rfl := hw
      exact W.zret (ty := .boolean) hx hb hr (b_X9_isClass p1) (fun t ht hW => ⟨⟨_, (), rfl, by rw [e_349, f_X9_fits_349, if_pos c_3], trivial⟩, hS.F ht⟩) hS.2.2 dX9_fits_361
  refine x_cut (g2 := F0 m 317 ls []) (E := f_X9_fits p0 p1 p2 = f_X9_fits_317 p0 p1 p2) (fun J_317 => ?_) (fun e_317 => ?_)
  rotate_left
  · skip
    refine lv_iload_n hx hb dX9_fits_317 rfl (lv_at hl 1 rfl) ?_
    refine lv_sipush (v := 182) hx hb dX9_fits_318 (by decide) ?_
    refine lv_icmp_lt (tgt := 349) hx hb dX9_fits_321 (by decide) (fun c_13 => ?_) (fun c_13 => ?_)
    · skip
      exact J_349 (by rw [e_317, f_X9_fits_317, if_pos c_13])
    · skip
      refine lv_iload_n hx hb dX9_fits_324 rfl (lv_at hl 1 rfl) ?_
      refine lv_sipush (v := 186) hx hb dX9_fits_325 (by decide) ?_
      refine lv_icmp_gt (tgt := 349) hx hb dX9_fits_328 (by decide) (fun c_14 => ?_) (fun c_14 => ?_)
      · skip
        exact J_349 (by rw [e_317, f_X9_fits_317, if_neg c_13, if_pos c_14])
      · skip
        refine lv_iload_n hx hb dX9_fits_331 rfl (lv_at hl 2 rfl) ?_
        refine lv_if_lt (tgt := 347) hx hb dX9_fits_332 (by decide) (fun c_15 => ?_) (fun c_15 => ?_)
        · skip
          refine lv_iconst (v := 0) hx hb dX9_fits_347 (by decide) ?_
          exact W.zret (ty := .boolean) hx hb hr rfl (fun t ht hW => ⟨⟨_, (), rfl, by rw [e_317, f_X9_fits_317, if_neg c_13, if_neg c_14, if_pos c_15], trivial⟩, hS.F ht⟩) hS.2.2 dX9_fits_348
        · skip
          refine lv_iload_n hx hb dX9_fits_335 rfl (lv_at hl 2 rfl) ?_
          refine lv_aload_n hx hb dX9_fits_336 rfl (lv_at hl 0 rfl) ?_
          refine va_get (D := (dC, dI)) (ci := 9) (v := .int 0) (C := RX9) (T := TX9) (N := 62) hx hb hts i_X9_fits_X9 hown hK hP 0 rfl rfl 3 (by decide) k_1 (fun _ h9 => h9) rfl dX9_fits_337 ?_
          refine lv_icmp_ge (tgt := 347) hx hb dX9_fits_340 (by decide) (fun c_16 => ?_) (fun c_16 => ?_)
          · skip
            refine lv_iconst (v := 0) hx hb dX9_fits_347 (by decide) ?_
            exact W.zret (ty := .boolean) hx hb hr rfl (fun t ht hW => ⟨⟨_, (), rfl, by rw [e_317, f_X9_fits_317, if_neg c_13, if_neg c_14, if_neg c_15, if_pos c_16], trivial⟩, hS.F ht⟩) hS.2.2 dX9_fits_348
          · skip
            refine lv_iconst (v := 1) hx hb dX9_fits_343 (by decide) ?_
            refine lv_goto (tgt := 348) hx hb dX9_fits_344 (by decide) ?_
            exact W.zret (ty := .boolean) hx hb hr rfl (fun t ht hW => ⟨⟨_, (), rfl, by rw [e_317, f_X9_fits_317, if_neg c_13, if_neg c_14, if_neg c_15, if_neg c_16], trivial⟩, hS.F ht⟩) hS.2.2 dX9_fits_348
  refine x_cut (g2 := F0 m 275 ls []) (E := f_X9_fits p0 p1 p2 = f_X9_fits_275 p0 p1 p2) (fun J_275 => ?_) (fun e_275 => ?_)
  rotate_left
  · skip
    refine lv_iload_n hx hb dX9_fits_275 rfl (lv_at hl 2 rfl) ?_
    refine lv_if_lt (tgt := 283) hx hb dX9_fits_276 (by decide) (fun c_17 => ?_) (fun c_17 => ?_)
    · skip
      refine lv_iconst (v := 0) hx hb dX9_fits_283 (by decide) ?_
      exact W.zret (ty := .boolean) hx hb hr rfl (fun t ht hW => ⟨⟨_, (), rfl, by rw [e_275, f_X9_fits_275, if_pos c_17], trivial⟩, hS.F ht⟩) hS.2.2 dX9_fits_284
    · skip
      refine lv_iconst (v := 1) hx hb dX9_fits_279 (by decide) ?_
      refine lv_goto (tgt := 284) hx hb dX9_fits_280 (by decide) ?_
      exact W.zret (ty := .boolean) hx hb hr rfl (fun t ht hW => ⟨⟨_, (), rfl, by rw [e_275, f_X9_fits_275, if_neg c_17], trivial⟩, hS.F ht⟩) hS.2.2 dX9_fits_284
  refine x_cut (g2 := F0 m 261 ls []) (E := f_X9_fits p0 p1 p2 = f_X9_fits_261 p0 p1 p2) (fun J_261 => ?_) (fun e_261 => ?_)
  rotate_left
  · skip
    refine lv_iload_n hx hb dX9_fits_261 rfl (lv_at hl 1 rfl) ?_
    refine lv_sipush (v := 198) hx hb dX9_fits_262 (by decide) ?_
    refine lv_icmp_eq (tgt := 275) hx hb dX9_fits_265 (by decide) (fun c_18 => ?_) (fun c_18 => ?_)
    · skip
      exact J_275 (by rw [e_261, f_X9_fits_261, if_pos c_18])
    · skip
      refine lv_iload_n hx hb dX9_fits_268 rfl (lv_at hl 1 rfl) ?_
      refine lv_sipush (v := 199) hx hb dX9_fits_269 (by decide) ?_
      refine lv_icmp_ne (tgt := 285) hx hb dX9_fits_272 (by decide) (fun c_19 => ?_) (fun c_19 => ?_)
      · skip
        refine lv_iload_n hx hb dX9_fits_285 rfl (lv_at hl 1 rfl) ?_
        refine lv_sipush (v := 178) hx hb dX9_fits_286 (by decide) ?_
        refine lv_icmp_lt (tgt := 317) hx hb dX9_fits_289 (by decide) (fun c_20 => ?_) (fun c_20 => ?_)
        · skip
          exact J_317 (by rw [e_261, f_X9_fits_261, if_neg c_18, if_neg c_19, if_pos c_20])
        · skip
          refine lv_iload_n hx hb dX9_fits_292 rfl (lv_at hl 1 rfl) ?_
          refine lv_sipush (v := 181) hx hb dX9_fits_293 (by decide) ?_
          refine lv_icmp_gt (tgt := 317) hx hb dX9_fits_296 (by decide) (fun c_21 => ?_) (fun c_21 => ?_)
          · skip
            exact J_317 (by rw [e_261, f_X9_fits_261, if_neg c_18, if_neg c_19, if_neg c_20, if_pos c_21])
          · skip
            refine lv_iload_n hx hb dX9_fits_299 rfl (lv_at hl 2 rfl) ?_
            refine lv_if_lt (tgt := 315) hx hb dX9_fits_300 (by decide) (fun c_22 => ?_) (fun c_22 => ?_)
            · skip
              refine lv_iconst (v := 0) hx hb dX9_fits_315 (by decide) ?_
              exact W.zret (ty := .boolean) hx hb hr rfl (fun t ht hW => ⟨⟨_, (), rfl, by rw [e_261, f_X9_fits_261, if_neg c_18, if_neg c_19, if_neg c_20, if_neg c_21, if_pos c_22], trivial⟩, hS.F ht⟩) hS.2.2 dX9_fits_316
            · skip
              refine lv_iload_n hx hb dX9_fits_303 rfl (lv_at hl 2 rfl) ?_
              refine lv_aload_n hx hb dX9_fits_304 rfl (lv_at hl 0 rfl) ?_
              refine va_get (D := (dC, dI)) (ci := 9) (v := .int 0) (C := RX9) (T := TX9) (N := 62) hx hb hts i_X9_fits_X9 hown hK hP 0 rfl rfl 2 (by decide) k_2 (fun _ h9 => h9) rfl dX9_fits_305 ?_
              refine lv_icmp_ge (tgt := 315) hx hb dX9_fits_308 (by decide) (fun c_23 => ?_) (fun c_23 => ?_)
              · skip
                refine lv_iconst (v := 0) hx hb dX9_fits_315 (by decide) ?_
                exact W.zret (ty := .boolean) hx hb hr rfl (fun t ht hW => ⟨⟨_, (), rfl, by rw [e_261, f_X9_fits_261, if_neg c_18, if_neg c_19, if_neg c_20, if_neg c_21, if_neg c_22, if_pos c_23], trivial⟩, hS.F ht⟩) hS.2.2 dX9_fits_316
              · skip
                refine lv_iconst (v := 1) hx hb dX9_fits_311 (by decide) ?_
                refine lv_goto (tgt := 316) hx hb dX9_fits_312 (by decide) ?_
                exact W.zret (ty := .boolean) hx hb hr rfl (fun t ht hW => ⟨⟨_, (), rfl, by rw [e_261, f_X9_fits_261, if_neg c_18, if_neg c_19, if_neg c_20, if_neg c_21, if_neg c_22, if_neg c_23], trivial⟩, hS.F ht⟩) hS.2.2 dX9_fits_316
      · skip
        exact J_275 (by rw [e_261, f_X9_fits_261, if_neg c_18, if_pos c_19])
  refine x_cut (g2 := F0 m 240 ls []) (E := f_X9_fits p0 p1 p2 = f_X9_fits_240 p0 p1 p2) (fun J_240 => ?_) (fun e_240 => ?_)
  rotate_left
  · skip
    refine lv_iload_n hx hb dX9_fits_240 rfl (lv_at hl 1 rfl) ?_
    refine lv_sipush (v := 169) hx hb dX9_fits_241 (by decide) ?_
    refine lv_icmp_eq (tgt := 275) hx hb dX9_fits_244 (by decide) (fun c_24 => ?_) (fun c_24 => ?_)
    · skip
      exact J_275 (by rw [e_240, f_X9_fits_240, if_pos c_24])
    · skip
      refine lv_iload_n hx hb dX9_fits_247 rfl (lv_at hl 1 rfl) ?_
      refine lv_sipush (v := 153) hx hb dX9_fits_248 (by decide) ?_
      refine lv_icmp_lt (tgt := 261) hx hb dX9_fits_251 (by decide) (fun c_25 => ?_) (fun c_25 => ?_)
      · skip
        exact J_261 (by rw [e_240, f_X9_fits_240, if_neg c_24, if_pos c_25])
      · skip
        refine lv_iload_n hx hb dX9_fits_254 rfl (lv_at hl 1 rfl) ?_
        refine lv_sipush (v := 168) hx hb dX9_fits_255 (by decide) ?_
        refine lv_icmp_le (tgt := 275) hx hb dX9_fits_258 (by decide) (fun c_26 => ?_) (fun c_26 => ?_)
        · skip
          exact J_275 (by rw [e_240, f_X9_fits_240, if_neg c_24, if_neg c_25, if_pos c_26])
        · skip
          exact J_261 (by rw [e_240, f_X9_fits_240, if_neg c_24, if_neg c_25, if_neg c_26])
  refine x_cut (g2 := F0 m 228 ls []) (E := f_X9_fits p0 p1 p2 = f_X9_fits_228 p0 p1 p2) (fun J_228 => ?_) (fun e_228 => ?_)
  rotate_left
  · skip
    refine lv_iload_n hx hb dX9_fits_228 rfl (lv_at hl 1 rfl) ?_
    refine lv_bipush (v := 54) hx hb dX9_fits_229 (by decide) ?_
    refine lv_icmp_lt (tgt := 240) hx hb dX9_fits_231 (by decide) (fun c_27 => ?_) (fun c_27 => ?_)
    · skip
      exact J_240 (by rw [e_228, f_X9_fits_228, if_pos c_27])
    · skip
      refine lv_iload_n hx hb dX9_fits_234 rfl (lv_at hl 1 rfl) ?_
      refine lv_bipush (v := 58) hx hb dX9_fits_235 (by decide) ?_
      refine lv_icmp_le (tgt := 275) hx hb dX9_fits_237 (by decide) (fun c_28 => ?_) (fun c_28 => ?_)
      · skip
        exact J_275 (by rw [e_228, f_X9_fits_228, if_neg c_27, if_pos c_28])
      · skip
        exact J_240 (by rw [e_228, f_X9_fits_228, if_neg c_27, if_neg c_28])
  refine x_cut (g2 := F0 m 91 ls []) (E := f_X9_fits p0 p1 p2 = f_X9_fits_91 p0 p1 p2) (fun J_91 => ?_) (fun e_91 => ?_)
  rotate_left
  · skip
    refine lv_iload_n hx hb dX9_fits_91 rfl (lv_at hl 2 rfl) ?_
    refine lv_if_ne (tgt := 103) hx hb dX9_fits_92 (by decide) (fun c_29 => ?_) (fun c_29 => ?_)
    · skip
      refine lv_iconst (v := 0) hx hb dX9_fits_103 (by decide) ?_
      exact W.zret (ty := .boolean) hx hb hr rfl (fun t ht hW => ⟨⟨_, (), rfl, by rw [e_91, f_X9_fits_91, if_neg c_29], trivial⟩, hS.F ht⟩) hS.2.2 dX9_fits_104
    · skip
      refine lv_iload_n hx hb dX9_fits_95 rfl (lv_at hl 3 rfl) ?_
      refine lv_if_ne (tgt := 103) hx hb dX9_fits_96 (by decide) (fun c_30 => ?_) (fun c_30 => ?_)
      · skip
        refine lv_iconst (v := 0) hx hb dX9_fits_103 (by decide) ?_
        exact W.zret (ty := .boolean) hx hb hr rfl (fun t ht hW => ⟨⟨_, (), rfl, by rw [e_91, f_X9_fits_91, if_pos c_29, if_neg c_30], trivial⟩, hS.F ht⟩) hS.2.2 dX9_fits_104
      · skip
        refine lv_iconst (v := 1) hx hb dX9_fits_99 (by decide) ?_
        refine lv_goto (tgt := 104) hx hb dX9_fits_100 (by decide) ?_
        exact W.zret (ty := .boolean) hx hb hr rfl (fun t ht hW => ⟨⟨_, (), rfl, by rw [e_91, f_X9_fits_91, if_pos c_29, if_pos c_30], trivial⟩, hS.F ht⟩) hS.2.2 dX9_fits_104
  refine x_cut (g2 := F0 m 63 ls []) (E := f_X9_fits p0 p1 p2 = f_X9_fits_63 p0 p1 p2) (fun J_63 => ?_) (fun e_63 => ?_)
  rotate_left
  · skip
    refine lv_iload_n hx hb dX9_fits_63 rfl (lv_at hl 1 rfl) ?_
    refine lv_sipush (v := 190) hx hb dX9_fits_64 (by decide) ?_
    refine lv_icmp_eq (tgt := 91) hx hb dX9_fits_67 (by decide) (fun c_31 => ?_) (fun c_31 => ?_)
    · skip
      exact J_91 (by rw [e_63, f_X9_fits_63, if_pos c_31])
    · skip
      refine lv_iload_n hx hb dX9_fits_70 rfl (lv_at hl 1 rfl) ?_
      refine lv_sipush (v := 191) hx hb dX9_fits_71 (by decide) ?_
      refine lv_icmp_eq (tgt := 91) hx hb dX9_fits_74 (by decide) (fun c_32 => ?_) (fun c_32 => ?_)
      · skip
        exact J_91 (by rw [e_63, f_X9_fits_63, if_neg c_31, if_pos c_32])
      · skip
        refine lv_iload_n hx hb dX9_fits_77 rfl (lv_at hl 1 rfl) ?_
        refine lv_sipush (v := 194) hx hb dX9_fits_78 (by decide) ?_
        refine lv_icmp_eq (tgt := 91) hx hb dX9_fits_81 (by decide) (fun c_33 => ?_) (fun c_33 => ?_)
        · skip
          exact J_91 (by rw [e_63, f_X9_fits_63, if_neg c_31, if_neg c_32, if_pos c_33])
        · skip
          refine lv_iload_n hx hb dX9_fits_84 rfl (lv_at hl 1 rfl) ?_
          refine lv_sipush (v := 195) hx hb dX9_fits_85 (by decide) ?_
          refine lv_icmp_ne (tgt := 105) hx hb dX9_fits_88 (by decide) (fun c_34 => ?_) (fun c_34 => ?_)
          · skip
            refine lv_iload_n hx hb dX9_fits_105 rfl (lv_at hl 1 rfl) ?_
            refine lv_sipush (v := 132) hx hb dX9_fits_106 (by decide) ?_
            refine lv_icmp_ne (tgt := 122) hx hb dX9_fits_109 (by decide) (fun c_35 => ?_) (fun c_35 => ?_)
            · skip
              refine lv_iload_n hx hb dX9_fits_122 rfl (lv_at hl 1 rfl) ?_
              refine lv_sipush (v := 197) hx hb dX9_fits_123 (by decide) ?_
              refine lv_icmp_ne (tgt := 156) hx hb dX9_fits_126 (by decide) (fun c_36 => ?_) (fun c_36 => ?_)
              · skip
                refine lv_iload_n hx hb dX9_fits_156 rfl (lv_at hl 3 rfl) ?_
                refine lv_if_eq (tgt := 162) hx hb dX9_fits_157 (by decide) (fun c_37 => ?_) (fun c_37 => ?_)
                · skip
                  refine lv_iload_n hx hb dX9_fits_162 rfl (lv_at hl 1 rfl) ?_
                  refine lv_bipush (v := 16) hx hb dX9_fits_163 (by decide) ?_
                  refine lv_icmp_eq (tgt := 174) hx hb dX9_fits_165 (by decide) (fun c_38 => ?_) (fun c_38 => ?_)
                  · skip
                    refine lv_iconst (v := 1) hx hb dX9_fits_174 (by decide) ?_
                    exact W.zret (ty := .boolean) hx hb hr rfl (fun t ht hW => ⟨⟨_, (), rfl, by rw [e_63, f_X9_fits_63, if_neg c_31, if_neg c_32, if_neg c_33, if_neg c_34, if_neg c_35, if_neg c_36, if_pos c_37, if_pos c_38], trivial⟩, hS.F ht⟩) hS.2.2 dX9_fits_175
                  · skip
                    refine lv_iload_n hx hb dX9_fits_168 rfl (lv_at hl 1 rfl) ?_
                    refine lv_bipush (v := 17) hx hb dX9_fits_169 (by decide) ?_
                    refine lv_icmp_ne (tgt := 176) hx hb dX9_fits_171 (by decide) (fun c_39 => ?_) (fun c_39 => ?_)
                    · skip
                      refine lv_iload_n hx hb dX9_fits_176 rfl (lv_at hl 1 rfl) ?_
                      refine lv_bipush (v := 18) hx hb dX9_fits_177 (by decide) ?_
                      refine lv_icmp_ne (tgt := 204) hx hb dX9_fits_179 (by decide) (fun c_40 => ?_) (fun c_40 => ?_)
                      · skip
                        refine lv_iload_n hx hb dX9_fits_204 rfl (lv_at hl 1 rfl) ?_
                        refine lv_bipush (v := 20) hx hb dX9_fits_205 (by decide) ?_
                        refine lv_icmp_ne (tgt := 216) hx hb dX9_fits_207 (by decide) (fun c_41 => ?_) (fun c_41 => ?_)
                        · skip
                          refine lv_iload_n hx hb dX9_fits_216 rfl (lv_at hl 1 rfl) ?_
                          refine lv_bipush (v := 21) hx hb dX9_fits_217 (by decide) ?_
                          refine lv_icmp_lt (tgt := 228) hx hb dX9_fits_219 (by decide) (fun c_42 => ?_) (fun c_42 => ?_)
                          · skip
                            exact J_228 (by rw [e_63, f_X9_fits_63, if_neg c_31, if_neg c_32, if_neg c_33, if_neg c_34, if_neg c_35, if_neg c_36, if_pos c_37, if_neg c_38, if_neg c_39, if_neg c_40, if_neg c_41, if_pos c_42])
                          · skip
                            refine lv_iload_n hx hb dX9_fits_222 rfl (lv_at hl 1 rfl) ?_
                            refine lv_bipush (v := 25) hx hb dX9_fits_223 (by decide) ?_
                            refine lv_icmp_le (tgt := 275) hx hb dX9_fits_225 (by decide) (fun c_43 => ?_) (fun c_43 => ?_)
                            · skip
                              exact J_275 (by rw [e_63, f_X9_fits_63, if_neg c_31, if_neg c_32, if_neg c_33, if_neg c_34, if_neg c_35, if_neg c_36, if_pos c_37, if_neg c_38, if_neg c_39, if_neg c_40, if_neg c_41, if_neg c_42, if_pos c_43])
                            · skip
                              exact J_228 (by rw [e_63, f_X9_fits_63, if_neg c_31, if_neg c_32, if_neg c_33, if_neg c_34, if_neg c_35, if_neg c_36, if_pos c_37, if_neg c_38, if_neg c_39, if_neg c_40, if_neg c_41, if_neg c_42, if_neg c_43])
                        · skip
                          refine lv_aload_n hx hb dX9_fits_210 rfl (lv_at hl 0 rfl) ?_
                          refine lv_iload_n hx hb dX9_fits_211 rfl (lv_at hl 2 rfl) ?_
                          have hPc := hP.sub (ws' := [(h0, .inr (9, [.int 0, .int 4, .int 0, .int 0, .ref a4, .ref a5, .ref a6, .ref a7, .ref a8, .ref a9, .ref a10, .ref a11, .ref a12, .int 0, .int 0, .int (-1), .int 0, .int 0, .int 0, .ref a19, .int 0, .int 0, .int 0, .ref a23, .ref a24, .ref a25, .ref a26, .ref a27, .ref a28, .ref a29, .ref a30, .ref a31, .ref a32, .ref a33, .ref a34, .int 0, .int 0, .ref a37, .ref a38, .ref a39, .ref a40, .ref a41, .int 0, .ref a43, .ref a44, .ref a45, .ref a46, .ref a47, .int 0, .int 0, .int 0, .int 0, .ref a52, .ref a53, .int 0, .int 0, .ref a56, .ref a57, .int 0, .ref a59, .ref a60, .ref a61]))]) [0] rfl
                          refine va_calli (va_runV (As := [.int p1]) (rest := []) ⟨hx, hb, hml, hown, hts⟩ (c_X9_isWide l dC dI cyI cyZ cyJ H.size h0 a4 a5 a6 a7 a8 a9 a10 a11 a12 a19 a23 a24 a25 a26 a27 a28 a29 a30 a31 a32 a33 a34 a37 a38 a39 a40 a41 a43 a44 a45 a46 a47 a52 a53 a56 a57 a59 a60 a61 p1) (cwV 1 hts gX9_fits_X9_isWide rfl rfl rfl (by decide +kernel) ⟨Nat.le_of_ble_eq_true rfl, Nat.le_of_ble_eq_true rfl⟩) (x_pV hN hK hPc (ci := 9) (q0 := 0) rfl rfl) rfl rfl hl.1 rfl (lv_room (Nat.le_of_ble_eq_true rfl)) dX9_fits_212 ⟨Nat.le_of_ble_eq_true rfl, Nat.le_of_ble_eq_true rfl⟩) hS x_nA (x_nf hA hS) (fun r_212 u t H1 locs ht hvm hw hB hz1 hk1 hS => ?_)
                          have hP := x_kp hP hk1
                          clear ht hvm hB hz1 hk1 t u hPc
                          generalize H1 = H at hP hS ⊢
                          obtain rfl := hw
                          exact W.zret (ty := .boolean) hx hb hr (b_X9_isWide p1) (fun t ht hW => ⟨⟨_, (), rfl, by rw [e_63, f_X9_fits_63, if_neg c_31, if_neg c_32, if_neg c_33, if_neg c_34, if_neg c_35, if_neg c_36, if_pos c_37, if_neg c_38, if_neg c_39, if_neg c_40, if_pos c_41], trivial⟩, hS.F ht⟩) hS.2.2 dX9_fits_215
                      · skip
                        refine lv_aload_n hx hb dX9_fits_182 rfl (lv_at hl 0 rfl) ?_
                        refine lv_iload_n hx hb dX9_fits_183 rfl (lv_at hl 2 rfl) ?_
                        have hPc := hP.sub (ws' := [(h0, .inr (9, [.int 0, .int 4, .int 0, .int 0, .ref a4, .ref a5, .ref a6, .ref a7, .ref a8, .ref a9, .ref a10, .ref a11, .ref a12, .int 0, .int 0, .int (-1), .int 0, .int 0, .int 0, .ref a19, .int 0, .int 0, .int 0, .ref a23, .ref a24, .ref a25, .ref a26, .ref a27, .ref a28, .ref a29, .ref a30, .ref a31, .ref a32, .ref a33, .ref a34, .int 0, .int 0, .ref a37, .ref a38, .ref a39, .ref a40, .ref a41, .int 0, .ref a43, .ref a44, .ref a45, .ref a46, .ref a47, .int 0, .int 0, .int 0, .int 0, .ref a52, .ref a53, .int 0, .int 0, .ref a56, .ref a57, .int 0, .ref a59, .ref a60, .ref a61]))]) [0] rfl
                        refine va_calli (va_runV (As := [.int p1]) (rest := []) ⟨hx, hb, hml, hown, hts⟩ (c_X9_isType l dC dI cyI cyZ cyJ H.size h0 a4 a5 a6 a7 a8 a9 a10 a11 a12 a19 a23 a24 a25 a26 a27 a28 a29 a30 a31 a32 a33 a34 a37 a38 a39 a40 a41 a43 a44 a45 a46 a47 a52 a53 a56 a57 a59 a60 a61 p1) (cwV 1 hts gX9_fits_X9_isType rfl rfl rfl (by decide +kernel) ⟨Nat.le_of_ble_eq_true rfl, Nat.le_of_ble_eq_true rfl⟩) (x_pV hN hK hPc (ci := 9) (q0 := 0) rfl rfl) rfl rfl hl.1 rfl (lv_room (Nat.le_of_ble_eq_true rfl)) dX9_fits_184 ⟨Nat.le_of_ble_eq_true rfl, Nat.le_of_ble_eq_true rfl⟩) hS x_nA (x_nf hA hS) (fun r_184 u t H1 locs ht hvm hw hB hz1 hk1 hS => ?_)
                        have hP := x_kp hP hk1
                        clear ht hvm hB hz1 hk1 t u hPc
                        generalize H1 = H at hP hS ⊢
                        obtain rfl := hw
                        refine lv_if_eq (tgt := 202) hx hb dX9_fits_187 (by decide) (fun c_44 => ?_) (fun c_44 => ?_)
                        · skip
                          refine lv_iconst (v := 0) hx hb dX9_fits_202 (by decide) ?_
                          exact W.zret (ty := .boolean) hx hb hr rfl (fun t ht hW => ⟨⟨_, (), rfl, by rw [e_63, f_X9_fits_63, if_neg c_31, if_neg c_32, if_neg c_33, if_neg c_34, if_neg c_35, if_neg c_36, if_pos c_37, if_neg c_38, if_neg c_39, if_pos c_40, if_pos c_44], trivial⟩, hS.F ht⟩) hS.2.2 dX9_fits_203
                        · skip
                          refine lv_aload_n hx hb dX9_fits_190 rfl (lv_at hl 0 rfl) ?_
                          refine lv_iload_n hx hb dX9_fits_191 rfl (lv_at hl 2 rfl) ?_
                          have hPc := hP.sub (ws' := [(h0, .inr (9, [.int 0, .int 4, .int 0, .int 0, .ref a4, .ref a5, .ref a6, .ref a7, .ref a8, .ref a9, .ref a10, .ref a11, .ref a12, .int 0, .int 0, .int (-1), .int 0, .int 0, .int 0, .ref a19, .int 0, .int 0, .int 0, .ref a23, .ref a24, .ref a25, .ref a26, .ref a27, .ref a28, .ref a29, .ref a30, .ref a31, .ref a32, .ref a33, .ref a34, .int 0, .int 0, .ref a37, .ref a38, .ref a39, .ref a40, .ref a41, .int 0, .ref a43, .ref a44, .ref a45, .ref a46, .ref a47, .int 0, .int 0, .int 0, .int 0, .ref a52, .ref a53, .int 0, .int 0, .ref a56, .ref a57, .int 0, .ref a59, .ref a60, .ref a61]))]) [0] rfl
                          refine va_calli (va_runV (As := [.int p1]) (rest := []) ⟨hx, hb, hml, hown, hts⟩ (c_X9_isWide l dC dI cyI cyZ cyJ H.size h0 a4 a5 a6 a7 a8 a9 a10 a11 a12 a19 a23 a24 a25 a26 a27 a28 a29 a30 a31 a32 a33 a34 a37 a38 a39 a40 a41 a43 a44 a45 a46 a47 a52 a53 a56 a57 a59 a60 a61 p1) (cwV 1 hts gX9_fits_X9_isWide rfl rfl rfl (by decide +kernel) ⟨Nat.le_of_ble_eq_true rfl, Nat.le_of_ble_eq_true rfl⟩) (x_pV hN hK hPc (ci := 9) (q0 := 0) rfl rfl) rfl rfl hl.1 rfl (lv_room (Nat.le_of_ble_eq_true rfl)) dX9_fits_192 ⟨Nat.le_of_ble_eq_true rfl, Nat.le_of_ble_eq_true rfl⟩) hS x_nA (x_nf hA hS) (fun r_192 u t H1 locs ht hvm hw hB hz1 hk1 hS => ?_)
                          have hP := x_kp hP hk1
                          clear ht hvm hB hz1 hk1 t u hPc
                          generalize H1 = H at hP hS ⊢
                          obtain rfl := hw
                          refine lv_if_ne (tgt := 202) hx hb dX9_fits_195 (by decide) (fun c_45 => ?_) (fun c_45 => ?_)
                          · skip
                            refine lv_iconst (v := 0) hx hb dX9_fits_202 (by decide) ?_
                            exact W.zret (ty := .boolean) hx hb hr rfl (fun t ht hW => ⟨⟨_, (), rfl, by rw [e_63, f_X9_fits_63, if_neg c_31, if_neg c_32, if_neg c_33, if_neg c_34, if_neg c_35, if_neg c_36, if_pos c_37, if_neg c_38, if_neg c_39, if_pos c_40, if_neg c_44, if_neg c_45], trivial⟩, hS.F ht⟩) hS.2.2 dX9_fits_203
                          · skip
                            refine lv_iconst (v := 1) hx hb dX9_fits_198 (by decide) ?_
                            refine lv_goto (tgt := 203) hx hb dX9_fits_199 (by decide) ?_
                            exact W.zret (ty := .boolean) hx hb hr rfl (fun t ht hW => ⟨⟨_, (), rfl, by rw [e_63, f_X9_fits_63, if_neg c_31, if_neg c_32, if_neg c_33, if_neg c_34, if_neg c_35, if_neg c_36, if_pos c_37, if_neg c_38, if_neg c_39, if_pos c_40, if_neg c_44, if_pos c_45], trivial⟩, hS.F ht⟩) hS.2.2 dX9_fits_203
                    · skip
                      refine lv_iconst (v := 1) hx hb dX9_fits_174 (by decide) ?_
                      exact W.zret (ty := .boolean) hx hb hr rfl (fun t ht hW => ⟨⟨_, (), rfl, by rw [e_63, f_X9_fits_63, if_neg c_31, if_neg c_32, if_neg c_33, if_neg c_34, if_neg c_35, if_neg c_36, if_pos c_37, if_neg c_38, if_pos c_39], trivial⟩, hS.F ht⟩) hS.2.2 dX9_fits_175
                · skip
                  refine lv_iconst (v := 0) hx hb dX9_fits_160 (by decide) ?_
                  exact W.zret (ty := .boolean) hx hb hr rfl (fun t ht hW => ⟨⟨_, (), rfl, by rw [e_63, f_X9_fits_63, if_neg c_31, if_neg c_32, if_neg c_33, if_neg c_34, if_neg c_35, if_neg c_36, if_neg c_37], trivial⟩, hS.F ht⟩) hS.2.2 dX9_fits_161
              · skip
                refine lv_aload_n hx hb dX9_fits_129 rfl (lv_at hl 0 rfl) ?_
                refine lv_iload_n hx hb dX9_fits_130 rfl (lv_at hl 2 rfl) ?_
                have hPc := hP.sub (ws' := [(h0, .inr (9, [.int 0, .int 4, .int 0, .int 0, .ref a4, .ref a5, .ref a6, .ref a7, .ref a8, .ref a9, .ref a10, .ref a11, .ref a12, .int 0, .int 0, .int (-1), .int 0, .int 0, .int 0, .ref a19, .int 0, .int 0, .int 0, .ref a23, .ref a24, .ref a25, .ref a26, .ref a27, .ref a28, .ref a29, .ref a30, .ref a31, .ref a32, .ref a33, .ref a34, .int 0, .int 0, .ref a37, .ref a38, .ref a39, .ref a40, .ref a41, .int 0, .ref a43, .ref a44, .ref a45, .ref a46, .ref a47, .int 0, .int 0, .int 0, .int 0, .ref a52, .ref a53, .int 0, .int 0, .ref a56, .ref a57, .int 0, .ref a59, .ref a60, .ref a61]))]) [0] rfl
                refine va_calli (va_runV (As := [.int p1]) (rest := []) ⟨hx, hb, hml, hown, hts⟩ (c_X9_isType l dC dI cyI cyZ cyJ H.size h0 a4 a5 a6 a7 a8 a9 a10 a11 a12 a19 a23 a24 a25 a26 a27 a28 a29 a30 a31 a32 a33 a34 a37 a38 a39 a40 a41 a43 a44 a45 a46 a47 a52 a53 a56 a57 a59 a60 a61 p1) (cwV 1 hts gX9_fits_X9_isType rfl rfl rfl (by decide +kernel) ⟨Nat.le_of_ble_eq_true rfl, Nat.le_of_ble_eq_true rfl⟩) (x_pV hN hK hPc (ci := 9) (q0 := 0) rfl rfl) rfl rfl hl.1 rfl (lv_room (Nat.le_of_ble_eq_true rfl)) dX9_fits_131 ⟨Nat.le_of_ble_eq_true rfl, Nat.le_of_ble_eq_true rfl⟩) hS x_nA (x_nf hA hS) (fun r_131 u t H1 locs ht hvm hw hB hz1 hk1 hS => ?_)
                have hP := x_kp hP hk1
                clear ht hvm hB hz1 hk1 t u hPc
                generalize H1 = H at hP hS ⊢
                obtain rfl := hw
                refine lv_if_eq (tgt := 154) hx hb dX9_fits_134 (by decide) (fun c_46 => ?_) (fun c_46 => ?_)
                · skip
                  refine lv_iconst (v := 0) hx hb dX9_fits_154 (by decide) ?_
                  exact W.zret (ty := .boolean) hx hb hr rfl (fun t ht hW => ⟨⟨_, (), rfl, by rw [e_63, f_X9_fits_63, if_neg c_31, if_neg c_32, if_neg c_33, if_neg c_34, if_neg c_35, if_pos c_36, if_pos c_46], trivial⟩, hS.F ht⟩) hS.2.2 dX9_fits_155
                · skip
                  refine lv_iload_n hx hb dX9_fits_137 rfl (lv_at hl 3 rfl) ?_
                  refine lv_iconst (v := 1) hx hb dX9_fits_138 (by decide) ?_
                  refine lv_icmp_lt (tgt := 154) hx hb dX9_fits_139 (by decide) (fun c_47 => ?_) (fun c_47 => ?_)
                  · skip
                    refine lv_iconst (v := 0) hx hb dX9_fits_154 (by decide) ?_
                    exact W.zret (ty := .boolean) hx hb hr rfl (fun t ht hW => ⟨⟨_, (), rfl, by rw [e_63, f_X9_fits_63, if_neg c_31, if_neg c_32, if_neg c_33, if_neg c_34, if_neg c_35, if_pos c_36, if_neg c_46, if_pos c_47], trivial⟩, hS.F ht⟩) hS.2.2 dX9_fits_155
                  · skip
                    refine lv_iload_n hx hb dX9_fits_142 rfl (lv_at hl 3 rfl) ?_
                    refine lv_iload_n hx hb dX9_fits_143 rfl (lv_at hl 2 rfl) ?_
                    refine lv_bipush (v := 16) hx hb dX9_fits_144 (by decide) ?_
                    refine lv_ishr hx hb dX9_fits_146 ?_
                    refine lv_icmp_gt (tgt := 154) hx hb dX9_fits_147 (by decide) (fun c_48 => ?_) (fun c_48 => ?_)
                    · skip
                      refine lv_iconst (v := 0) hx hb dX9_fits_154 (by decide) ?_
                      exact W.zret (ty := .boolean) hx hb hr rfl (fun t ht hW => ⟨⟨_, (), rfl, by rw [e_63, f_X9_fits_63, if_neg c_31, if_neg c_32, if_neg c_33, if_neg c_34, if_neg c_35, if_pos c_36, if_neg c_46, if_neg c_47, if_pos c_48], trivial⟩, hS.F ht⟩) hS.2.2 dX9_fits_155
                    · skip
                      refine lv_iconst (v := 1) hx hb dX9_fits_150 (by decide) ?_
                      refine lv_goto (tgt := 155) hx hb dX9_fits_151 (by decide) ?_
                      exact W.zret (ty := .boolean) hx hb hr rfl (fun t ht hW => ⟨⟨_, (), rfl, by rw [e_63, f_X9_fits_63, if_neg c_31, if_neg c_32, if_neg c_33, if_neg c_34, if_neg c_35, if_pos c_36, if_neg c_46, if_neg c_47, if_neg c_48], trivial⟩, hS.F ht⟩) hS.2.2 dX9_fits_155
            · skip
              refine lv_iload_n hx hb dX9_fits_112 rfl (lv_at hl 2 rfl) ?_
              refine lv_if_lt (tgt := 120) hx hb dX9_fits_113 (by decide) (fun c_49 => ?_) (fun c_49 => ?_)
              · skip
                refine lv_iconst (v := 0) hx hb dX9_fits_120 (by decide) ?_
                exact W.zret (ty := .boolean) hx hb hr rfl (fun t ht hW => ⟨⟨_, (), rfl, by rw [e_63, f_X9_fits_63, if_neg c_31, if_neg c_32, if_neg c_33, if_neg c_34, if_pos c_35, if_pos c_49], trivial⟩, hS.F ht⟩) hS.2.2 dX9_fits_121
              · skip
                refine lv_iconst (v := 1) hx hb dX9_fits_116 (by decide) ?_
                refine lv_goto (tgt := 121) hx hb dX9_fits_117 (by decide) ?_
                exact W.zret (ty := .boolean) hx hb hr rfl (fun t ht hW => ⟨⟨_, (), rfl, by rw [e_63, f_X9_fits_63, if_neg c_31, if_neg c_32, if_neg c_33, if_neg c_34, if_pos c_35, if_neg c_49], trivial⟩, hS.F ht⟩) hS.2.2 dX9_fits_121
          · skip
            exact J_91 (by rw [e_63, f_X9_fits_63, if_neg c_31, if_neg c_32, if_neg c_33, if_pos c_34])
  refine x_cut (g2 := F0 m 49 ls []) (E := f_X9_fits p0 p1 p2 = f_X9_fits_49 p0 p1 p2) (fun J_49 => ?_) (fun e_49 => ?_)
  rotate_left
  · skip
    refine lv_iload_n hx hb dX9_fits_49 rfl (lv_at hl 1 rfl) ?_
    refine lv_sipush (v := 170) hx hb dX9_fits_50 (by decide) ?_
    refine lv_icmp_lt (tgt := 63) hx hb dX9_fits_53 (by decide) (fun c_50 => ?_) (fun c_50 => ?_)
    · skip
      exact J_63 (by rw [e_49, f_X9_fits_49, if_pos c_50])
    · skip
      refine lv_iload_n hx hb dX9_fits_56 rfl (lv_at hl 1 rfl) ?_
      refine lv_sipush (v := 177) hx hb dX9_fits_57 (by decide) ?_
      refine lv_icmp_le (tgt := 91) hx hb dX9_fits_60 (by decide) (fun c_51 => ?_) (fun c_51 => ?_)
      · skip
        exact J_91 (by rw [e_49, f_X9_fits_49, if_neg c_50, if_pos c_51])
      · skip
        exact J_63 (by rw [e_49, f_X9_fits_49, if_neg c_50, if_neg c_51])
  refine x_cut (g2 := F0 m 35 ls []) (E := f_X9_fits p0 p1 p2 = f_X9_fits_35 p0 p1 p2) (fun J_35 => ?_) (fun e_35 => ?_)
  rotate_left
  · skip
    refine lv_iload_n hx hb dX9_fits_35 rfl (lv_at hl 1 rfl) ?_
    refine lv_sipush (v := 133) hx hb dX9_fits_36 (by decide) ?_
    refine lv_icmp_lt (tgt := 49) hx hb dX9_fits_39 (by decide) (fun c_52 => ?_) (fun c_52 => ?_)
    · skip
      exact J_49 (by rw [e_35, f_X9_fits_35, if_pos c_52])
    · skip
      refine lv_iload_n hx hb dX9_fits_42 rfl (lv_at hl 1 rfl) ?_
      refine lv_sipush (v := 152) hx hb dX9_fits_43 (by decide) ?_
      refine lv_icmp_le (tgt := 91) hx hb dX9_fits_46 (by decide) (fun c_53 => ?_) (fun c_53 => ?_)
      · skip
        exact J_91 (by rw [e_35, f_X9_fits_35, if_neg c_52, if_pos c_53])
      · skip
        exact J_49 (by rw [e_35, f_X9_fits_35, if_neg c_52, if_neg c_53])
  refine x_cut (g2 := F0 m 22 ls []) (E := f_X9_fits p0 p1 p2 = f_X9_fits_22 p0 p1 p2) (fun J_22 => ?_) (fun e_22 => ?_)
  rotate_left
  · skip
    refine lv_iload_n hx hb dX9_fits_22 rfl (lv_at hl 1 rfl) ?_
    refine lv_bipush (v := 79) hx hb dX9_fits_23 (by decide) ?_
    refine lv_icmp_lt (tgt := 35) hx hb dX9_fits_25 (by decide) (fun c_54 => ?_) (fun c_54 => ?_)
    · skip
      exact J_35 (by rw [e_22, f_X9_fits_22, if_pos c_54])
    · skip
      refine lv_iload_n hx hb dX9_fits_28 rfl (lv_at hl 1 rfl) ?_
      refine lv_sipush (v := 131) hx hb dX9_fits_29 (by decide) ?_
      refine lv_icmp_le (tgt := 91) hx hb dX9_fits_32 (by decide) (fun c_55 => ?_) (fun c_55 => ?_)
      · skip
        exact J_91 (by rw [e_22, f_X9_fits_22, if_neg c_54, if_pos c_55])
      · skip
        exact J_35 (by rw [e_22, f_X9_fits_22, if_neg c_54, if_neg c_55])
  refine x_cut (g2 := F0 m 10 ls []) (E := f_X9_fits p0 p1 p2 = f_X9_fits_10 p0 p1 p2) (fun J_10 => ?_) (fun e_10 => ?_)
  rotate_left
  · skip
    refine lv_iload_n hx hb dX9_fits_10 rfl (lv_at hl 1 rfl) ?_
    refine lv_bipush (v := 46) hx hb dX9_fits_11 (by decide) ?_
    refine lv_icmp_lt (tgt := 22) hx hb dX9_fits_13 (by decide) (fun c_56 => ?_) (fun c_56 => ?_)
    · skip
      exact J_22 (by rw [e_10, f_X9_fits_10, if_pos c_56])
    · skip
      refine lv_iload_n hx hb dX9_fits_16 rfl (lv_at hl 1 rfl) ?_
      refine lv_bipush (v := 53) hx hb dX9_fits_17 (by decide) ?_
      refine lv_icmp_le (tgt := 91) hx hb dX9_fits_19 (by decide) (fun c_57 => ?_) (fun c_57 => ?_)
      · skip
        exact J_91 (by rw [e_10, f_X9_fits_10, if_neg c_56, if_pos c_57])
      · skip
        exact J_22 (by rw [e_10, f_X9_fits_10, if_neg c_56, if_neg c_57])
  refine lv_iload_n hx hb dX9_fits_0 rfl (lv_at hl 1 rfl) ?_
  refine lv_if_lt (tgt := 10) hx hb dX9_fits_1 (by decide) (fun c_58 => ?_) (fun c_58 => ?_)
  · skip
    exact J_10 (by rw [f_X9_fits, if_pos c_58])
  · skip
    refine lv_iload_n hx hb dX9_fits_4 rfl (lv_at hl 1 rfl) ?_
    refine lv_bipush (v := 15) hx hb dX9_fits_5 (by decide) ?_
    refine lv_icmp_le (tgt := 91) hx hb dX9_fits_7 (by decide) (fun c_59 => ?_) (fun c_59 => ?_)
    · skip
      exact J_91 (by rw [f_X9_fits, if_neg c_58, if_pos c_59])
    · skip
      exact J_10 (by rw [f_X9_fits, if_neg c_58, if_neg c_59])

def f_X9_put (p0 : Int32) (p1 : Int32) (p2 : Int32) : Int32 × Int32 := if (f_X9_fits p0 p1 p2) = (0 : Int32) then (1, 0) else (0, 0)
theorem i_X9_put_X9 : ∀ w ∈ wsX90, w ∈ wsX9_put := by decide +kernel
set_option maxHeartbeats 4000000 in
set_option maxRecDepth 100000 in
theorem c_X9_put (l : Launch) (dC : Nat → ClassId) (dI : Nat → Nat → Nat) (cyI cyZ cyJ : ClassId) (sz : Nat) (h0 : Nat) (a4 : Nat) (a5 : Nat) (a6 : Nat) (a7 : Nat) (a8 : Nat) (a9 : Nat) (a10 : Nat) (a11 : Nat) (a12 : Nat) (a19 : Nat) (a23 : Nat) (a24 : Nat) (a25 : Nat) (a26 : Nat) (a27 : Nat) (a28 : Nat) (a29 : Nat) (a30 : Nat) (a31 : Nat) (a32 : Nat) (a33 : Nat) (a34 : Nat) (a37 : Nat) (a38 : Nat) (a39 : Nat) (a40 : Nat) (a41 : Nat) (a43 : Nat) (a44 : Nat) (a45 : Nat) (a46 : Nat) (a47 : Nat) (a52 : Nat) (a53 : Nat) (a56 : Nat) (a57 : Nat) (a59 : Nat) (a60 : Nat) (a61 : Nat) (g23 : Nat → Int32) (g24 : Nat → Int32) (g25 : Nat → Int32) (g26 : Nat → Int32) (g27 : Nat → Int32) (p0 : Int32) (p1 : Int32) (p2 : Int32) : Met l yX9_put wsX9_put ({ frames := 3, cells := 0, slots := 0, locals := 65 }) (va_Pc [.ref h0, .int p0, .int p1, .int p2] (x_PreD (dC, dI) (x_T cyI cyZ cyJ) [(h0, .inr (9, [.int 0, .int 4, .int 0, .int 0, .ref a4, .ref a5, .ref a6, .ref a7, .ref a8, .ref a9, .ref a10, .ref a11, .ref a12, .int 0, .int 0, .int (-1), .int 0, .int 0, .int 0, .ref a19, .int 0, .int 0, .int 0, .ref a23, .ref a24, .ref a25, .ref a26, .ref a27, .ref a28, .ref a29, .ref a30, .ref a31, .ref a32, .ref a33, .ref a34, .int 0, .int 0, .ref a37, .ref a38, .ref a39, .ref a40, .ref a41, .int 0, .ref a43, .ref a44, .ref a45, .ref a46, .ref a47, .int 0, .int 0, .int 0, .int 0, .ref a52, .ref a53, .int 0, .int 0, .ref a56, .ref a57, .int 0, .ref a59, .ref a60, .ref a61])), (a23, .inl (cyI, 1000, .inl g23)), (a24, .inl (cyI, 1000, .inl g24)), (a25, .inl (cyI, 1000, .inl g25)), (a26, .inl (cyI, 1000, .inl g26)), (a27, .inl (cyI, 1000, .inl g27))] sz)) (va_Qi (fun (r : Int32) (_ : Unit) => r = (f_X9_put p0 p1 p2).2) (fun (_ : Unit) (t : State) => ∃ u : List Value, va_P (dC, dI) vwCl [(h0, .inr (9, .int (f_X9_put p0 p1 p2).1 :: u))] t.heap ∧ va_K (dC, dI) vwCl (x_T cyI cyZ cyJ) t ∧ va_D (va_A [(h0, .inr (9, [.int 0, .int 4, .int 0, .int 0, .ref a4, .ref a5, .ref a6, .ref a7, .ref a8, .ref a9, .ref a10, .ref a11, .ref a12, .int 0, .int 0, .int (-1), .int 0, .int 0, .int 0, .ref a19, .int 0, .int 0, .int 0, .ref a23, .ref a24, .ref a25, .ref a26, .ref a27, .ref a28, .ref a29, .ref a30, .ref a31, .ref a32, .ref a33, .ref a34, .int 0, .int 0, .ref a37, .ref a38, .ref a39, .ref a40, .ref a41, .int 0, .ref a43, .ref a44, .ref a45, .ref a46, .ref a47, .int 0, .int 0, .int 0, .int 0, .ref a52, .ref a53, .int 0, .int 0, .ref a56, .ref a57, .int 0, .ref a59, .ref a60, .ref a61])), (a23, .inl (cyI, 1000, .inl g23)), (a24, .inl (cyI, 1000, .inl g24)), (a25, .inl (cyI, 1000, .inl g25)), (a26, .inl (cyI, 1000, .inl g26)), (a27, .inl (cyI, 1000, .inl g27))] sz) [(h0, .inr (9, .int (f_X9_put p0 p1 p2).1 :: u))]) (va_A [(h0, .inr (9, [.int 0, .int 4, .int 0, .int 0, .ref a4, .ref a5, .ref a6, .ref a7, .ref a8, .ref a9, .ref a10, .ref a11, .ref a12, .int 0, .int 0, .int (-1), .int 0, .int 0, .int 0, .ref a19, .int 0, .int 0, .int 0, .ref a23, .ref a24, .ref a25, .ref a26, .ref a27, .ref a28, .ref a29, .ref a30, .ref a31, .ref a32, .ref a33, .ref a34, .int 0, .int 0, .ref a37, .ref a38, .ref a39, .ref a40, .ref a41, .int 0, .ref a43, .ref a44, .ref a45, .ref a46, .ref a47, .int 0, .int 0, .int 0, .int 0, .ref a52, .ref a53, .int 0, .int 0, .ref a56, .ref a57, .int 0, .ref a59, .ref a60, .ref a61])), (a23, .inl (cyI, 1000, .inl g23)), (a24, .inl (cyI, 1000, .inl g24)), (a25, .inl (cyI, 1000, .inl g25)), (a26, .inl (cyI, 1000, .inl g26)), (a27, .inl (cyI, 1000, .inl g27))] sz)) 0 0 (va_A [(h0, .inr (9, [.int 0, .int 4, .int 0, .int 0, .ref a4, .ref a5, .ref a6, .ref a7, .ref a8, .ref a9, .ref a10, .ref a11, .ref a12, .int 0, .int 0, .int (-1), .int 0, .int 0, .int 0, .ref a19, .int 0, .int 0, .int 0, .ref a23, .ref a24, .ref a25, .ref a26, .ref a27, .ref a28, .ref a29, .ref a30, .ref a31, .ref a32, .ref a33, .ref a34, .int 0, .int 0, .ref a37, .ref a38, .ref a39, .ref a40, .ref a41, .int 0, .ref a43, .ref a44, .ref a45, .ref a46, .ref a47, .int 0, .int 0, .int 0, .int 0, .ref a52, .ref a53, .int 0, .int 0, .ref a56, .ref a57, .int 0, .ref a59, .ref a60, .ref a61])), (a23, .inl (cyI, 1000, .inl g23)), (a24, .inl (cyI, 1000, .inl g24)), (a25, .inl (cyI, 1000, .inl g25)), (a26, .inl (cyI, 1000, .inl g26)), (a27, .inl (cyI, 1000, .inl g27))] sz) := by
  refine Met.ofW (cc := cX9_put) (maxL := 4) (ret := (some .int)) (by decide) rfl ?_
  intro p e s m args below meth c s₁ B hml hv
  obtain ⟨rfl, ⟨hsz, hP, hK, hN⟩, hD0⟩ := hv
  have hx := B.exec
  have hb := B.bytes
  have hr := B.returns
  have hts := atoms_spec (ws := wsX9_put) B.pre
  have hown : s.vm.findClass RX9 = some m.cls := findClass_of_methodNamed B.named
  have hlocks := B.notSynchronized
  have k_1 := hts (.fieldLink RX9 1 "FlowJudgeModel" "thrown" "I") (by decide +kernel)
  have k_2 := hts (.fieldLink RX9 179 "FlowJudgeModel" "many" "I") (by decide +kernel)
  have k_3 := hts (.fieldLink RX9 51 "FlowJudgeModel" "op" "[I") (by decide +kernel)
  have k_4 := hts (.fieldLink RX9 54 "FlowJudgeModel" "one" "[I") (by decide +kernel)
  have k_5 := hts (.fieldLink RX9 57 "FlowJudgeModel" "two" "[I") (by decide +kernel)
  have k_6 := hts (.fieldLink RX9 60 "FlowJudgeModel" "toAt" "[I") (by decide +kernel)
  have k_7 := hts (.fieldLink RX9 185 "FlowJudgeModel" "tos" "I") (by decide +kernel)
  have k_8 := hts (.fieldLink RX9 63 "FlowJudgeModel" "toMany" "[I") (by decide +kernel)
  subst hsz
  have hD := hD0.self (sz := s.heap.size)
  generalize hAe : va_A [(h0, .inr (9, [.int 0, .int 4, .int 0, .int 0, .ref a4, .ref a5, .ref a6, .ref a7, .ref a8, .ref a9, .ref a10, .ref a11, .ref a12, .int 0, .int 0, .int (-1), .int 0, .int 0, .int 0, .ref a19, .int 0, .int 0, .int 0, .ref a23, .ref a24, .ref a25, .ref a26, .ref a27, .ref a28, .ref a29, .ref a30, .ref a31, .ref a32, .ref a33, .ref a34, .int 0, .int 0, .ref a37, .ref a38, .ref a39, .ref a40, .ref a41, .int 0, .ref a43, .ref a44, .ref a45, .ref a46, .ref a47, .int 0, .int 0, .int 0, .int 0, .ref a52, .ref a53, .int 0, .int 0, .ref a56, .ref a57, .int 0, .ref a59, .ref a60, .ref a61])), (a23, .inl (cyI, 1000, .inl g23)), (a24, .inl (cyI, 1000, .inl g24)), (a25, .inl (cyI, 1000, .inl g25)), (a26, .inl (cyI, 1000, .inl g26)), (a27, .inl (cyI, 1000, .inl g27))] s.heap.size = A at hD ⊢
  have hA : ∀ q : Nat, s.heap.size ≤ q → A q := fun q h => by rw [← hAe]; exact Or.inr h
  have hS : va_S A s.heap s.heap [] := va_S.rf
  have hP : va_P (dC, dI) vwCl [(h0, .inr (9, [.int 0, .int 4, .int 0, .int 0, .ref a4, .ref a5, .ref a6, .ref a7, .ref a8, .ref a9, .ref a10, .ref a11, .ref a12, .int 0, .int 0, .int (-1), .int 0, .int 0, .int 0, .ref a19, .int 0, .int 0, .int 0, .ref a23, .ref a24, .ref a25, .ref a26, .ref a27, .ref a28, .ref a29, .ref a30, .ref a31, .ref a32, .ref a33, .ref a34, .int 0, .int 0, .ref a37, .ref a38, .ref a39, .ref a40, .ref a41, .int 0, .ref a43, .ref a44, .ref a45, .ref a46, .ref a47, .int 0, .int 0, .int 0, .int 0, .ref a52, .ref a53, .int 0, .int 0, .ref a56, .ref a57, .int 0, .ref a59, .ref a60, .ref a61])), (a23, .inl (cyI, 1000, .inl g23)), (a24, .inl (cyI, 1000, .inl g24)), (a25, .inl (cyI, 1000, .inl g25)), (a26, .inl (cyI, 1000, .inl g26)), (a27, .inl (cyI, 1000, .inl g27))] s.heap := hP
  have hl := lv_entry ([.ref h0, .int p0, .int p1, .int p2]) (n := 4) (Nat.le_of_ble_eq_true rfl)
  rw [lg_entry_eq]
  generalize (lg_sl ([.ref h0, .int p0, .int p1, .int p2]) ++ List.replicate (4 - (lg_sl ([.ref h0, .int p0, .int p1, .int p2])).length) Slot.unset).toArray = ls at hl ⊢
  have hl : lv_has ls 4 [(0, .ref h0), (1, .int p0), (2, .int p1), (3, .int p2)] := hl
  obtain ⟨H, hH⟩ : ∃ z, z = s.heap := ⟨_, rfl⟩
  refine x_here hH ?_
  have hP : va_P (dC, dI) vwCl [(h0, .inr (9, [.int 0, .int 4, .int 0, .int 0, .ref a4, .ref a5, .ref a6, .ref a7, .ref a8, .ref a9, .ref a10, .ref a11, .ref a12, .int 0, .int 0, .int (-1), .int 0, .int 0, .int 0, .ref a19, .int 0, .int 0, .int 0, .ref a23, .ref a24, .ref a25, .ref a26, .ref a27, .ref a28, .ref a29, .ref a30, .ref a31, .ref a32, .ref a33, .ref a34, .int 0, .int 0, .ref a37, .ref a38, .ref a39, .ref a40, .ref a41, .int 0, .ref a43, .ref a44, .ref a45, .ref a46, .ref a47, .int 0, .int 0, .int 0, .int 0, .ref a52, .ref a53, .int 0, .int 0, .ref a56, .ref a57, .int 0, .ref a59, .ref a60, .ref a61])), (a23, .inl (cyI, 1000, .inl g23)), (a24, .inl (cyI, 1000, .inl g24)), (a25, .inl (cyI, 1000, .inl g25)), (a26, .inl (cyI, 1000, .inl g26)), (a27, .inl (cyI, 1000, .inl g27))] H := by rw [hH]; exact hP
  have hS : va_S A s.heap H [] := by rw [hH]; exact va_S.rf
  clear hH
  refine lv_aload_n hx hb dX9_put_0 rfl (lv_at hl 0 rfl) ?_
  refine lv_iconst (v := 0) hx hb dX9_put_1 (by decide) ?_
  refine va_put (D := (dC, dI)) (ci := 9) (v := .int 0) (ty := .int) (C := RX9) (T := TX9) (N := 62) hx hb hts i_X9_put_X9 tyX9 tyX9_ok nmX9 hown hK hP hD hS 0 rfl rfl 0 (by decide) k_1 (fun _ h9 => h9) rfl (by decide +kernel) rfl rfl (Nat.le_of_ble_eq_true rfl) dX9_put_2 (fun H locs hP hD hS => ?_)
  have hP : va_P (dC, dI) vwCl [(h0, .inr (9, [.int 0, .int 4, .int 0, .int 0, .ref a4, .ref a5, .ref a6, .ref a7, .ref a8, .ref a9, .ref a10, .ref a11, .ref a12, .int 0, .int 0, .int (-1), .int 0, .int 0, .int 0, .ref a19, .int 0, .int 0, .int 0, .ref a23, .ref a24, .ref a25, .ref a26, .ref a27, .ref a28, .ref a29, .ref a30, .ref a31, .ref a32, .ref a33, .ref a34, .int 0, .int 0, .ref a37, .ref a38, .ref a39, .ref a40, .ref a41, .int 0, .ref a43, .ref a44, .ref a45, .ref a46, .ref a47, .int 0, .int 0, .int 0, .int 0, .ref a52, .ref a53, .int 0, .int 0, .ref a56, .ref a57, .int 0, .ref a59, .ref a60, .ref a61])), (a23, .inl (cyI, 1000, .inl g23)), (a24, .inl (cyI, 1000, .inl g24)), (a25, .inl (cyI, 1000, .inl g25)), (a26, .inl (cyI, 1000, .inl g26)), (a27, .inl (cyI, 1000, .inl g27))] H := hP
  have hD : va_D A [(h0, .inr (9, [.int 0, .int 4, .int 0, .int 0, .ref a4, .ref a5, .ref a6, .ref a7, .ref a8, .ref a9, .ref a10, .ref a11, .ref a12, .int 0, .int 0, .int (-1), .int 0, .int 0, .int 0, .ref a19, .int 0, .int 0, .int 0, .ref a23, .ref a24, .ref a25, .ref a26, .ref a27, .ref a28, .ref a29, .ref a30, .ref a31, .ref a32, .ref a33, .ref a34, .int 0, .int 0, .ref a37, .ref a38, .ref a39, .ref a40, .ref a41, .int 0, .ref a43, .ref a44, .ref a45, .ref a46, .ref a47, .int 0, .int 0, .int 0, .int 0, .ref a52, .ref a53, .int 0, .int 0, .ref a56, .ref a57, .int 0, .ref a59, .ref a60, .ref a61])), (a23, .inl (cyI, 1000, .inl g23)), (a24, .inl (cyI, 1000, .inl g24)), (a25, .inl (cyI, 1000, .inl g25)), (a26, .inl (cyI, 1000, .inl g26)), (a27, .inl (cyI, 1000, .inl g27))] := hD
  refine lv_aload_n hx hb dX9_put_5 rfl (lv_at hl 0 rfl) ?_
  refine lv_iload_n hx hb dX9_put_6 rfl (lv_at hl 1 rfl) ?_
  refine lv_iload_n hx hb dX9_put_7 rfl (lv_at hl 2 rfl) ?_
  refine lv_iload_n hx hb dX9_put_8 rfl (lv_at hl 3 rfl) ?_
  have hPc := hP.sub (ws' := [(h0, .inr (9, [.int 0, .int 4, .int 0, .int 0, .ref a4, .ref a5, .ref a6, .ref a7, .ref a8, .ref a9, .ref a10, .ref a11, .ref a12, .int 0, .int 0, .int (-1), .int 0, .int 0, .int 0, .ref a19, .int 0, .int 0, .int 0, .ref a23, .ref a24, .ref a25, .ref a26, .ref a27, .ref a28, .ref a29, .ref a30, .ref a31, .ref a32, .ref a33, .ref a34, .int 0, .int 0, .ref a37, .ref a38, .ref a39, .ref a40, .ref a41, .int 0, .ref a43, .ref a44, .ref a45, .ref a46, .ref a47, .int 0, .int 0, .int 0, .int 0, .ref a52, .ref a53, .int 0, .int 0, .ref a56, .ref a57, .int 0, .ref a59, .ref a60, .ref a61]))]) [0] rfl
  refine va_calli (va_runV (As := [.int p0, .int p1, .int p2]) (rest := []) ⟨hx, hb, hml, hown, hts⟩ (c_X9_fits l dC dI cyI cyZ cyJ H.size h0 a4 a5 a6 a7 a8 a9 a10 a11 a12 a19 a23 a24 a25 a26 a27 a28 a29 a30 a31 a32 a33 a34 a37 a38 a39 a40 a41 a43 a44 a45 a46 a47 a52 a53 a56 a57 a59 a60 a61 p0 p1 p2) (cwV 3 hts gX9_put_X9_fits rfl rfl rfl (by decide +kernel) ⟨Nat.le_of_ble_eq_true rfl, Nat.le_of_ble_eq_true rfl⟩) (x_pV hN hK hPc (ci := 9) (q0 := 0) rfl rfl) rfl rfl hl.1 rfl (lv_room (Nat.le_of_ble_eq_true rfl)) dX9_put_9 ⟨Nat.le_of_ble_eq_true rfl, Nat.le_of_ble_eq_true rfl⟩) hS x_nA (x_nf hA hS) (fun r_9 u t H1 locs ht hvm hw hB hz1 hk1 hS => ?_)
  have hP := x_kp hP hk1
  clear ht hvm hB hz1 hk1 t u hPc
  generalize H1 = H at hP hS ⊢
  obtain rfl := hw
  refine lv_if_ne (tgt := 20) hx hb dX9_put_12 (by decide) (fun c_1 => ?_) (fun c_1 => ?_)
  · skip
    refine lv_aload_n hx hb dX9_put_20 rfl (lv_at hl 0 rfl) ?_
    refine va_get (D := (dC, dI)) (ci := 9) (v := .int 0) (C := RX9) (T := TX9) (N := 62) hx hb hts i_X9_put_X9 hown hK hP 0 rfl rfl 20 (by decide) k_2 (fun _ h9 => h9) rfl dX9_put_21 ?_
    refine lv_sipush (v := 1000) hx hb dX9_put_24 (by decide) ?_
    refine lv_icmp_ne (tgt := 35) hx hb dX9_put_27 (by decide) (fun _ => ?_) (fun c_2 => absurd c_2 (by decide))
    refine lv_aload_n hx hb dX9_put_35 rfl (lv_at hl 0 rfl) ?_
    refine va_get (D := (dC, dI)) (ci := 9) (v := .ref a23) (C := RX9) (T := TX9) (N := 62) hx hb hts i_X9_put_X9 hown hK hP 0 rfl rfl 23 (by decide) k_3 (fun _ h9 => h9) rfl dX9_put_36 ?_
    refine lv_aload_n hx hb dX9_put_39 rfl (lv_at hl 0 rfl) ?_
    refine va_get (D := (dC, dI)) (ci := 9) (v := .int 0) (C := RX9) (T := TX9) (N := 62) hx hb hts i_X9_put_X9 hown hK hP 0 rfl rfl 20 (by decide) k_2 (fun _ h9 => h9) rfl dX9_put_40 ?_
    refine lv_iload_n hx hb dX9_put_43 rfl (lv_at hl 1 rfl) ?_
    refine va_iast hx hb hK hP hD hS 1 0 rfl rfl (x_lit _ _ (by decide)) dX9_put_44 (fun H locs hP hD hS => ?_)
    have hP : va_P (dC, dI) vwCl [(h0, .inr (9, [.int 0, .int 4, .int 0, .int 0, .ref a4, .ref a5, .ref a6, .ref a7, .ref a8, .ref a9, .ref a10, .ref a11, .ref a12, .int 0, .int 0, .int (-1), .int 0, .int 0, .int 0, .ref a19, .int 0, .int 0, .int 0, .ref a23, .ref a24, .ref a25, .ref a26, .ref a27, .ref a28, .ref a29, .ref a30, .ref a31, .ref a32, .ref a33, .ref a34, .int 0, .int 0, .ref a37, .ref a38, .ref a39, .ref a40, .ref a41, .int 0, .ref a43, .ref a44, .ref a45, .ref a46, .ref a47, .int 0, .int 0, .int 0, .int 0, .ref a52, .ref a53, .int 0, .int 0, .ref a56, .ref a57, .int 0, .ref a59, .ref a60, .ref a61])), (a23, .inl (cyI, 1000, .inl (upd g23 (Int32.toNatClampNeg 0) p0))), (a24, .inl (cyI, 1000, .inl g24)), (a25, .inl (cyI, 1000, .inl g25)), (a26, .inl (cyI, 1000, .inl g26)), (a27, .inl (cyI, 1000, .inl g27))] H := hP
    have hD : va_D A [(h0, .inr (9, [.int 0, .int 4, .int 0, .int 0, .ref a4, .ref a5, .ref a6, .ref a7, .ref a8, .ref a9, .ref a10, .ref a11, .ref a12, .int 0, .int 0, .int (-1), .int 0, .int 0, .int 0, .ref a19, .int 0, .int 0, .int 0, .ref a23, .ref a24, .ref a25, .ref a26, .ref a27, .ref a28, .ref a29, .ref a30, .ref a31, .ref a32, .ref a33, .ref a34, .int 0, .int 0, .ref a37, .ref a38, .ref a39, .ref a40, .ref a41, .int 0, .ref a43, .ref a44, .ref a45, .ref a46, .ref a47, .int 0, .int 0, .int 0, .int 0, .ref a52, .ref a53, .int 0, .int 0, .ref a56, .ref a57, .int 0, .ref a59, .ref a60, .ref a61])), (a23, .inl (cyI, 1000, .inl (upd g23 (Int32.toNatClampNeg 0) p0))), (a24, .inl (cyI, 1000, .inl g24)), (a25, .inl (cyI, 1000, .inl g25)), (a26, .inl (cyI, 1000, .inl g26)), (a27, .inl (cyI, 1000, .inl g27))] := hD
    refine lv_aload_n hx hb dX9_put_45 rfl (lv_at hl 0 rfl) ?_
    refine va_get (D := (dC, dI)) (ci := 9) (v := .ref a24) (C := RX9) (T := TX9) (N := 62) hx hb hts i_X9_put_X9 hown hK hP 0 rfl rfl 24 (by decide) k_4 (fun _ h9 => h9) rfl dX9_put_46 ?_
    refine lv_aload_n hx hb dX9_put_49 rfl (lv_at hl 0 rfl) ?_
    refine va_get (D := (dC, dI)) (ci := 9) (v := .int 0) (C := RX9) (T := TX9) (N := 62) hx hb hts i_X9_put_X9 hown hK hP 0 rfl rfl 20 (by decide) k_2 (fun _ h9 => h9) rfl dX9_put_50 ?_
    refine lv_iload_n hx hb dX9_put_53 rfl (lv_at hl 2 rfl) ?_
    refine va_iast hx hb hK hP hD hS 2 0 rfl rfl (x_lit _ _ (by decide)) dX9_put_54 (fun H locs hP hD hS => ?_)
    have hP : va_P (dC, dI) vwCl [(h0, .inr (9, [.int 0, .int 4, .int 0, .int 0, .ref a4, .ref a5, .ref a6, .ref a7, .ref a8, .ref a9, .ref a10, .ref a11, .ref a12, .int 0, .int 0, .int (-1), .int 0, .int 0, .int 0, .ref a19, .int 0, .int 0, .int 0, .ref a23, .ref a24, .ref a25, .ref a26, .ref a27, .ref a28, .ref a29, .ref a30, .ref a31, .ref a32, .ref a33, .ref a34, .int 0, .int 0, .ref a37, .ref a38, .ref a39, .ref a40, .ref a41, .int 0, .ref a43, .ref a44, .ref a45, .ref a46, .ref a47, .int 0, .int 0, .int 0, .int 0, .ref a52, .ref a53, .int 0, .int 0, .ref a56, .ref a57, .int 0, .ref a59, .ref a60, .ref a61])), (a23, .inl (cyI, 1000, .inl (upd g23 (Int32.toNatClampNeg 0) p0))), (a24, .inl (cyI, 1000, .inl (upd g24 (Int32.toNatClampNeg 0) p1))), (a25, .inl (cyI, 1000, .inl g25)), (a26, .inl (cyI, 1000, .inl g26)), (a27, .inl (cyI, 1000, .inl g27))] H := hP
    have hD : va_D A [(h0, .inr (9, [.int 0, .int 4, .int 0, .int 0, .ref a4, .ref a5, .ref a6, .ref a7, .ref a8, .ref a9, .ref a10, .ref a11, .ref a12, .int 0, .int 0, .int (-1), .int 0, .int 0, .int 0, .ref a19, .int 0, .int 0, .int 0, .ref a23, .ref a24, .ref a25, .ref a26, .ref a27, .ref a28, .ref a29, .ref a30, .ref a31, .ref a32, .ref a33, .ref a34, .int 0, .int 0, .ref a37, .ref a38, .ref a39, .ref a40, .ref a41, .int 0, .ref a43, .ref a44, .ref a45, .ref a46, .ref a47, .int 0, .int 0, .int 0, .int 0, .ref a52, .ref a53, .int 0, .int 0, .ref a56, .ref a57, .int 0, .ref a59, .ref a60, .ref a61])), (a23, .inl (cyI, 1000, .inl (upd g23 (Int32.toNatClampNeg 0) p0))), (a24, .inl (cyI, 1000, .inl (upd g24 (Int32.toNatClampNeg 0) p1))), (a25, .inl (cyI, 1000, .inl g25)), (a26, .inl (cyI, 1000, .inl g26)), (a27, .inl (cyI, 1000, .inl g27))] := hD
    refine lv_aload_n hx hb dX9_put_55 rfl (lv_at hl 0 rfl) ?_
    refine va_get (D := (dC, dI)) (ci := 9) (v := .ref a25) (C := RX9) (T := TX9) (N := 62) hx hb hts i_X9_put_X9 hown hK hP 0 rfl rfl 25 (by decide) k_5 (fun _ h9 => h9) rfl dX9_put_56 ?_
    refine lv_aload_n hx hb dX9_put_59 rfl (lv_at hl 0 rfl) ?_
    refine va_get (D := (dC, dI)) (ci := 9) (v := .int 0) (C := RX9) (T := TX9) (N := 62) hx hb hts i_X9_put_X9 hown hK hP 0 rfl rfl 20 (by decide) k_2 (fun _ h9 => h9) rfl dX9_put_60 ?_
    refine lv_iload_n hx hb dX9_put_63 rfl (lv_at hl 3 rfl) ?_
    refine va_iast hx hb hK hP hD hS 3 0 rfl rfl (x_lit _ _ (by decide)) dX9_put_64 (fun H locs hP hD hS => ?_)
    have hP : va_P (dC, dI) vwCl [(h0, .inr (9, [.int 0, .int 4, .int 0, .int 0, .ref a4, .ref a5, .ref a6, .ref a7, .ref a8, .ref a9, .ref a10, .ref a11, .ref a12, .int 0, .int 0, .int (-1), .int 0, .int 0, .int 0, .ref a19, .int 0, .int 0, .int 0, .ref a23, .ref a24, .ref a25, .ref a26, .ref a27, .ref a28, .ref a29, .ref a30, .ref a31, .ref a32, .ref a33, .ref a34, .int 0, .int 0, .ref a37, .ref a38, .ref a39, .ref a40, .ref a41, .int 0, .ref a43, .ref a44, .ref a45, .ref a46, .ref a47, .int 0, .int 0, .int 0, .int 0, .ref a52, .ref a53, .int 0, .int 0, .ref a56, .ref a57, .int 0, .ref a59, .ref a60, .ref a61])), (a23, .inl (cyI, 1000, .inl (upd g23 (Int32.toNatClampNeg 0) p0))), (a24, .inl (cyI, 1000, .inl (upd g24 (Int32.toNatClampNeg 0) p1))), (a25, .inl (cyI, 1000, .inl (upd g25 (Int32.toNatClampNeg 0) p2))), (a26, .inl (cyI, 1000, .inl g26)), (a27, .inl (cyI, 1000, .inl g27))] H := hP
    have hD : va_D A [(h0, .inr (9, [.int 0, .int 4, .int 0, .int 0, .ref a4, .ref a5, .ref a6, .ref a7, .ref a8, .ref a9, .ref a10, .ref a11, .ref a12, .int 0, .int 0, .int (-1), .int 0, .int 0, .int 0, .ref a19, .int 0, .int 0, .int 0, .ref a23, .ref a24, .ref a25, .ref a26, .ref a27, .ref a28, .ref a29, .ref a30, .ref a31, .ref a32, .ref a33, .ref a34, .int 0, .int 0, .ref a37, .ref a38, .ref a39, .ref a40, .ref a41, .int 0, .ref a43, .ref a44, .ref a45, .ref a46, .ref a47, .int 0, .int 0, .int 0, .int 0, .ref a52, .ref a53, .int 0, .int 0, .ref a56, .ref a57, .int 0, .ref a59, .ref a60, .ref a61])), (a23, .inl (cyI, 1000, .inl (upd g23 (Int32.toNatClampNeg 0) p0))), (a24, .inl (cyI, 1000, .inl (upd g24 (Int32.toNatClampNeg 0) p1))), (a25, .inl (cyI, 1000, .inl (upd g25 (Int32.toNatClampNeg 0) p2))), (a26, .inl (cyI, 1000, .inl g26)), (a27, .inl (cyI, 1000, .inl g27))] := hD
    refine lv_aload_n hx hb dX9_put_65 rfl (lv_at hl 0 rfl) ?_
    refine va_get (D := (dC, dI)) (ci := 9) (v := .ref a26) (C := RX9) (T := TX9) (N := 62) hx hb hts i_X9_put_X9 hown hK hP 0 rfl rfl 26 (by decide) k_6 (fun _ h9 => h9) rfl dX9_put_66 ?_
    refine lv_aload_n hx hb dX9_put_69 rfl (lv_at hl 0 rfl) ?_
    refine va_get (D := (dC, dI)) (ci := 9) (v := .int 0) (C := RX9) (T := TX9) (N := 62) hx hb hts i_X9_put_X9 hown hK hP 0 rfl rfl 20 (by decide) k_2 (fun _ h9 => h9) rfl dX9_put_70 ?_
    refine lv_aload_n hx hb dX9_put_73 rfl (lv_at hl 0 rfl) ?_
    refine va_get (D := (dC, dI)) (ci := 9) (v := .int 0) (C := RX9) (T := TX9) (N := 62) hx hb hts i_X9_put_X9 hown hK hP 0 rfl rfl 22 (by decide) k_7 (fun _ h9 => h9) rfl dX9_put_74 ?_
    refine va_iast hx hb hK hP hD hS 4 0 rfl rfl (x_lit _ _ (by decide)) dX9_put_77 (fun H locs hP hD hS => ?_)
    have hP : va_P (dC, dI) vwCl [(h0, .inr (9, [.int 0, .int 4, .int 0, .int 0, .ref a4, .ref a5, .ref a6, .ref a7, .ref a8, .ref a9, .ref a10, .ref a11, .ref a12, .int 0, .int 0, .int (-1), .int 0, .int 0, .int 0, .ref a19, .int 0, .int 0, .int 0, .ref a23, .ref a24, .ref a25, .ref a26, .ref a27, .ref a28, .ref a29, .ref a30, .ref a31, .ref a32, .ref a33, .ref a34, .int 0, .int 0, .ref a37, .ref a38, .ref a39, .ref a40, .ref a41, .int 0, .ref a43, .ref a44, .ref a45, .ref a46, .ref a47, .int 0, .int 0, .int 0, .int 0, .ref a52, .ref a53, .int 0, .int 0, .ref a56, .ref a57, .int 0, .ref a59, .ref a60, .ref a61])), (a23, .inl (cyI, 1000, .inl (upd g23 (Int32.toNatClampNeg 0) p0))), (a24, .inl (cyI, 1000, .inl (upd g24 (Int32.toNatClampNeg 0) p1))), (a25, .inl (cyI, 1000, .inl (upd g25 (Int32.toNatClampNeg 0) p2))), (a26, .inl (cyI, 1000, .inl (upd g26 (Int32.toNatClampNeg 0) 0))), (a27, .inl (cyI, 1000, .inl g27))] H := hP
    have hD : va_D A [(h0, .inr (9, [.int 0, .int 4, .int 0, .int 0, .ref a4, .ref a5, .ref a6, .ref a7, .ref a8, .ref a9, .ref a10, .ref a11, .ref a12, .int 0, .int 0, .int (-1), .int 0, .int 0, .int 0, .ref a19, .int 0, .int 0, .int 0, .ref a23, .ref a24, .ref a25, .ref a26, .ref a27, .ref a28, .ref a29, .ref a30, .ref a31, .ref a32, .ref a33, .ref a34, .int 0, .int 0, .ref a37, .ref a38, .ref a39, .ref a40, .ref a41, .int 0, .ref a43, .ref a44, .ref a45, .ref a46, .ref a47, .int 0, .int 0, .int 0, .int 0, .ref a52, .ref a53, .int 0, .int 0, .ref a56, .ref a57, .int 0, .ref a59, .ref a60, .ref a61])), (a23, .inl (cyI, 1000, .inl (upd g23 (Int32.toNatClampNeg 0) p0))), (a24, .inl (cyI, 1000, .inl (upd g24 (Int32.toNatClampNeg 0) p1))), (a25, .inl (cyI, 1000, .inl (upd g25 (Int32.toNatClampNeg 0) p2))), (a26, .inl (cyI, 1000, .inl (upd g26 (Int32.toNatClampNeg 0) 0))), (a27, .inl (cyI, 1000, .inl g27))] := hD
    refine lv_aload_n hx hb dX9_put_78 rfl (lv_at hl 0 rfl) ?_
    refine va_get (D := (dC, dI)) (ci := 9) (v := .ref a27) (C := RX9) (T := TX9) (N := 62) hx hb hts i_X9_put_X9 hown hK hP 0 rfl rfl 27 (by decide) k_8 (fun _ h9 => h9) rfl dX9_put_79 ?_
    refine lv_aload_n hx hb dX9_put_82 rfl (lv_at hl 0 rfl) ?_
    refine va_get (D := (dC, dI)) (ci := 9) (v := .int 0) (C := RX9) (T := TX9) (N := 62) hx hb hts i_X9_put_X9 hown hK hP 0 rfl rfl 20 (by decide) k_2 (fun _ h9 => h9) rfl dX9_put_83 ?_
    refine lv_iconst (v := 0) hx hb dX9_put_86 (by decide) ?_
    refine va_iast hx hb hK hP hD hS 5 0 rfl rfl (x_lit _ _ (by decide)) dX9_put_87 (fun H locs hP hD hS => ?_)
    have hP : va_P (dC, dI) vwCl [(h0, .inr (9, [.int 0, .int 4, .int 0, .int 0, .ref a4, .ref a5, .ref a6, .ref a7, .ref a8, .ref a9, .ref a10, .ref a11, .ref a12, .int 0, .int 0, .int (-1), .int 0, .int 0, .int 0, .ref a19, .int 0, .int 0, .int 0, .ref a23, .ref a24, .ref a25, .ref a26, .ref a27, .ref a28, .ref a29, .ref a30, .ref a31, .ref a32, .ref a33, .ref a34, .int 0, .int 0, .ref a37, .ref a38, .ref a39, .ref a40, .ref a41, .int 0, .ref a43, .ref a44, .ref a45, .ref a46, .ref a47, .int 0, .int 0, .int 0, .int 0, .ref a52, .ref a53, .int 0, .int 0, .ref a56, .ref a57, .int 0, .ref a59, .ref a60, .ref a61])), (a23, .inl (cyI, 1000, .inl (upd g23 (Int32.toNatClampNeg 0) p0))), (a24, .inl (cyI, 1000, .inl (upd g24 (Int32.toNatClampNeg 0) p1))), (a25, .inl (cyI, 1000, .inl (upd g25 (Int32.toNatClampNeg 0) p2))), (a26, .inl (cyI, 1000, .inl (upd g26 (Int32.toNatClampNeg 0) 0))), (a27, .inl (cyI, 1000, .inl (upd g27 (Int32.toNatClampNeg 0) 0)))] H := hP
    have hD : va_D A [(h0, .inr (9, [.int 0, .int 4, .int 0, .int 0, .ref a4, .ref a5, .ref a6, .ref a7, .ref a8, .ref a9, .ref a10, .ref a11, .ref a12, .int 0, .int 0, .int (-1), .int 0, .int 0, .int 0, .ref a19, .int 0, .int 0, .int 0, .ref a23, .ref a24, .ref a25, .ref a26, .ref a27, .ref a28, .ref a29, .ref a30, .ref a31, .ref a32, .ref a33, .ref a34, .int 0, .int 0, .ref a37, .ref a38, .ref a39, .ref a40, .ref a41, .int 0, .ref a43, .ref a44, .ref a45, .ref a46, .ref a47, .int 0, .int 0, .int 0, .int 0, .ref a52, .ref a53, .int 0, .int 0, .ref a56, .ref a57, .int 0, .ref a59, .ref a60, .ref a61])), (a23, .inl (cyI, 1000, .inl (upd g23 (Int32.toNatClampNeg 0) p0))), (a24, .inl (cyI, 1000, .inl (upd g24 (Int32.toNatClampNeg 0) p1))), (a25, .inl (cyI, 1000, .inl (upd g25 (Int32.toNatClampNeg 0) p2))), (a26, .inl (cyI, 1000, .inl (upd g26 (Int32.toNatClampNeg 0) 0))), (a27, .inl (cyI, 1000, .inl (upd g27 (Int32.toNatClampNeg 0) 0)))] := hD
    refine lv_aload_n hx hb dX9_put_88 rfl (lv_at hl 0 rfl) ?_
    refine lv_dup hx hb dX9_put_89 rfl ?_
    refine va_get (D := (dC, dI)) (ci := 9) (v := .int 0) (C := RX9) (T := TX9) (N := 62) hx hb hts i_X9_put_X9 hown hK hP 0 rfl rfl 20 (by decide) k_2 (fun _ h9 => h9) rfl dX9_put_90 ?_
    refine lv_dup_x1 hx hb dX9_put_93 rfl rfl ?_
    refine lv_iconst (v := 1) hx hb dX9_put_94 (by decide) ?_
    refine lv_iadd hx hb dX9_put_95 ?_
    refine lv_topi (fun z_3 ez_3 => ?_)
    obtain rfl : z_3 = 1 := ez_3.trans (by decide)
    refine va_put (D := (dC, dI)) (ci := 9) (v := .int 1) (ty := .int) (C := RX9) (T := TX9) (N := 62) hx hb hts i_X9_put_X9 tyX9 tyX9_ok nmX9 hown hK hP hD hS 0 rfl rfl 20 (by decide) k_2 (fun _ h9 => h9) rfl (by decide +kernel) rfl rfl (Nat.le_of_ble_eq_true rfl) dX9_put_96 (fun H locs hP hD hS => ?_)
    have hP : va_P (dC, dI) vwCl [(h0, .inr (9, [.int 0, .int 4, .int 0, .int 0, .ref a4, .ref a5, .ref a6, .ref a7, .ref a8, .ref a9, .ref a10, .ref a11, .ref a12, .int 0, .int 0, .int (-1), .int 0, .int 0, .int 0, .ref a19, .int 1, .int 0, .int 0, .ref a23, .ref a24, .ref a25, .ref a26, .ref a27, .ref a28, .ref a29, .ref a30, .ref a31, .ref a32, .ref a33, .ref a34, .int 0, .int 0, .ref a37, .ref a38, .ref a39, .ref a40, .ref a41, .int 0, .ref a43, .ref a44, .ref a45, .ref a46, .ref a47, .int 0, .int 0, .int 0, .int 0, .ref a52, .ref a53, .int 0, .int 0, .ref a56, .ref a57, .int 0, .ref a59, .ref a60, .ref a61])), (a23, .inl (cyI, 1000, .inl (upd g23 (Int32.toNatClampNeg 0) p0))), (a24, .inl (cyI, 1000, .inl (upd g24 (Int32.toNatClampNeg 0) p1))), (a25, .inl (cyI, 1000, .inl (upd g25 (Int32.toNatClampNeg 0) p2))), (a26, .inl (cyI, 1000, .inl (upd g26 (Int32.toNatClampNeg 0) 0))), (a27, .inl (cyI, 1000, .inl (upd g27 (Int32.toNatClampNeg 0) 0)))] H := hP
    have hD : va_D A [(h0, .inr (9, [.int 0, .int 4, .int 0, .int 0, .ref a4, .ref a5, .ref a6, .ref a7, .ref a8, .ref a9, .ref a10, .ref a11, .ref a12, .int 0, .int 0, .int (-1), .int 0, .int 0, .int 0, .ref a19, .int 1, .int 0, .int 0, .ref a23, .ref a24, .ref a25, .ref a26, .ref a27, .ref a28, .ref a29, .ref a30, .ref a31, .ref a32, .ref a33, .ref a34, .int 0, .int 0, .ref a37, .ref a38, .ref a39, .ref a40, .ref a41, .int 0, .ref a43, .ref a44, .ref a45, .ref a46, .ref a47, .int 0, .int 0, .int 0, .int 0, .ref a52, .ref a53, .int 0, .int 0, .ref a56, .ref a57, .int 0, .ref a59, .ref a60, .ref a61])), (a23, .inl (cyI, 1000, .inl (upd g23 (Int32.toNatClampNeg 0) p0))), (a24, .inl (cyI, 1000, .inl (upd g24 (Int32.toNatClampNeg 0) p1))), (a25, .inl (cyI, 1000, .inl (upd g25 (Int32.toNatClampNeg 0) p2))), (a26, .inl (cyI, 1000, .inl (upd g26 (Int32.toNatClampNeg 0) 0))), (a27, .inl (cyI, 1000, .inl (upd g27 (Int32.toNatClampNeg 0) 0)))] := hD
    have e9 : f_X9_put p0 p1 p2 = (0, 0) := by rw [f_X9_put, if_neg c_1]
    have hP9 := hP.sub (ws' := [(h0, .inr (9, [.int 0, .int 4, .int 0, .int 0, .ref a4, .ref a5, .ref a6, .ref a7, .ref a8, .ref a9, .ref a10, .ref a11, .ref a12, .int 0, .int 0, .int (-1), .int 0, .int 0, .int 0, .ref a19, .int 1, .int 0, .int 0, .ref a23, .ref a24, .ref a25, .ref a26, .ref a27, .ref a28, .ref a29, .ref a30, .ref a31, .ref a32, .ref a33, .ref a34, .int 0, .int 0, .ref a37, .ref a38, .ref a39, .ref a40, .ref a41, .int 0, .ref a43, .ref a44, .ref a45, .ref a46, .ref a47, .int 0, .int 0, .int 0, .int 0, .ref a52, .ref a53, .int 0, .int 0, .ref a56, .ref a57, .int 0, .ref a59, .ref a60, .ref a61]))]) [0] rfl
    have hD9 := hD.sub (ws' := [(h0, .inr (9, [.int 0, .int 4, .int 0, .int 0, .ref a4, .ref a5, .ref a6, .ref a7, .ref a8, .ref a9, .ref a10, .ref a11, .ref a12, .int 0, .int 0, .int (-1), .int 0, .int 0, .int 0, .ref a19, .int 1, .int 0, .int 0, .ref a23, .ref a24, .ref a25, .ref a26, .ref a27, .ref a28, .ref a29, .ref a30, .ref a31, .ref a32, .ref a33, .ref a34, .int 0, .int 0, .ref a37, .ref a38, .ref a39, .ref a40, .ref a41, .int 0, .ref a43, .ref a44, .ref a45, .ref a46, .ref a47, .int 0, .int 0, .int 0, .int 0, .ref a52, .ref a53, .int 0, .int 0, .ref a56, .ref a57, .int 0, .ref a59, .ref a60, .ref a61]))]) [0] (by decide) rfl
    exact W.iret hx hb hr (fun t ht hW => ⟨⟨_, (), rfl, by rw [e9], [.int 4, .int 0, .int 0, .ref a4, .ref a5, .ref a6, .ref a7, .ref a8, .ref a9, .ref a10, .ref a11, .ref a12, .int 0, .int 0, .int (-1), .int 0, .int 0, .int 0, .ref a19, .int 1, .int 0, .int 0, .ref a23, .ref a24, .ref a25, .ref a26, .ref a27, .ref a28, .ref a29, .ref a30, .ref a31, .ref a32, .ref a33, .ref a34, .int 0, .int 0, .ref a37, .ref a38, .ref a39, .ref a40, .ref a41, .int 0, .ref a43, .ref a44, .ref a45, .ref a46, .ref a47, .int 0, .int 0, .int 0, .int 0, .ref a52, .ref a53, .int 0, .int 0, .ref a56, .ref a57, .int 0, .ref a59, .ref a60, .ref a61], by rw [ht, e9]; exact hP9, va_K.moved hW.alike hK, by rw [e9]; exact hD9⟩, hS.F ht⟩) hS.2.2 dX9_put_99
  · skip
    refine lv_aload_n hx hb dX9_put_15 rfl (lv_at hl 0 rfl) ?_
    have hPc := hP.sub (ws' := [(h0, .inr (9, [.int 0, .int 4, .int 0, .int 0, .ref a4, .ref a5, .ref a6, .ref a7, .ref a8, .ref a9, .ref a10, .ref a11, .ref a12, .int 0, .int 0, .int (-1), .int 0, .int 0, .int 0, .ref a19, .int 0, .int 0, .int 0, .ref a23, .ref a24, .ref a25, .ref a26, .ref a27, .ref a28, .ref a29, .ref a30, .ref a31, .ref a32, .ref a33, .ref a34, .int 0, .int 0, .ref a37, .ref a38, .ref a39, .ref a40, .ref a41, .int 0, .ref a43, .ref a44, .ref a45, .ref a46, .ref a47, .int 0, .int 0, .int 0, .int 0, .ref a52, .ref a53, .int 0, .int 0, .ref a56, .ref a57, .int 0, .ref a59, .ref a60, .ref a61]))]) [0] rfl
    have hDc := hD.sub (ws' := [(h0, .inr (9, [.int 0, .int 4, .int 0, .int 0, .ref a4, .ref a5, .ref a6, .ref a7, .ref a8, .ref a9, .ref a10, .ref a11, .ref a12, .int 0, .int 0, .int (-1), .int 0, .int 0, .int 0, .ref a19, .int 0, .int 0, .int 0, .ref a23, .ref a24, .ref a25, .ref a26, .ref a27, .ref a28, .ref a29, .ref a30, .ref a31, .ref a32, .ref a33, .ref a34, .int 0, .int 0, .ref a37, .ref a38, .ref a39, .ref a40, .ref a41, .int 0, .ref a43, .ref a44, .ref a45, .ref a46, .ref a47, .int 0, .int 0, .int 0, .int 0, .ref a52, .ref a53, .int 0, .int 0, .ref a56, .ref a57, .int 0, .ref a59, .ref a60, .ref a61]))]) [0] (by decide) rfl
    have hFc := va_free (wc := [(h0, .inr (9, [.int 0, .int 4, .int 0, .int 0, .ref a4, .ref a5, .ref a6, .ref a7, .ref a8, .ref a9, .ref a10, .ref a11, .ref a12, .int 0, .int 0, .int (-1), .int 0, .int 0, .int 0, .ref a19, .int 0, .int 0, .int 0, .ref a23, .ref a24, .ref a25, .ref a26, .ref a27, .ref a28, .ref a29, .ref a30, .ref a31, .ref a32, .ref a33, .ref a34, .int 0, .int 0, .ref a37, .ref a38, .ref a39, .ref a40, .ref a41, .int 0, .ref a43, .ref a44, .ref a45, .ref a46, .ref a47, .int 0, .int 0, .int 0, .int 0, .ref a52, .ref a53, .int 0, .int 0, .ref a56, .ref a57, .int 0, .ref a59, .ref a60, .ref a61]))]) hD hS hA [0] rfl
    refine va_calli (va_runV (As := []) (rest := []) ⟨hx, hb, hml, hown, hts⟩ (c_X9_bad l dC dI cyI cyZ cyJ H.size h0 a4 a5 a6 a7 a8 a9 a10 a11 a12 a19 a23 a24 a25 a26 a27 a28 a29 a30 a31 a32 a33 a34 a37 a38 a39 a40 a41 a43 a44 a45 a46 a47 a52 a53 a56 a57 a59 a60 a61) (cwV 0 hts gX9_put_X9_bad rfl rfl rfl (by decide +kernel) ⟨Nat.le_of_ble_eq_true rfl, Nat.le_of_ble_eq_true rfl⟩) (x_pVD hN hK hPc hDc (ci := 9) (q0 := 0) rfl rfl) rfl rfl hl.1 rfl (lv_room (Nat.le_of_ble_eq_true rfl)) dX9_put_16 ⟨Nat.le_of_ble_eq_true rfl, Nat.le_of_ble_eq_true rfl⟩) hS (fun q _ h => hFc q h) hFc (fun r_16 u t H1 locs ht hvm hw hB hz1 hk1 hS => ?_)
    obtain ⟨hP1, hK1, hD1⟩ := hB
    rw [ht] at hP1
    obtain ⟨hP, hD⟩ := va_join (wr := [(a23, .inl (cyI, 1000, .inl g23)), (a24, .inl (cyI, 1000, .inl g24)), (a25, .inl (cyI, 1000, .inl g25)), (a26, .inl (cyI, 1000, .inl g26)), (a27, .inl (cyI, 1000, .inl g27))]) (w1 := [(h0, .inr (9, [.int 1, .int 4, .int 0, .int 0, .ref a4, .ref a5, .ref a6, .ref a7, .ref a8, .ref a9, .ref a10, .ref a11, .ref a12, .int 0, .int 0, .int (-1), .int 0, .int 0, .int 0, .ref a19, .int 0, .int 0, .int 0, .ref a23, .ref a24, .ref a25, .ref a26, .ref a27, .ref a28, .ref a29, .ref a30, .ref a31, .ref a32, .ref a33, .ref a34, .int 0, .int 0, .ref a37, .ref a38, .ref a39, .ref a40, .ref a41, .int 0, .ref a43, .ref a44, .ref a45, .ref a46, .ref a47, .int 0, .int 0, .int 0, .int 0, .ref a52, .ref a53, .int 0, .int 0, .ref a56, .ref a57, .int 0, .ref a59, .ref a60, .ref a61]))]) hP hD [0] [1, 2, 3, 4, 5] rfl rfl (by decide) (by decide) hk1 hFc hP1 hD1
    clear hz1 hk1 hPc hDc hFc hP1 hK1 hD1 ht hvm t u
    generalize H1 = H at hP hS ⊢
    have hP : va_P (dC, dI) vwCl [(a23, .inl (cyI, 1000, .inl g23)), (a24, .inl (cyI, 1000, .inl g24)), (a25, .inl (cyI, 1000, .inl g25)), (a26, .inl (cyI, 1000, .inl g26)), (a27, .inl (cyI, 1000, .inl g27)), (h0, .inr (9, [.int 1, .int 4, .int 0, .int 0, .ref a4, .ref a5, .ref a6, .ref a7, .ref a8, .ref a9, .ref a10, .ref a11, .ref a12, .int 0, .int 0, .int (-1), .int 0, .int 0, .int 0, .ref a19, .int 0, .int 0, .int 0, .ref a23, .ref a24, .ref a25, .ref a26, .ref a27, .ref a28, .ref a29, .ref a30, .ref a31, .ref a32, .ref a33, .ref a34, .int 0, .int 0, .ref a37, .ref a38, .ref a39, .ref a40, .ref a41, .int 0, .ref a43, .ref a44, .ref a45, .ref a46, .ref a47, .int 0, .int 0, .int 0, .int 0, .ref a52, .ref a53, .int 0, .int 0, .ref a56, .ref a57, .int 0, .ref a59, .ref a60, .ref a61]))] H := hP
    have hD : va_D A [(a23, .inl (cyI, 1000, .inl g23)), (a24, .inl (cyI, 1000, .inl g24)), (a25, .inl (cyI, 1000, .inl g25)), (a26, .inl (cyI, 1000, .inl g26)), (a27, .inl (cyI, 1000, .inl g27)), (h0, .inr (9, [.int 1, .int 4, .int 0, .int 0, .ref a4, .ref a5, .ref a6, .ref a7, .ref a8, .ref a9, .ref a10, .ref a11, .ref a12, .int 0, .int 0, .int (-1), .int 0, .int 0, .int 0, .ref a19, .int 0, .int 0, .int 0, .ref a23, .ref a24, .ref a25, .ref a26, .ref a27, .ref a28, .ref a29, .ref a30, .ref a31, .ref a32, .ref a33, .ref a34, .int 0, .int 0, .ref a37, .ref a38, .ref a39, .ref a40, .ref a41, .int 0, .ref a43, .ref a44, .ref a45, .ref a46, .ref a47, .int 0, .int 0, .int 0, .int 0, .ref a52, .ref a53, .int 0, .int 0, .ref a56, .ref a57, .int 0, .ref a59, .ref a60, .ref a61]))] := hD
    obtain rfl := hw
    have e9 : f_X9_put p0 p1 p2 = (1, 0) := by rw [f_X9_put, if_pos c_1]
    have hP9 := hP.sub (ws' := [(h0, .inr (9, [.int 1, .int 4, .int 0, .int 0, .ref a4, .ref a5, .ref a6, .ref a7, .ref a8, .ref a9, .ref a10, .ref a11, .ref a12, .int 0, .int 0, .int (-1), .int 0, .int 0, .int 0, .ref a19, .int 0, .int 0, .int 0, .ref a23, .ref a24, .ref a25, .ref a26, .ref a27, .ref a28, .ref a29, .ref a30, .ref a31, .ref a32, .ref a33, .ref a34, .int 0, .int 0, .ref a37, .ref a38, .ref a39, .ref a40, .ref a41, .int 0, .ref a43, .ref a44, .ref a45, .ref a46, .ref a47, .int 0, .int 0, .int 0, .int 0, .ref a52, .ref a53, .int 0, .int 0, .ref a56, .ref a57, .int 0, .ref a59, .ref a60, .ref a61]))]) [5] rfl
    have hD9 := hD.sub (ws' := [(h0, .inr (9, [.int 1, .int 4, .int 0, .int 0, .ref a4, .ref a5, .ref a6, .ref a7, .ref a8, .ref a9, .ref a10, .ref a11, .ref a12, .int 0, .int 0, .int (-1), .int 0, .int 0, .int 0, .ref a19, .int 0, .int 0, .int 0, .ref a23, .ref a24, .ref a25, .ref a26, .ref a27, .ref a28, .ref a29, .ref a30, .ref a31, .ref a32, .ref a33, .ref a34, .int 0, .int 0, .ref a37, .ref a38, .ref a39, .ref a40, .ref a41, .int 0, .ref a43, .ref a44, .ref a45, .ref a46, .ref a47, .int 0, .int 0, .int 0, .int 0, .ref a52, .ref a53, .int 0, .int 0, .ref a56, .ref a57, .int 0, .ref a59, .ref a60, .ref a61]))]) [5] (by decide) rfl
    exact W.iret hx hb hr (fun t ht hW => ⟨⟨_, (), rfl, by rw [e9], [.int 4, .int 0, .int 0, .ref a4, .ref a5, .ref a6, .ref a7, .ref a8, .ref a9, .ref a10, .ref a11, .ref a12, .int 0, .int 0, .int (-1), .int 0, .int 0, .int 0, .ref a19, .int 0, .int 0, .int 0, .ref a23, .ref a24, .ref a25, .ref a26, .ref a27, .ref a28, .ref a29, .ref a30, .ref a31, .ref a32, .ref a33, .ref a34, .int 0, .int 0, .ref a37, .ref a38, .ref a39, .ref a40, .ref a41, .int 0, .ref a43, .ref a44, .ref a45, .ref a46, .ref a47, .int 0, .int 0, .int 0, .int 0, .ref a52, .ref a53, .int 0, .int 0, .ref a56, .ref a57, .int 0, .ref a59, .ref a60, .ref a61], by rw [ht, e9]; exact hP9, va_K.moved hW.alike hK, by rw [e9]; exact hD9⟩, hS.F ht⟩) hS.2.2 dX9_put_19

def f_X9_to (p0 : Int32) : Int32 × Int32 := if (0 : Int32) ≤ p0 then (2, 0) else (1, 0)
theorem i_X9_to_X9 : ∀ w ∈ wsX90, w ∈ wsX9_to := by decide +kernel
set_option maxHeartbeats 4000000 in
set_option maxRecDepth 100000 in
theorem c_X9_to (l : Launch) (dC : Nat → ClassId) (dI : Nat → Nat → Nat) (cyI cyZ cyJ : ClassId) (sz : Nat) (h0 : Nat) (a4 : Nat) (a5 : Nat) (a6 : Nat) (a7 : Nat) (a8 : Nat) (a9 : Nat) (a10 : Nat) (a11 : Nat) (a12 : Nat) (a19 : Nat) (a23 : Nat) (a24 : Nat) (a25 : Nat) (a26 : Nat) (a27 : Nat) (a28 : Nat) (a29 : Nat) (a30 : Nat) (a31 : Nat) (a32 : Nat) (a33 : Nat) (a34 : Nat) (a37 : Nat) (a38 : Nat) (a39 : Nat) (a40 : Nat) (a41 : Nat) (a43 : Nat) (a44 : Nat) (a45 : Nat) (a46 : Nat) (a47 : Nat) (a52 : Nat) (a53 : Nat) (a56 : Nat) (a57 : Nat) (a59 : Nat) (a60 : Nat) (a61 : Nat) (p0 : Int32) : Met l yX9_to wsX9_to ({ frames := 1, cells := 0, slots := 0, locals := 20 }) (va_Pc [.ref h0, .int p0] (x_PreD (dC, dI) (x_T cyI cyZ cyJ) [(h0, .inr (9, [.int 0, .int 4, .int 0, .int 0, .ref a4, .ref a5, .ref a6, .ref a7, .ref a8, .ref a9, .ref a10, .ref a11, .ref a12, .int 0, .int 0, .int (-1), .int 0, .int 0, .int 0, .ref a19, .int 0, .int 0, .int 0, .ref a23, .ref a24, .ref a25, .ref a26, .ref a27, .ref a28, .ref a29, .ref a30, .ref a31, .ref a32, .ref a33, .ref a34, .int 0, .int 0, .ref a37, .ref a38, .ref a39, .ref a40, .ref a41, .int 0, .ref a43, .ref a44, .ref a45, .ref a46, .ref a47, .int 0, .int 0, .int 0, .int 0, .ref a52, .ref a53, .int 0, .int 0, .ref a56, .ref a57, .int 0, .ref a59, .ref a60, .ref a61]))] sz)) (va_Qi (fun (r : Int32) (_ : Unit) => r = (f_X9_to p0).2) (fun (_ : Unit) (t : State) => ∃ u : List Value, va_P (dC, dI) vwCl [(h0, .inr (9, .int (f_X9_to p0).1 :: u))] t.heap ∧ va_K (dC, dI) vwCl (x_T cyI cyZ cyJ) t ∧ va_D (va_A [(h0, .inr (9, [.int 0, .int 4, .int 0, .int 0, .ref a4, .ref a5, .ref a6, .ref a7, .ref a8, .ref a9, .ref a10, .ref a11, .ref a12, .int 0, .int 0, .int (-1), .int 0, .int 0, .int 0, .ref a19, .int 0, .int 0, .int 0, .ref a23, .ref a24, .ref a25, .ref a26, .ref a27, .ref a28, .ref a29, .ref a30, .ref a31, .ref a32, .ref a33, .ref a34, .int 0, .int 0, .ref a37, .ref a38, .ref a39, .ref a40, .ref a41, .int 0, .ref a43, .ref a44, .ref a45, .ref a46, .ref a47, .int 0, .int 0, .int 0, .int 0, .ref a52, .ref a53, .int 0, .int 0, .ref a56, .ref a57, .int 0, .ref a59, .ref a60, .ref a61]))] sz) [(h0, .inr (9, .int (f_X9_to p0).1 :: u))]) (va_A [(h0, .inr (9, [.int 0, .int 4, .int 0, .int 0, .ref a4, .ref a5, .ref a6, .ref a7, .ref a8, .ref a9, .ref a10, .ref a11, .ref a12, .int 0, .int 0, .int (-1), .int 0, .int 0, .int 0, .ref a19, .int 0, .int 0, .int 0, .ref a23, .ref a24, .ref a25, .ref a26, .ref a27, .ref a28, .ref a29, .ref a30, .ref a31, .ref a32, .ref a33, .ref a34, .int 0, .int 0, .ref a37, .ref a38, .ref a39, .ref a40, .ref a41, .int 0, .ref a43, .ref a44, .ref a45, .ref a46, .ref a47, .int 0, .int 0, .int 0, .int 0, .ref a52, .ref a53, .int 0, .int 0, .ref a56, .ref a57, .int 0, .ref a59, .ref a60, .ref a61]))] sz)) 0 0 (va_A [(h0, .inr (9, [.int 0, .int 4, .int 0, .int 0, .ref a4, .ref a5, .ref a6, .ref a7, .ref a8, .ref a9, .ref a10, .ref a11, .ref a12, .int 0, .int 0, .int (-1), .int 0, .int 0, .int 0, .ref a19, .int 0, .int 0, .int 0, .ref a23, .ref a24, .ref a25, .ref a26, .ref a27, .ref a28, .ref a29, .ref a30, .ref a31, .ref a32, .ref a33, .ref a34, .int 0, .int 0, .ref a37, .ref a38, .ref a39, .ref a40, .ref a41, .int 0, .ref a43, .ref a44, .ref a45, .ref a46, .ref a47, .int 0, .int 0, .int 0, .int 0, .ref a52, .ref a53, .int 0, .int 0, .ref a56, .ref a57, .int 0, .ref a59, .ref a60, .ref a61]))] sz) := by
  refine Met.ofW (cc := cX9_to) (maxL := 2) (ret := (some .int)) (by decide) rfl ?_
  intro p e s m args below meth c s₁ B hml hv
  obtain ⟨rfl, ⟨hsz, hP, hK, hN⟩, hD0⟩ := hv
  have hx := B.exec
  have hb := B.bytes
  have hr := B.returns
  have hts := atoms_spec (ws := wsX9_to) B.pre
  have hown : s.vm.findClass RX9 = some m.cls := findClass_of_methodNamed B.named
  have hlocks := B.notSynchronized
  have k_1 := hts (.fieldLink RX9 1 "FlowJudgeModel" "thrown" "I") (by decide +kernel)
  have k_2 := hts (.fieldLink RX9 179 "FlowJudgeModel" "many" "I") (by decide +kernel)
  subst hsz
  have hD := hD0.self (sz := s.heap.size)
  generalize hAe : va_A [(h0, .inr (9, [.int 0, .int 4, .int 0, .int 0, .ref a4, .ref a5, .ref a6, .ref a7, .ref a8, .ref a9, .ref a10, .ref a11, .ref a12, .int 0, .int 0, .int (-1), .int 0, .int 0, .int 0, .ref a19, .int 0, .int 0, .int 0, .ref a23, .ref a24, .ref a25, .ref a26, .ref a27, .ref a28, .ref a29, .ref a30, .ref a31, .ref a32, .ref a33, .ref a34, .int 0, .int 0, .ref a37, .ref a38, .ref a39, .ref a40, .ref a41, .int 0, .ref a43, .ref a44, .ref a45, .ref a46, .ref a47, .int 0, .int 0, .int 0, .int 0, .ref a52, .ref a53, .int 0, .int 0, .ref a56, .ref a57, .int 0, .ref a59, .ref a60, .ref a61]))] s.heap.size = A at hD ⊢
  have hA : ∀ q : Nat, s.heap.size ≤ q → A q := fun q h => by rw [← hAe]; exact Or.inr h
  have hS : va_S A s.heap s.heap [] := va_S.rf
  have hP : va_P (dC, dI) vwCl [(h0, .inr (9, [.int 0, .int 4, .int 0, .int 0, .ref a4, .ref a5, .ref a6, .ref a7, .ref a8, .ref a9, .ref a10, .ref a11, .ref a12, .int 0, .int 0, .int (-1), .int 0, .int 0, .int 0, .ref a19, .int 0, .int 0, .int 0, .ref a23, .ref a24, .ref a25, .ref a26, .ref a27, .ref a28, .ref a29, .ref a30, .ref a31, .ref a32, .ref a33, .ref a34, .int 0, .int 0, .ref a37, .ref a38, .ref a39, .ref a40, .ref a41, .int 0, .ref a43, .ref a44, .ref a45, .ref a46, .ref a47, .int 0, .int 0, .int 0, .int 0, .ref a52, .ref a53, .int 0, .int 0, .ref a56, .ref a57, .int 0, .ref a59, .ref a60, .ref a61]))] s.heap := hP
  have hl := lv_entry ([.ref h0, .int p0]) (n := 2) (Nat.le_of_ble_eq_true rfl)
  rw [lg_entry_eq]
  generalize (lg_sl ([.ref h0, .int p0]) ++ List.replicate (2 - (lg_sl ([.ref h0, .int p0])).length) Slot.unset).toArray = ls at hl ⊢
  have hl : lv_has ls 2 [(0, .ref h0), (1, .int p0)] := hl
  obtain ⟨H, hH⟩ : ∃ z, z = s.heap := ⟨_, rfl⟩
  refine x_here hH ?_
  have hP : va_P (dC, dI) vwCl [(h0, .inr (9, [.int 0, .int 4, .int 0, .int 0, .ref a4, .ref a5, .ref a6, .ref a7, .ref a8, .ref a9, .ref a10, .ref a11, .ref a12, .int 0, .int 0, .int (-1), .int 0, .int 0, .int 0, .ref a19, .int 0, .int 0, .int 0, .ref a23, .ref a24, .ref a25, .ref a26, .ref a27, .ref a28, .ref a29, .ref a30, .ref a31, .ref a32, .ref a33, .ref a34, .int 0, .int 0, .ref a37, .ref a38, .ref a39, .ref a40, .ref a41, .int 0, .ref a43, .ref a44, .ref a45, .ref a46, .ref a47, .int 0, .int 0, .int 0, .int 0, .ref a52, .ref a53, .int 0, .int 0, .ref a56, .ref a57, .int 0, .ref a59, .ref a60, .ref a61]))] H := by rw [hH]; exact hP
  have hS : va_S A s.heap H [] := by rw [hH]; exact va_S.rf
  clear hH
  refine lv_aload_n hx hb dX9_to_0 rfl (lv_at hl 0 rfl) ?_
  refine lv_iconst (v := 0) hx hb dX9_to_1 (by decide) ?_
  refine va_put (D := (dC, dI)) (ci := 9) (v := .int 0) (ty := .int) (C := RX9) (T := TX9) (N := 62) hx hb hts i_X9_to_X9 tyX9 tyX9_ok nmX9 hown hK hP hD hS 0 rfl rfl 0 (by decide) k_1 (fun _ h9 => h9) rfl (by decide +kernel) rfl rfl (Nat.le_of_ble_eq_true rfl) dX9_to_2 (fun H locs hP hD hS => ?_)
  have hP : va_P (dC, dI) vwCl [(h0, .inr (9, [.int 0, .int 4, .int 0, .int 0, .ref a4, .ref a5, .ref a6, .ref a7, .ref a8, .ref a9, .ref a10, .ref a11, .ref a12, .int 0, .int 0, .int (-1), .int 0, .int 0, .int 0, .ref a19, .int 0, .int 0, .int 0, .ref a23, .ref a24, .ref a25, .ref a26, .ref a27, .ref a28, .ref a29, .ref a30, .ref a31, .ref a32, .ref a33, .ref a34, .int 0, .int 0, .ref a37, .ref a38, .ref a39, .ref a40, .ref a41, .int 0, .ref a43, .ref a44, .ref a45, .ref a46, .ref a47, .int 0, .int 0, .int 0, .int 0, .ref a52, .ref a53, .int 0, .int 0, .ref a56, .ref a57, .int 0, .ref a59, .ref a60, .ref a61]))] H := hP
  have hD : va_D A [(h0, .inr (9, [.int 0, .int 4, .int 0, .int 0, .ref a4, .ref a5, .ref a6, .ref a7, .ref a8, .ref a9, .ref a10, .ref a11, .ref a12, .int 0, .int 0, .int (-1), .int 0, .int 0, .int 0, .ref a19, .int 0, .int 0, .int 0, .ref a23, .ref a24, .ref a25, .ref a26, .ref a27, .ref a28, .ref a29, .ref a30, .ref a31, .ref a32, .ref a33, .ref a34, .int 0, .int 0, .ref a37, .ref a38, .ref a39, .ref a40, .ref a41, .int 0, .ref a43, .ref a44, .ref a45, .ref a46, .ref a47, .int 0, .int 0, .int 0, .int 0, .ref a52, .ref a53, .int 0, .int 0, .ref a56, .ref a57, .int 0, .ref a59, .ref a60, .ref a61]))] := hD
  refine lv_iload_n hx hb dX9_to_5 rfl (lv_at hl 1 rfl) ?_
  refine lv_if_ge (tgt := 14) hx hb dX9_to_6 (by decide) (fun c_1 => ?_) (fun c_1 => ?_)
  · skip
    refine lv_aload_n hx hb dX9_to_14 rfl (lv_at hl 0 rfl) ?_
    refine va_get (D := (dC, dI)) (ci := 9) (v := .int 0) (C := RX9) (T := TX9) (N := 62) hx hb hts i_X9_to_X9 hown hK hP 0 rfl rfl 20 (by decide) k_2 (fun _ h9 => h9) rfl dX9_to_15 ?_
    refine lv_if_eq (tgt := 71) hx hb dX9_to_18 (by decide) (fun _ => ?_) (fun c_2 => absurd (by decide) c_2)
    refine lv_aload_n hx hb dX9_to_71 rfl (lv_at hl 0 rfl) ?_
    have hPc := hP.sub (ws' := [(h0, .inr (9, [.int 0, .int 4, .int 0, .int 0, .ref a4, .ref a5, .ref a6, .ref a7, .ref a8, .ref a9, .ref a10, .ref a11, .ref a12, .int 0, .int 0, .int (-1), .int 0, .int 0, .int 0, .ref a19, .int 0, .int 0, .int 0, .ref a23, .ref a24, .ref a25, .ref a26, .ref a27, .ref a28, .ref a29, .ref a30, .ref a31, .ref a32, .ref a33, .ref a34, .int 0, .int 0, .ref a37, .ref a38, .ref a39, .ref a40, .ref a41, .int 0, .ref a43, .ref a44, .ref a45, .ref a46, .ref a47, .int 0, .int 0, .int 0, .int 0, .ref a52, .ref a53, .int 0, .int 0, .ref a56, .ref a57, .int 0, .ref a59, .ref a60, .ref a61]))]) [0] rfl
    have hDc := hD.sub (ws' := [(h0, .inr (9, [.int 0, .int 4, .int 0, .int 0, .ref a4, .ref a5, .ref a6, .ref a7, .ref a8, .ref a9, .ref a10, .ref a11, .ref a12, .int 0, .int 0, .int (-1), .int 0, .int 0, .int 0, .ref a19, .int 0, .int 0, .int 0, .ref a23, .ref a24, .ref a25, .ref a26, .ref a27, .ref a28, .ref a29, .ref a30, .ref a31, .ref a32, .ref a33, .ref a34, .int 0, .int 0, .ref a37, .ref a38, .ref a39, .ref a40, .ref a41, .int 0, .ref a43, .ref a44, .ref a45, .ref a46, .ref a47, .int 0, .int 0, .int 0, .int 0, .ref a52, .ref a53, .int 0, .int 0, .ref a56, .ref a57, .int 0, .ref a59, .ref a60, .ref a61]))]) [0] (by decide) rfl
    have hFc := va_free (wc := [(h0, .inr (9, [.int 0, .int 4, .int 0, .int 0, .ref a4, .ref a5, .ref a6, .ref a7, .ref a8, .ref a9, .ref a10, .ref a11, .ref a12, .int 0, .int 0, .int (-1), .int 0, .int 0, .int 0, .ref a19, .int 0, .int 0, .int 0, .ref a23, .ref a24, .ref a25, .ref a26, .ref a27, .ref a28, .ref a29, .ref a30, .ref a31, .ref a32, .ref a33, .ref a34, .int 0, .int 0, .ref a37, .ref a38, .ref a39, .ref a40, .ref a41, .int 0, .ref a43, .ref a44, .ref a45, .ref a46, .ref a47, .int 0, .int 0, .int 0, .int 0, .ref a52, .ref a53, .int 0, .int 0, .ref a56, .ref a57, .int 0, .ref a59, .ref a60, .ref a61]))]) hD hS hA [0] rfl
    refine va_calli (va_runV (As := []) (rest := []) ⟨hx, hb, hml, hown, hts⟩ (c_X9_full l dC dI cyI cyZ cyJ H.size h0 a4 a5 a6 a7 a8 a9 a10 a11 a12 a19 a23 a24 a25 a26 a27 a28 a29 a30 a31 a32 a33 a34 a37 a38 a39 a40 a41 a43 a44 a45 a46 a47 a52 a53 a56 a57 a59 a60 a61) (cwV 0 hts gX9_to_X9_full rfl rfl rfl (by decide +kernel) ⟨Nat.le_of_ble_eq_true rfl, Nat.le_of_ble_eq_true rfl⟩) (x_pVD hN hK hPc hDc (ci := 9) (q0 := 0) rfl rfl) rfl rfl hl.1 rfl (lv_room (Nat.le_of_ble_eq_true rfl)) dX9_to_72 ⟨Nat.le_of_ble_eq_true rfl, Nat.le_of_ble_eq_true rfl⟩) hS (fun q _ h => hFc q h) hFc (fun r_72 u t H1 locs ht hvm hw hB hz1 hk1 hS => ?_)
    obtain ⟨hP1, hK1, hD1⟩ := hB
    rw [ht] at hP1
    obtain ⟨hP, hD⟩ := va_join (wr := []) (w1 := [(h0, .inr (9, [.int 2, .int 4, .int 0, .int 0, .ref a4, .ref a5, .ref a6, .ref a7, .ref a8, .ref a9, .ref a10, .ref a11, .ref a12, .int 0, .int 0, .int (-1), .int 0, .int 0, .int 0, .ref a19, .int 0, .int 0, .int 0, .ref a23, .ref a24, .ref a25, .ref a26, .ref a27, .ref a28, .ref a29, .ref a30, .ref a31, .ref a32, .ref a33, .ref a34, .int 0, .int 0, .ref a37, .ref a38, .ref a39, .ref a40, .ref a41, .int 0, .ref a43, .ref a44, .ref a45, .ref a46, .ref a47, .int 0, .int 0, .int 0, .int 0, .ref a52, .ref a53, .int 0, .int 0, .ref a56, .ref a57, .int 0, .ref a59, .ref a60, .ref a61]))]) hP hD [0] [] rfl rfl (by decide) (by decide) hk1 hFc hP1 hD1
    clear hz1 hk1 hPc hDc hFc hP1 hK1 hD1 ht hvm t u
    generalize H1 = H at hP hS ⊢
    have hP : va_P (dC, dI) vwCl [(h0, .inr (9, [.int 2, .int 4, .int 0, .int 0, .ref a4, .ref a5, .ref a6, .ref a7, .ref a8, .ref a9, .ref a10, .ref a11, .ref a12, .int 0, .int 0, .int (-1), .int 0, .int 0, .int 0, .ref a19, .int 0, .int 0, .int 0, .ref a23, .ref a24, .ref a25, .ref a26, .ref a27, .ref a28, .ref a29, .ref a30, .ref a31, .ref a32, .ref a33, .ref a34, .int 0, .int 0, .ref a37, .ref a38, .ref a39, .ref a40, .ref a41, .int 0, .ref a43, .ref a44, .ref a45, .ref a46, .ref a47, .int 0, .int 0, .int 0, .int 0, .ref a52, .ref a53, .int 0, .int 0, .ref a56, .ref a57, .int 0, .ref a59, .ref a60, .ref a61]))] H := hP
    have hD : va_D A [(h0, .inr (9, [.int 2, .int 4, .int 0, .int 0, .ref a4, .ref a5, .ref a6, .ref a7, .ref a8, .ref a9, .ref a10, .ref a11, .ref a12, .int 0, .int 0, .int (-1), .int 0, .int 0, .int 0, .ref a19, .int 0, .int 0, .int 0, .ref a23, .ref a24, .ref a25, .ref a26, .ref a27, .ref a28, .ref a29, .ref a30, .ref a31, .ref a32, .ref a33, .ref a34, .int 0, .int 0, .ref a37, .ref a38, .ref a39, .ref a40, .ref a41, .int 0, .ref a43, .ref a44, .ref a45, .ref a46, .ref a47, .int 0, .int 0, .int 0, .int 0, .ref a52, .ref a53, .int 0, .int 0, .ref a56, .ref a57, .int 0, .ref a59, .ref a60, .ref a61]))] := hD
    obtain rfl := hw
    have e9 : f_X9_to p0 = (2, 0) := by rw [f_X9_to, if_pos c_1]
    have hP9 := hP.sub (ws' := [(h0, .inr (9, [.int 2, .int 4, .int 0, .int 0, .ref a4, .ref a5, .ref a6, .ref a7, .ref a8, .ref a9, .ref a10, .ref a11, .ref a12, .int 0, .int 0, .int (-1), .int 0, .int 0, .int 0, .ref a19, .int 0, .int 0, .int 0, .ref a23, .ref a24, .ref a25, .ref a26, .ref a27, .ref a28, .ref a29, .ref a30, .ref a31, .ref a32, .ref a33, .ref a34, .int 0, .int 0, .ref a37, .ref a38, .ref a39, .ref a40, .ref a41, .int 0, .ref a43, .ref a44, .ref a45, .ref a46, .ref a47, .int 0, .int 0, .int 0, .int 0, .ref a52, .ref a53, .int 0, .int 0, .ref a56, .ref a57, .int 0, .ref a59, .ref a60, .ref a61]))]) [0] rfl
    have hD9 := hD.sub (ws' := [(h0, .inr (9, [.int 2, .int 4, .int 0, .int 0, .ref a4, .ref a5, .ref a6, .ref a7, .ref a8, .ref a9, .ref a10, .ref a11, .ref a12, .int 0, .int 0, .int (-1), .int 0, .int 0, .int 0, .ref a19, .int 0, .int 0, .int 0, .ref a23, .ref a24, .ref a25, .ref a26, .ref a27, .ref a28, .ref a29, .ref a30, .ref a31, .ref a32, .ref a33, .ref a34, .int 0, .int 0, .ref a37, .ref a38, .ref a39, .ref a40, .ref a41, .int 0, .ref a43, .ref a44, .ref a45, .ref a46, .ref a47, .int 0, .int 0, .int 0, .int 0, .ref a52, .ref a53, .int 0, .int 0, .ref a56, .ref a57, .int 0, .ref a59, .ref a60, .ref a61]))]) [0] (by decide) rfl
    exact W.iret hx hb hr (fun t ht hW => ⟨⟨_, (), rfl, by rw [e9], [.int 4, .int 0, .int 0, .ref a4, .ref a5, .ref a6, .ref a7, .ref a8, .ref a9, .ref a10, .ref a11, .ref a12, .int 0, .int 0, .int (-1), .int 0, .int 0, .int 0, .ref a19, .int 0, .int 0, .int 0, .ref a23, .ref a24, .ref a25, .ref a26, .ref a27, .ref a28, .ref a29, .ref a30, .ref a31, .ref a32, .ref a33, .ref a34, .int 0, .int 0, .ref a37, .ref a38, .ref a39, .ref a40, .ref a41, .int 0, .ref a43, .ref a44, .ref a45, .ref a46, .ref a47, .int 0, .int 0, .int 0, .int 0, .ref a52, .ref a53, .int 0, .int 0, .ref a56, .ref a57, .int 0, .ref a59, .ref a60, .ref a61], by rw [ht, e9]; exact hP9, va_K.moved hW.alike hK, by rw [e9]; exact hD9⟩, hS.F ht⟩) hS.2.2 dX9_to_75
  · skip
    refine lv_aload_n hx hb dX9_to_9 rfl (lv_at hl 0 rfl) ?_
    have hPc := hP.sub (ws' := [(h0, .inr (9, [.int 0, .int 4, .int 0, .int 0, .ref a4, .ref a5, .ref a6, .ref a7, .ref a8, .ref a9, .ref a10, .ref a11, .ref a12, .int 0, .int 0, .int (-1), .int 0, .int 0, .int 0, .ref a19, .int 0, .int 0, .int 0, .ref a23, .ref a24, .ref a25, .ref a26, .ref a27, .ref a28, .ref a29, .ref a30, .ref a31, .ref a32, .ref a33, .ref a34, .int 0, .int 0, .ref a37, .ref a38, .ref a39, .ref a40, .ref a41, .int 0, .ref a43, .ref a44, .ref a45, .ref a46, .ref a47, .int 0, .int 0, .int 0, .int 0, .ref a52, .ref a53, .int 0, .int 0, .ref a56, .ref a57, .int 0, .ref a59, .ref a60, .ref a61]))]) [0] rfl
    have hDc := hD.sub (ws' := [(h0, .inr (9, [.int 0, .int 4, .int 0, .int 0, .ref a4, .ref a5, .ref a6, .ref a7, .ref a8, .ref a9, .ref a10, .ref a11, .ref a12, .int 0, .int 0, .int (-1), .int 0, .int 0, .int 0, .ref a19, .int 0, .int 0, .int 0, .ref a23, .ref a24, .ref a25, .ref a26, .ref a27, .ref a28, .ref a29, .ref a30, .ref a31, .ref a32, .ref a33, .ref a34, .int 0, .int 0, .ref a37, .ref a38, .ref a39, .ref a40, .ref a41, .int 0, .ref a43, .ref a44, .ref a45, .ref a46, .ref a47, .int 0, .int 0, .int 0, .int 0, .ref a52, .ref a53, .int 0, .int 0, .ref a56, .ref a57, .int 0, .ref a59, .ref a60, .ref a61]))]) [0] (by decide) rfl
    have hFc := va_free (wc := [(h0, .inr (9, [.int 0, .int 4, .int 0, .int 0, .ref a4, .ref a5, .ref a6, .ref a7, .ref a8, .ref a9, .ref a10, .ref a11, .ref a12, .int 0, .int 0, .int (-1), .int 0, .int 0, .int 0, .ref a19, .int 0, .int 0, .int 0, .ref a23, .ref a24, .ref a25, .ref a26, .ref a27, .ref a28, .ref a29, .ref a30, .ref a31, .ref a32, .ref a33, .ref a34, .int 0, .int 0, .ref a37, .ref a38, .ref a39, .ref a40, .ref a41, .int 0, .ref a43, .ref a44, .ref a45, .ref a46, .ref a47, .int 0, .int 0, .int 0, .int 0, .ref a52, .ref a53, .int 0, .int 0, .ref a56, .ref a57, .int 0, .ref a59, .ref a60, .ref a61]))]) hD hS hA [0] rfl
    refine va_calli (va_runV (As := []) (rest := []) ⟨hx, hb, hml, hown, hts⟩ (c_X9_bad l dC dI cyI cyZ cyJ H.size h0 a4 a5 a6 a7 a8 a9 a10 a11 a12 a19 a23 a24 a25 a26 a27 a28 a29 a30 a31 a32 a33 a34 a37 a38 a39 a40 a41 a43 a44 a45 a46 a47 a52 a53 a56 a57 a59 a60 a61) (cwV 0 hts gX9_to_X9_bad rfl rfl rfl (by decide +kernel) ⟨Nat.le_of_ble_eq_true rfl, Nat.le_of_ble_eq_true rfl⟩) (x_pVD hN hK hPc hDc (ci := 9) (q0 := 0) rfl rfl) rfl rfl hl.1 rfl (lv_room (Nat.le_of_ble_eq_true rfl)) dX9_to_10 ⟨Nat.le_of_ble_eq_true rfl, Nat.le_of_ble_eq_true rfl⟩) hS (fun q _ h => hFc q h) hFc (fun r_10 u t H1 locs ht hvm hw hB hz1 hk1 hS => ?_)
    obtain ⟨hP1, hK1, hD1⟩ := hB
    rw [ht] at hP1
    obtain ⟨hP, hD⟩ := va_join (wr := []) (w1 := [(h0, .inr (9, [.int 1, .int 4, .int 0, .int 0, .ref a4, .ref a5, .ref a6, .ref a7, .ref a8, .ref a9, .ref a10, .ref a11, .ref a12, .int 0, .int 0, .int (-1), .int 0, .int 0, .int 0, .ref a19, .int 0, .int 0, .int 0, .ref a23, .ref a24, .ref a25, .ref a26, .ref a27, .ref a28, .ref a29, .ref a30, .ref a31, .ref a32, .ref a33, .ref a34, .int 0, .int 0, .ref a37, .ref a38, .ref a39, .ref a40, .ref a41, .int 0, .ref a43, .ref a44, .ref a45, .ref a46, .ref a47, .int 0, .int 0, .int 0, .int 0, .ref a52, .ref a53, .int 0, .int 0, .ref a56, .ref a57, .int 0, .ref a59, .ref a60, .ref a61]))]) hP hD [0] [] rfl rfl (by decide) (by decide) hk1 hFc hP1 hD1
    clear hz1 hk1 hPc hDc hFc hP1 hK1 hD1 ht hvm t u
    generalize H1 = H at hP hS ⊢
    have hP : va_P (dC, dI) vwCl [(h0, .inr (9, [.int 1, .int 4, .int 0, .int 0, .ref a4, .ref a5, .ref a6, .ref a7, .ref a8, .ref a9, .ref a10, .ref a11, .ref a12, .int 0, .int 0, .int (-1), .int 0, .int 0, .int 0, .ref a19, .int 0, .int 0, .int 0, .ref a23, .ref a24, .ref a25, .ref a26, .ref a27, .ref a28, .ref a29, .ref a30, .ref a31, .ref a32, .ref a33, .ref a34, .int 0, .int 0, .ref a37, .ref a38, .ref a39, .ref a40, .ref a41, .int 0, .ref a43, .ref a44, .ref a45, .ref a46, .ref a47, .int 0, .int 0, .int 0, .int 0, .ref a52, .ref a53, .int 0, .int 0, .ref a56, .ref a57, .int 0, .ref a59, .ref a60, .ref a61]))] H := hP
    have hD : va_D A [(h0, .inr (9, [.int 1, .int 4, .int 0, .int 0, .ref a4, .ref a5, .ref a6, .ref a7, .ref a8, .ref a9, .ref a10, .ref a11, .ref a12, .int 0, .int 0, .int (-1), .int 0, .int 0, .int 0, .ref a19, .int 0, .int 0, .int 0, .ref a23, .ref a24, .ref a25, .ref a26, .ref a27, .ref a28, .ref a29, .ref a30, .ref a31, .ref a32, .ref a33, .ref a34, .int 0, .int 0, .ref a37, .ref a38, .ref a39, .ref a40, .ref a41, .int 0, .ref a43, .ref a44, .ref a45, .ref a46, .ref a47, .int 0, .int 0, .int 0, .int 0, .ref a52, .ref a53, .int 0, .int 0, .ref a56, .ref a57, .int 0, .ref a59, .ref a60, .ref a61]))] := hD
    obtain rfl := hw
    have e9 : f_X9_to p0 = (1, 0) := by rw [f_X9_to, if_neg c_1]
    have hP9 := hP.sub (ws' := [(h0, .inr (9, [.int 1, .int 4, .int 0, .int 0, .ref a4, .ref a5, .ref a6, .ref a7, .ref a8, .ref a9, .ref a10, .ref a11, .ref a12, .int 0, .int 0, .int (-1), .int 0, .int 0, .int 0, .ref a19, .int 0, .int 0, .int 0, .ref a23, .ref a24, .ref a25, .ref a26, .ref a27, .ref a28, .ref a29, .ref a30, .ref a31, .ref a32, .ref a33, .ref a34, .int 0, .int 0, .ref a37, .ref a38, .ref a39, .ref a40, .ref a41, .int 0, .ref a43, .ref a44, .ref a45, .ref a46, .ref a47, .int 0, .int 0, .int 0, .int 0, .ref a52, .ref a53, .int 0, .int 0, .ref a56, .ref a57, .int 0, .ref a59, .ref a60, .ref a61]))]) [0] rfl
    have hD9 := hD.sub (ws' := [(h0, .inr (9, [.int 1, .int 4, .int 0, .int 0, .ref a4, .ref a5, .ref a6, .ref a7, .ref a8, .ref a9, .ref a10, .ref a11, .ref a12, .int 0, .int 0, .int (-1), .int 0, .int 0, .int 0, .ref a19, .int 0, .int 0, .int 0, .ref a23, .ref a24, .ref a25, .ref a26, .ref a27, .ref a28, .ref a29, .ref a30, .ref a31, .ref a32, .ref a33, .ref a34, .int 0, .int 0, .ref a37, .ref a38, .ref a39, .ref a40, .ref a41, .int 0, .ref a43, .ref a44, .ref a45, .ref a46, .ref a47, .int 0, .int 0, .int 0, .int 0, .ref a52, .ref a53, .int 0, .int 0, .ref a56, .ref a57, .int 0, .ref a59, .ref a60, .ref a61]))]) [0] (by decide) rfl
    exact W.iret hx hb hr (fun t ht hW => ⟨⟨_, (), rfl, by rw [e9], [.int 4, .int 0, .int 0, .ref a4, .ref a5, .ref a6, .ref a7, .ref a8, .ref a9, .ref a10, .ref a11, .ref a12, .int 0, .int 0, .int (-1), .int 0, .int 0, .int 0, .ref a19, .int 0, .int 0, .int 0, .ref a23, .ref a24, .ref a25, .ref a26, .ref a27, .ref a28, .ref a29, .ref a30, .ref a31, .ref a32, .ref a33, .ref a34, .int 0, .int 0, .ref a37, .ref a38, .ref a39, .ref a40, .ref a41, .int 0, .ref a43, .ref a44, .ref a45, .ref a46, .ref a47, .int 0, .int 0, .int 0, .int 0, .ref a52, .ref a53, .int 0, .int 0, .ref a56, .ref a57, .int 0, .ref a59, .ref a60, .ref a61], by rw [ht, e9]; exact hP9, va_K.moved hW.alike hK, by rw [e9]; exact hD9⟩, hS.F ht⟩) hS.2.2 dX9_to_13

def f_X9_row (p0 : Int32) (p1 : Int32) (p2 : Int32) (p3 : Int32) : Int32 × Int32 := if p0 < (0 : Int32) then (1, 0) else if p1 < (0 : Int32) then (1, 0) else if p2 < (0 : Int32) then (1, 0) else if p3 = (-1 : Int32) then (0, 1) else if (f_X9_isClass p3) = (0 : Int32) then (1, 0) else (0, 1)
theorem i_X9_row_X9 : ∀ w ∈ wsX90, w ∈ wsX9_row := by decide +kernel
set_option maxHeartbeats 4000000 in
set_option maxRecDepth 100000 in
theorem c_X9_row (l : Launch) (dC : Nat → ClassId) (dI : Nat → Nat → Nat) (cyI cyZ cyJ : ClassId) (sz : Nat) (h0 : Nat) (a4 : Nat) (a5 : Nat) (a6 : Nat) (a7 : Nat) (a8 : Nat) (a9 : Nat) (a10 : Nat) (a11 : Nat) (a12 : Nat) (a19 : Nat) (a23 : Nat) (a24 : Nat) (a25 : Nat) (a26 : Nat) (a27 : Nat) (a28 : Nat) (a29 : Nat) (a30 : Nat) (a31 : Nat) (a32 : Nat) (a33 : Nat) (a34 : Nat) (a37 : Nat) (a38 : Nat) (a39 : Nat) (a40 : Nat) (a41 : Nat) (a43 : Nat) (a44 : Nat) (a45 : Nat) (a46 : Nat) (a47 : Nat) (a52 : Nat) (a53 : Nat) (a56 : Nat) (a57 : Nat) (a59 : Nat) (a60 : Nat) (a61 : Nat) (g29 : Nat → Int32) (g30 : Nat → Int32) (g31 : Nat → Int32) (g32 : Nat → Int32) (p0 : Int32) (p1 : Int32) (p2 : Int32) (p3 : Int32) : Met l yX9_row wsX9_row ({ frames := 1, cells := 0, slots := 0, locals := 21 }) (va_Pc [.ref h0, .int p0, .int p1, .int p2, .int p3] (x_PreD (dC, dI) (x_T cyI cyZ cyJ) [(h0, .inr (9, [.int 0, .int 4, .int 0, .int 0, .ref a4, .ref a5, .ref a6, .ref a7, .ref a8, .ref a9, .ref a10, .ref a11, .ref a12, .int 0, .int 0, .int (-1), .int 0, .int 0, .int 0, .ref a19, .int 0, .int 0, .int 0, .ref a23, .ref a24, .ref a25, .ref a26, .ref a27, .ref a28, .ref a29, .ref a30, .ref a31, .ref a32, .ref a33, .ref a34, .int 0, .int 0, .ref a37, .ref a38, .ref a39, .ref a40, .ref a41, .int 0, .ref a43, .ref a44, .ref a45, .ref a46, .ref a47, .int 0, .int 0, .int 0, .int 0, .ref a52, .ref a53, .int 0, .int 0, .ref a56, .ref a57, .int 0, .ref a59, .ref a60, .ref a61])), (a29, .inl (cyI, 50, .inl g29)), (a30, .inl (cyI, 50, .inl g30)), (a31, .inl (cyI, 50, .inl g31)), (a32, .inl (cyI, 50, .inl g32))] sz)) (va_Qi (fun (r : Int32) (_ : Unit) => r = (f_X9_row p0 p1 p2 p3).2) (fun (_ : Unit) (t : State) => ∃ u : List Value, va_P (dC, dI) vwCl [(h0, .inr (9, .int (f_X9_row p0 p1 p2 p3).1 :: u))] t.heap ∧ va_K (dC, dI) vwCl (x_T cyI cyZ cyJ) t ∧ va_D (va_A [(h0, .inr (9, [.int 0, .int 4, .int 0, .int 0, .ref a4, .ref a5, .ref a6, .ref a7, .ref a8, .ref a9, .ref a10, .ref a11, .ref a12, .int 0, .int 0, .int (-1), .int 0, .int 0, .int 0, .ref a19, .int 0, .int 0, .int 0, .ref a23, .ref a24, .ref a25, .ref a26, .ref a27, .ref a28, .ref a29, .ref a30, .ref a31, .ref a32, .ref a33, .ref a34, .int 0, .int 0, .ref a37, .ref a38, .ref a39, .ref a40, .ref a41, .int 0, .ref a43, .ref a44, .ref a45, .ref a46, .ref a47, .int 0, .int 0, .int 0, .int 0, .ref a52, .ref a53, .int 0, .int 0, .ref a56, .ref a57, .int 0, .ref a59, .ref a60, .ref a61])), (a29, .inl (cyI, 50, .inl g29)), (a30, .inl (cyI, 50, .inl g30)), (a31, .inl (cyI, 50, .inl g31)), (a32, .inl (cyI, 50, .inl g32))] sz) [(h0, .inr (9, .int (f_X9_row p0 p1 p2 p3).1 :: u))]) (va_A [(h0, .inr (9, [.int 0, .int 4, .int 0, .int 0, .ref a4, .ref a5, .ref a6, .ref a7, .ref a8, .ref a9, .ref a10, .ref a11, .ref a12, .int 0, .int 0, .int (-1), .int 0, .int 0, .int 0, .ref a19, .int 0, .int 0, .int 0, .ref a23, .ref a24, .ref a25, .ref a26, .ref a27, .ref a28, .ref a29, .ref a30, .ref a31, .ref a32, .ref a33, .ref a34, .int 0, .int 0, .ref a37, .ref a38, .ref a39, .ref a40, .ref a41, .int 0, .ref a43, .ref a44, .ref a45, .ref a46, .ref a47, .int 0, .int 0, .int 0, .int 0, .ref a52, .ref a53, .int 0, .int 0, .ref a56, .ref a57, .int 0, .ref a59, .ref a60, .ref a61])), (a29, .inl (cyI, 50, .inl g29)), (a30, .inl (cyI, 50, .inl g30)), (a31, .inl (cyI, 50, .inl g31)), (a32, .inl (cyI, 50, .inl g32))] sz)) 0 0 (va_A [(h0, .inr (9, [.int 0, .int 4, .int 0, .int 0, .ref a4, .ref a5, .ref a6, .ref a7, .ref a8, .ref a9, .ref a10, .ref a11, .ref a12, .int 0, .int 0, .int (-1), .int 0, .int 0, .int 0, .ref a19, .int 0, .int 0, .int 0, .ref a23, .ref a24, .ref a25, .ref a26, .ref a27, .ref a28, .ref a29, .ref a30, .ref a31, .ref a32, .ref a33, .ref a34, .int 0, .int 0, .ref a37, .ref a38, .ref a39, .ref a40, .ref a41, .int 0, .ref a43, .ref a44, .ref a45, .ref a46, .ref a47, .int 0, .int 0, .int 0, .int 0, .ref a52, .ref a53, .int 0, .int 0, .ref a56, .ref a57, .int 0, .ref a59, .ref a60, .ref a61])), (a29, .inl (cyI, 50, .inl g29)), (a30, .inl (cyI, 50, .inl g30)), (a31, .inl (cyI, 50, .inl g31)), (a32, .inl (cyI, 50, .inl g32))] sz) := by
  refine Met.ofW (cc := cX9_row) (maxL := 5) (ret := (some .int)) (by decide) rfl ?_
  intro p e s m args below meth c s₁ B hml hv
  obtain ⟨rfl, ⟨hsz, hP, hK, hN⟩, hD0⟩ := hv
  have hx := B.exec
  have hb := B.bytes
  have hr := B.returns
  have hts := atoms_spec (ws := wsX9_row) B.pre
  have hown : s.vm.findClass RX9 = some m.cls := findClass_of_methodNamed B.named
  have hlocks := B.notSynchronized
  have k_1 := hts (.fieldLink RX9 1 "FlowJudgeModel" "thrown" "I") (by decide +kernel)
  have k_2 := hts (.fieldLink RX9 182 "FlowJudgeModel" "rows" "I") (by decide +kernel)
  have k_3 := hts (.fieldLink RX9 70 "FlowJudgeModel" "rFrom" "[I") (by decide +kernel)
  have k_4 := hts (.fieldLink RX9 73 "FlowJudgeModel" "rTo" "[I") (by decide +kernel)
  have k_5 := hts (.fieldLink RX9 76 "FlowJudgeModel" "rHandler" "[I") (by decide +kernel)
  have k_6 := hts (.fieldLink RX9 79 "FlowJudgeModel" "rType" "[I") (by decide +kernel)
  subst hsz
  have hD := hD0.self (sz := s.heap.size)
  generalize hAe : va_A [(h0, .inr (9, [.int 0, .int 4, .int 0, .int 0, .ref a4, .ref a5, .ref a6, .ref a7, .ref a8, .ref a9, .ref a10, .ref a11, .ref a12, .int 0, .int 0, .int (-1), .int 0, .int 0, .int 0, .ref a19, .int 0, .int 0, .int 0, .ref a23, .ref a24, .ref a25, .ref a26, .ref a27, .ref a28, .ref a29, .ref a30, .ref a31, .ref a32, .ref a33, .ref a34, .int 0, .int 0, .ref a37, .ref a38, .ref a39, .ref a40, .ref a41, .int 0, .ref a43, .ref a44, .ref a45, .ref a46, .ref a47, .int 0, .int 0, .int 0, .int 0, .ref a52, .ref a53, .int 0, .int 0, .ref a56, .ref a57, .int 0, .ref a59, .ref a60, .ref a61])), (a29, .inl (cyI, 50, .inl g29)), (a30, .inl (cyI, 50, .inl g30)), (a31, .inl (cyI, 50, .inl g31)), (a32, .inl (cyI, 50, .inl g32))] s.heap.size = A at hD ⊢
  have hA : ∀ q : Nat, s.heap.size ≤ q → A q := fun q h => by rw [← hAe]; exact Or.inr h
  have hS : va_S A s.heap s.heap [] := va_S.rf
  have hP : va_P (dC, dI) vwCl [(h0, .inr (9, [.int 0, .int 4, .int 0, .int 0, .ref a4, .ref a5, .ref a6, .ref a7, .ref a8, .ref a9, .ref a10, .ref a11, .ref a12, .int 0, .int 0, .int (-1), .int 0, .int 0, .int 0, .ref a19, .int 0, .int 0, .int 0, .ref a23, .ref a24, .ref a25, .ref a26, .ref a27, .ref a28, .ref a29, .ref a30, .ref a31, .ref a32, .ref a33, .ref a34, .int 0, .int 0, .ref a37, .ref a38, .ref a39, .ref a40, .ref a41, .int 0, .ref a43, .ref a44, .ref a45, .ref a46, .ref a47, .int 0, .int 0, .int 0, .int 0, .ref a52, .ref a53, .int 0, .int 0, .ref a56, .ref a57, .int 0, .ref a59, .ref a60, .ref a61])), (a29, .inl (cyI, 50, .inl g29)), (a30, .inl (cyI, 50, .inl g30)), (a31, .inl (cyI, 50, .inl g31)), (a32, .inl (cyI, 50, .inl g32))] s.heap := hP
  have hl := lv_entry ([.ref h0, .int p0, .int p1, .int p2, .int p3]) (n := 5) (Nat.le_of_ble_eq_true rfl)
  rw [lg_entry_eq]
  generalize (lg_sl ([.ref h0, .int p0, .int p1, .int p2, .int p3]) ++ List.replicate (5 - (lg_sl ([.ref h0, .int p0, .int p1, .int p2, .int p3])).length) Slot.unset).toArray = ls at hl ⊢
  have hl : lv_has ls 5 [(0, .ref h0), (1, .int p0), (2, .int p1), (3, .int p2), (4, .int p3)] := hl
  obtain ⟨H, hH⟩ : ∃ z, z = s.heap := ⟨_, rfl⟩
  refine x_here hH ?_
  have hP : va_P (dC, dI) vwCl [(h0, .inr (9, [.int 0, .int 4, .int 0, .int 0, .ref a4, .ref a5, .ref a6, .ref a7, .ref a8, .ref a9, .ref a10, .ref a11, .ref a12, .int 0, .int 0, .int (-1), .int 0, .int 0, .int 0, .ref a19, .int 0, .int 0, .int 0, .ref a23, .ref a24, .ref a25, .ref a26, .ref a27, .ref a28, .ref a29, .ref a30, .ref a31, .ref a32, .ref a33, .ref a34, .int 0, .int 0, .ref a37, .ref a38, .ref a39, .ref a40, .ref a41, .int 0, .ref a43, .ref a44, .ref a45, .ref a46, .ref a47, .int 0, .int 0, .int 0, .int 0, .ref a52, .ref a53, .int 0, .int 0, .ref a56, .ref a57, .int 0, .ref a59, .ref a60, .ref a61])), (a29, .inl (cyI, 50, .inl g29)), (a30, .inl (cyI, 50, .inl g30)), (a31, .inl (cyI, 50, .inl g31)), (a32, .inl (cyI, 50, .inl g32))] H := by rw [hH]; exact hP
  have hS : va_S A s.heap H [] := by rw [hH]; exact va_S.rf
  clear hH
  refine lv_aload_n hx hb dX9_row_0 rfl (lv_at hl 0 rfl) ?_
  refine lv_iconst (v := 0) hx hb dX9_row_1 (by decide) ?_
  refine va_put (D := (dC, dI)) (ci := 9) (v := .int 0) (ty := .int) (C := RX9) (T := TX9) (N := 62) hx hb hts i_X9_row_X9 tyX9 tyX9_ok nmX9 hown hK hP hD hS 0 rfl rfl 0 (by decide) k_1 (fun _ h9 => h9) rfl (by decide +kernel) rfl rfl (Nat.le_of_ble_eq_true rfl) dX9_row_2 (fun H locs hP hD hS => ?_)
  have hP : va_P (dC, dI) vwCl [(h0, .inr (9, [.int 0, .int 4, .int 0, .int 0, .ref a4, .ref a5, .ref a6, .ref a7, .ref a8, .ref a9, .ref a10, .ref a11, .ref a12, .int 0, .int 0, .int (-1), .int 0, .int 0, .int 0, .ref a19, .int 0, .int 0, .int 0, .ref a23, .ref a24, .ref a25, .ref a26, .ref a27, .ref a28, .ref a29, .ref a30, .ref a31, .ref a32, .ref a33, .ref a34, .int 0, .int 0, .ref a37, .ref a38, .ref a39, .ref a40, .ref a41, .int 0, .ref a43, .ref a44, .ref a45, .ref a46, .ref a47, .int 0, .int 0, .int 0, .int 0, .ref a52, .ref a53, .int 0, .int 0, .ref a56, .ref a57, .int 0, .ref a59, .ref a60, .ref a61])), (a29, .inl (cyI, 50, .inl g29)), (a30, .inl (cyI, 50, .inl g30)), (a31, .inl (cyI, 50, .inl g31)), (a32, .inl (cyI, 50, .inl g32))] H := hP
  have hD : va_D A [(h0, .inr (9, [.int 0, .int 4, .int 0, .int 0, .ref a4, .ref a5, .ref a6, .ref a7, .ref a8, .ref a9, .ref a10, .ref a11, .ref a12, .int 0, .int 0, .int (-1), .int 0, .int 0, .int 0, .ref a19, .int 0, .int 0, .int 0, .ref a23, .ref a24, .ref a25, .ref a26, .ref a27, .ref a28, .ref a29, .ref a30, .ref a31, .ref a32, .ref a33, .ref a34, .int 0, .int 0, .ref a37, .ref a38, .ref a39, .ref a40, .ref a41, .int 0, .ref a43, .ref a44, .ref a45, .ref a46, .ref a47, .int 0, .int 0, .int 0, .int 0, .ref a52, .ref a53, .int 0, .int 0, .ref a56, .ref a57, .int 0, .ref a59, .ref a60, .ref a61])), (a29, .inl (cyI, 50, .inl g29)), (a30, .inl (cyI, 50, .inl g30)), (a31, .inl (cyI, 50, .inl g31)), (a32, .inl (cyI, 50, .inl g32))] := hD
  refine lv_iload_n hx hb dX9_row_5 rfl (lv_at hl 1 rfl) ?_
  refine lv_if_lt (tgt := 32) hx hb dX9_row_6 (by decide) (fun c_1 => ?_) (fun c_1 => ?_)
  · skip
    refine lv_aload_n hx hb dX9_row_32 rfl (lv_at hl 0 rfl) ?_
    have hPc := hP.sub (ws' := [(h0, .inr (9, [.int 0, .int 4, .int 0, .int 0, .ref a4, .ref a5, .ref a6, .ref a7, .ref a8, .ref a9, .ref a10, .ref a11, .ref a12, .int 0, .int 0, .int (-1), .int 0, .int 0, .int 0, .ref a19, .int 0, .int 0, .int 0, .ref a23, .ref a24, .ref a25, .ref a26, .ref a27, .ref a28, .ref a29, .ref a30, .ref a31, .ref a32, .ref a33, .ref a34, .int 0, .int 0, .ref a37, .ref a38, .ref a39, .ref a40, .ref a41, .int 0, .ref a43, .ref a44, .ref a45, .ref a46, .ref a47, .int 0, .int 0, .int 0, .int 0, .ref a52, .ref a53, .int 0, .int 0, .ref a56, .ref a57, .int 0, .ref a59, .ref a60, .ref a61]))]) [0] rfl
    have hDc := hD.sub (ws' := [(h0, .inr (9, [.int 0, .int 4, .int 0, .int 0, .ref a4, .ref a5, .ref a6, .ref a7, .ref a8, .ref a9, .ref a10, .ref a11, .ref a12, .int 0, .int 0, .int (-1), .int 0, .int 0, .int 0, .ref a19, .int 0, .int 0, .int 0, .ref a23, .ref a24, .ref a25, .ref a26, .ref a27, .ref a28, .ref a29, .ref a30, .ref a31, .ref a32, .ref a33, .ref a34, .int 0, .int 0, .ref a37, .ref a38, .ref a39, .ref a40, .ref a41, .int 0, .ref a43, .ref a44, .ref a45, .ref a46, .ref a47, .int 0, .int 0, .int 0, .int 0, .ref a52, .ref a53, .int 0, .int 0, .ref a56, .ref a57, .int 0, .ref a59, .ref a60, .ref a61]))]) [0] (by decide) rfl
    have hFc := va_free (wc := [(h0, .inr (9, [.int 0, .int 4, .int 0, .int 0, .ref a4, .ref a5, .ref a6, .ref a7, .ref a8, .ref a9, .ref a10, .ref a11, .ref a12, .int 0, .int 0, .int (-1), .int 0, .int 0, .int 0, .ref a19, .int 0, .int 0, .int 0, .ref a23, .ref a24, .ref a25, .ref a26, .ref a27, .ref a28, .ref a29, .ref a30, .ref a31, .ref a32, .ref a33, .ref a34, .int 0, .int 0, .ref a37, .ref a38, .ref a39, .ref a40, .ref a41, .int 0, .ref a43, .ref a44, .ref a45, .ref a46, .ref a47, .int 0, .int 0, .int 0, .int 0, .ref a52, .ref a53, .int 0, .int 0, .ref a56, .ref a57, .int 0, .ref a59, .ref a60, .ref a61]))]) hD hS hA [0] rfl
    refine va_calli (va_runV (As := []) (rest := []) ⟨hx, hb, hml, hown, hts⟩ (c_X9_bad l dC dI cyI cyZ cyJ H.size h0 a4 a5 a6 a7 a8 a9 a10 a11 a12 a19 a23 a24 a25 a26 a27 a28 a29 a30 a31 a32 a33 a34 a37 a38 a39 a40 a41 a43 a44 a45 a46 a47 a52 a53 a56 a57 a59 a60 a61) (cwV 0 hts gX9_row_X9_bad rfl rfl rfl (by decide +kernel) ⟨Nat.le_of_ble_eq_true rfl, Nat.le_of_ble_eq_true rfl⟩) (x_pVD hN hK hPc hDc (ci := 9) (q0 := 0) rfl rfl) rfl rfl hl.1 rfl (lv_room (Nat.le_of_ble_eq_true rfl)) dX9_row_33 ⟨Nat.le_of_ble_eq_true rfl, Nat.le_of_ble_eq_true rfl⟩) hS (fun q _ h => hFc q h) hFc (fun r_33 u t H1 locs ht hvm hw hB hz1 hk1 hS => ?_)
    obtain ⟨hP1, hK1, hD1⟩ := hB
    rw [ht] at hP1
    obtain ⟨hP, hD⟩ := va_join (wr := [(a29, .inl (cyI, 50, .inl g29)), (a30, .inl (cyI, 50, .inl g30)), (a31, .inl (cyI, 50, .inl g31)), (a32, .inl (cyI, 50, .inl g32))]) (w1 := [(h0, .inr (9, [.int 1, .int 4, .int 0, .int 0, .ref a4, .ref a5, .ref a6, .ref a7, .ref a8, .ref a9, .ref a10, .ref a11, .ref a12, .int 0, .int 0, .int (-1), .int 0, .int 0, .int 0, .ref a19, .int 0, .int 0, .int 0, .ref a23, .ref a24, .ref a25, .ref a26, .ref a27, .ref a28, .ref a29, .ref a30, .ref a31, .ref a32, .ref a33, .ref a34, .int 0, .int 0, .ref a37, .ref a38, .ref a39, .ref a40, .ref a41, .int 0, .ref a43, .ref a44, .ref a45, .ref a46, .ref a47, .int 0, .int 0, .int 0, .int 0, .ref a52, .ref a53, .int 0, .int 0, .ref a56, .ref a57, .int 0, .ref a59, .ref a60, .ref a61]))]) hP hD [0] [1, 2, 3, 4] rfl rfl (by decide) (by decide) hk1 hFc hP1 hD1
    clear hz1 hk1 hPc hDc hFc hP1 hK1 hD1 ht hvm t u
    generalize H1 = H at hP hS ⊢
    have hP : va_P (dC, dI) vwCl [(a29, .inl (cyI, 50, .inl g29)), (a30, .inl (cyI, 50, .inl g30)), (a31, .inl (cyI, 50, .inl g31)), (a32, .inl (cyI, 50, .inl g32)), (h0, .inr (9, [.int 1, .int 4, .int 0, .int 0, .ref a4, .ref a5, .ref a6, .ref a7, .ref a8, .ref a9, .ref a10, .ref a11, .ref a12, .int 0, .int 0, .int (-1), .int 0, .int 0, .int 0, .ref a19, .int 0, .int 0, .int 0, .ref a23, .ref a24, .ref a25, .ref a26, .ref a27, .ref a28, .ref a29, .ref a30, .ref a31, .ref a32, .ref a33, .ref a34, .int 0, .int 0, .ref a37, .ref a38, .ref a39, .ref a40, .ref a41, .int 0, .ref a43, .ref a44, .ref a45, .ref a46, .ref a47, .int 0, .int 0, .int 0, .int 0, .ref a52, .ref a53, .int 0, .int 0, .ref a56, .ref a57, .int 0, .ref a59, .ref a60, .ref a61]))] H := hP
    have hD : va_D A [(a29, .inl (cyI, 50, .inl g29)), (a30, .inl (cyI, 50, .inl g30)), (a31, .inl (cyI, 50, .inl g31)), (a32, .inl (cyI, 50, .inl g32)), (h0, .inr (9, [.int 1, .int 4, .int 0, .int 0, .ref a4, .ref a5, .ref a6, .ref a7, .ref a8, .ref a9, .ref a10, .ref a11, .ref a12, .int 0, .int 0, .int (-1), .int 0, .int 0, .int 0, .ref a19, .int 0, .int 0, .int 0, .ref a23, .ref a24, .ref a25, .ref a26, .ref a27, .ref a28, .ref a29, .ref a30, .ref a31, .ref a32, .ref a33, .ref a34, .int 0, .int 0, .ref a37, .ref a38, .ref a39, .ref a40, .ref a41, .int 0, .ref a43, .ref a44, .ref a45, .ref a46, .ref a47, .int 0, .int 0, .int 0, .int 0, .ref a52, .ref a53, .int 0, .int 0, .ref a56, .ref a57, .int 0, .ref a59, .ref a60, .ref a61]))] := hD
    obtain rfl := hw
    have e9 : f_X9_row p0 p1 p2 p3 = (1, 0) := by rw [f_X9_row, if_pos c_1]
    have hP9 := hP.sub (ws' := [(h0, .inr (9, [.int 1, .int 4, .int 0, .int 0, .ref a4, .ref a5, .ref a6, .ref a7, .ref a8, .ref a9, .ref a10, .ref a11, .ref a12, .int 0, .int 0, .int (-1), .int 0, .int 0, .int 0, .ref a19, .int 0, .int 0, .int 0, .ref a23, .ref a24, .ref a25, .ref a26, .ref a27, .ref a28, .ref a29, .ref a30, .ref a31, .ref a32, .ref a33, .ref a34, .int 0, .int 0, .ref a37, .ref a38, .ref a39, .ref a40, .ref a41, .int 0, .ref a43, .ref a44, .ref a45, .ref a46, .ref a47, .int 0, .int 0, .int 0, .int 0, .ref a52, .ref a53, .int 0, .int 0, .ref a56, .ref a57, .int 0, .ref a59, .ref a60, .ref a61]))]) [4] rfl
    have hD9 := hD.sub (ws' := [(h0, .inr (9, [.int 1, .int 4, .int 0, .int 0, .ref a4, .ref a5, .ref a6, .ref a7, .ref a8, .ref a9, .ref a10, .ref a11, .ref a12, .int 0, .int 0, .int (-1), .int 0, .int 0, .int 0, .ref a19, .int 0, .int 0, .int 0, .ref a23, .ref a24, .ref a25, .ref a26, .ref a27, .ref a28, .ref a29, .ref a30, .ref a31, .ref a32, .ref a33, .ref a34, .int 0, .int 0, .ref a37, .ref a38, .ref a39, .ref a40, .ref a41, .int 0, .ref a43, .ref a44, .ref a45, .ref a46, .ref a47, .int 0, .int 0, .int 0, .int 0, .ref a52, .ref a53, .int 0, .int 0, .ref a56, .ref a57, .int 0, .ref a59, .ref a60, .ref a61]))]) [4] (by decide) rfl
    exact W.iret hx hb hr (fun t ht hW => ⟨⟨_, (), rfl, by rw [e9], [.int 4, .int 0, .int 0, .ref a4, .ref a5, .ref a6, .ref a7, .ref a8, .ref a9, .ref a10, .ref a11, .ref a12, .int 0, .int 0, .int (-1), .int 0, .int 0, .int 0, .ref a19, .int 0, .int 0, .int 0, .ref a23, .ref a24, .ref a25, .ref a26, .ref a27, .ref a28, .ref a29, .ref a30, .ref a31, .ref a32, .ref a33, .ref a34, .int 0, .int 0, .ref a37, .ref a38, .ref a39, .ref a40, .ref a41, .int 0, .ref a43, .ref a44, .ref a45, .ref a46, .ref a47, .int 0, .int 0, .int 0, .int 0, .ref a52, .ref a53, .int 0, .int 0, .ref a56, .ref a57, .int 0, .ref a59, .ref a60, .ref a61], by rw [ht, e9]; exact hP9, va_K.moved hW.alike hK, by rw [e9]; exact hD9⟩, hS.F ht⟩) hS.2.2 dX9_row_36
  · skip
    refine lv_iload_n hx hb dX9_row_9 rfl (lv_at hl 2 rfl) ?_
    refine lv_if_lt (tgt := 32) hx hb dX9_row_10 (by decide) (fun c_2 => ?_) (fun c_2 => ?_)
    · skip
      refine lv_aload_n hx hb dX9_row_32 rfl (lv_at hl 0 rfl) ?_
      have hPc := hP.sub (ws' := [(h0, .inr (9, [.int 0, .int 4, .int 0, .int 0, .ref a4, .ref a5, .ref a6, .ref a7, .ref a8, .ref a9, .ref a10, .ref a11, .ref a12, .int 0, .int 0, .int (-1), .int 0, .int 0, .int 0, .ref a19, .int 0, .int 0, .int 0, .ref a23, .ref a24, .ref a25, .ref a26, .ref a27, .ref a28, .ref a29, .ref a30, .ref a31, .ref a32, .ref a33, .ref a34, .int 0, .int 0, .ref a37, .ref a38, .ref a39, .ref a40, .ref a41, .int 0, .ref a43, .ref a44, .ref a45, .ref a46, .ref a47, .int 0, .int 0, .int 0, .int 0, .ref a52, .ref a53, .int 0, .int 0, .ref a56, .ref a57, .int 0, .ref a59, .ref a60, .ref a61]))]) [0] rfl
      have hDc := hD.sub (ws' := [(h0, .inr (9, [.int 0, .int 4, .int 0, .int 0, .ref a4, .ref a5, .ref a6, .ref a7, .ref a8, .ref a9, .ref a10, .ref a11, .ref a12, .int 0, .int 0, .int (-1), .int 0, .int 0, .int 0, .ref a19, .int 0, .int 0, .int 0, .ref a23, .ref a24, .ref a25, .ref a26, .ref a27, .ref a28, .ref a29, .ref a30, .ref a31, .ref a32, .ref a33, .ref a34, .int 0, .int 0, .ref a37, .ref a38, .ref a39, .ref a40, .ref a41, .int 0, .ref a43, .ref a44, .ref a45, .ref a46, .ref a47, .int 0, .int 0, .int 0, .int 0, .ref a52, .ref a53, .int 0, .int 0, .ref a56, .ref a57, .int 0, .ref a59, .ref a60, .ref a61]))]) [0] (by decide) rfl
      have hFc := va_free (wc := [(h0, .inr (9, [.int 0, .int 4, .int 0, .int 0, .ref a4, .ref a5, .ref a6, .ref a7, .ref a8, .ref a9, .ref a10, .ref a11, .ref a12, .int 0, .int 0, .int (-1), .int 0, .int 0, .int 0, .ref a19, .int 0, .int 0, .int 0, .ref a23, .ref a24, .ref a25, .ref a26, .ref a27, .ref a28, .ref a29, .ref a30, .ref a31, .ref a32, .ref a33, .ref a34, .int 0, .int 0, .ref a37, .ref a38, .ref a39, .ref a40, .ref a41, .int 0, .ref a43, .ref a44, .ref a45, .ref a46, .ref a47, .int 0, .int 0, .int 0, .int 0, .ref a52, .ref a53, .int 0, .int 0, .ref a56, .ref a57, .int 0, .ref a59, .ref a60, .ref a61]))]) hD hS hA [0] rfl
      refine va_calli (va_runV (As := []) (rest := []) ⟨hx, hb, hml, hown, hts⟩ (c_X9_bad l dC dI cyI cyZ cyJ H.size h0 a4 a5 a6 a7 a8 a9 a10 a11 a12 a19 a23 a24 a25 a26 a27 a28 a29 a30 a31 a32 a33 a34 a37 a38 a39 a40 a41 a43 a44 a45 a46 a47 a52 a53 a56 a57 a59 a60 a61) (cwV 0 hts gX9_row_X9_bad rfl rfl rfl (by decide +kernel) ⟨Nat.le_of_ble_eq_true rfl, Nat.le_of_ble_eq_true rfl⟩) (x_pVD hN hK hPc hDc (ci := 9) (q0 := 0) rfl rfl) rfl rfl hl.1 rfl (lv_room (Nat.le_of_ble_eq_true rfl)) dX9_row_33 ⟨Nat.le_of_ble_eq_true rfl, Nat.le_of_ble_eq_true rfl⟩) hS (fun q _ h => hFc q h) hFc (fun r_33 u t H1 locs ht hvm hw hB hz1 hk1 hS => ?_)
      obtain ⟨hP1, hK1, hD1⟩ := hB
      rw [ht] at hP1
      obtain ⟨hP, hD⟩ := va_join (wr := [(a29, .inl (cyI, 50, .inl g29)), (a30, .inl (cyI, 50, .inl g30)), (a31, .inl (cyI, 50, .inl g31)), (a32, .inl (cyI, 50, .inl g32))]) (w1 := [(h0, .inr (9, [.int 1, .int 4, .int 0, .int 0, .ref a4, .ref a5, .ref a6, .ref a7, .ref a8, .ref a9, .ref a10, .ref a11, .ref a12, .int 0, .int 0, .int (-1), .int 0, .int 0, .int 0, .ref a19, .int 0, .int 0, .int 0, .ref a23, .ref a24, .ref a25, .ref a26, .ref a27, .ref a28, .ref a29, .ref a30, .ref a31, .ref a32, .ref a33, .ref a34, .int 0, .int 0, .ref a37, .ref a38, .ref a39, .ref a40, .ref a41, .int 0, .ref a43, .ref a44, .ref a45, .ref a46, .ref a47, .int 0, .int 0, .int 0, .int 0, .ref a52, .ref a53, .int 0, .int 0, .ref a56, .ref a57, .int 0, .ref a59, .ref a60, .ref a61]))]) hP hD [0] [1, 2, 3, 4] rfl rfl (by decide) (by decide) hk1 hFc hP1 hD1
      clear hz1 hk1 hPc hDc hFc hP1 hK1 hD1 ht hvm t u
      generalize H1 = H at hP hS ⊢
      have hP : va_P (dC, dI) vwCl [(a29, .inl (cyI, 50, .inl g29)), (a30, .inl (cyI, 50, .inl g30)), (a31, .inl (cyI, 50, .inl g31)), (a32, .inl (cyI, 50, .inl g32)), (h0, .inr (9, [.int 1, .int 4, .int 0, .int 0, .ref a4, .ref a5, .ref a6, .ref a7, .ref a8, .ref a9, .ref a10, .ref a11, .ref a12, .int 0, .int 0, .int (-1), .int 0, .int 0, .int 0, .ref a19, .int 0, .int 0, .int 0, .ref a23, .ref a24, .ref a25, .ref a26, .ref a27, .ref a28, .ref a29, .ref a30, .ref a31, .ref a32, .ref a33, .ref a34, .int 0, .int 0, .ref a37, .ref a38, .ref a39, .ref a40, .ref a41, .int 0, .ref a43, .ref a44, .ref a45, .ref a46, .ref a47, .int 0, .int 0, .int 0, .int 0, .ref a52, .ref a53, .int 0, .int 0, .ref a56, .ref a57, .int 0, .ref a59, .ref a60, .ref a61]))] H := hP
      have hD : va_D A [(a29, .inl (cyI, 50, .inl g29)), (a30, .inl (cyI, 50, .inl g30)), (a31, .inl (cyI, 50, .inl g31)), (a32, .inl (cyI, 50, .inl g32)), (h0, .inr (9, [.int 1, .int 4, .int 0, .int 0, .ref a4, .ref a5, .ref a6, .ref a7, .ref a8, .ref a9, .ref a10, .ref a11, .ref a12, .int 0, .int 0, .int (-1), .int 0, .int 0, .int 0, .ref a19, .int 0, .int 0, .int 0, .ref a23, .ref a24, .ref a25, .ref a26, .ref a27, .ref a28, .ref a29, .ref a30, .ref a31, .ref a32, .ref a33, .ref a34, .int 0, .int 0, .ref a37, .ref a38, .ref a39, .ref a40, .ref a41, .int 0, .ref a43, .ref a44, .ref a45, .ref a46, .ref a47, .int 0, .int 0, .int 0, .int 0, .ref a52, .ref a53, .int 0, .int 0, .ref a56, .ref a57, .int 0, .ref a59, .ref a60, .ref a61]))] := hD
      obtain rfl := hw
      have e9 : f_X9_row p0 p1 p2 p3 = (1, 0) := by rw [f_X9_row, if_neg c_1, if_pos c_2]
      have hP9 := hP.sub (ws' := [(h0, .inr (9, [.int 1, .int 4, .int 0, .int 0, .ref a4, .ref a5, .ref a6, .ref a7, .ref a8, .ref a9, .ref a10, .ref a11, .ref a12, .int 0, .int 0, .int (-1), .int 0, .int 0, .int 0, .ref a19, .int 0, .int 0, .int 0, .ref a23, .ref a24, .ref a25, .ref a26, .ref a27, .ref a28, .ref a29, .ref a30, .ref a31, .ref a32, .ref a33, .ref a34, .int 0, .int 0, .ref a37, .ref a38, .ref a39, .ref a40, .ref a41, .int 0, .ref a43, .ref a44, .ref a45, .ref a46, .ref a47, .int 0, .int 0, .int 0, .int 0, .ref a52, .ref a53, .int 0, .int 0, .ref a56, .ref a57, .int 0, .ref a59, .ref a60, .ref a61]))]) [4] rfl
      have hD9 := hD.sub (ws' := [(h0, .inr (9, [.int 1, .int 4, .int 0, .int 0, .ref a4, .ref a5, .ref a6, .ref a7, .ref a8, .ref a9, .ref a10, .ref a11, .ref a12, .int 0, .int 0, .int (-1), .int 0, .int 0, .int 0, .ref a19, .int 0, .int 0, .int 0, .ref a23, .ref a24, .ref a25, .ref a26, .ref a27, .ref a28, .ref a29, .ref a30, .ref a31, .ref a32, .ref a33, .ref a34, .int 0, .int 0, .ref a37, .ref a38, .ref a39, .ref a40, .ref a41, .int 0, .ref a43, .ref a44, .ref a45, .ref a46, .ref a47, .int 0, .int 0, .int 0, .int 0, .ref a52, .ref a53, .int 0, .int 0, .ref a56, .ref a57, .int 0, .ref a59, .ref a60, .ref a61]))]) [4] (by decide) rfl
      exact W.iret hx hb hr (fun t ht hW => ⟨⟨_, (), rfl, by rw [e9], [.int 4, .int 0, .int 0, .ref a4, .ref a5, .ref a6, .ref a7, .ref a8, .ref a9, .ref a10, .ref a11, .ref a12, .int 0, .int 0, .int (-1), .int 0, .int 0, .int 0, .ref a19, .int 0, .int 0, .int 0, .ref a23, .ref a24, .ref a25, .ref a26, .ref a27, .ref a28, .ref a29, .ref a30, .ref a31, .ref a32, .ref a33, .ref a34, .int 0, .int 0, .ref a37, .ref a38, .ref a39, .ref a40, .ref a41, .int 0, .ref a43, .ref a44, .ref a45, .ref a46, .ref a47, .int 0, .int 0, .int 0, .int 0, .ref a52, .ref a53, .int 0, .int 0, .ref a56, .ref a57, .int 0, .ref a59, .ref a60, .ref a61], by rw [ht, e9]; exact hP9, va_K.moved hW.alike hK, by rw [e9]; exact hD9⟩, hS.F ht⟩) hS.2.2 dX9_row_36
    · skip
      refine lv_iload_n hx hb dX9_row_13 rfl (lv_at hl 3 rfl) ?_
      refine lv_if_lt (tgt := 32) hx hb dX9_row_14 (by decide) (fun c_3 => ?_) (fun c_3 => ?_)
      · skip
        refine lv_aload_n hx hb dX9_row_32 rfl (lv_at hl 0 rfl) ?_
        have hPc := hP.sub (ws' := [(h0, .inr (9, [.int 0, .int 4, .int 0, .int 0, .ref a4, .ref a5, .ref a6, .ref a7, .ref a8, .ref a9, .ref a10, .ref a11, .ref a12, .int 0, .int 0, .int (-1), .int 0, .int 0, .int 0, .ref a19, .int 0, .int 0, .int 0, .ref a23, .ref a24, .ref a25, .ref a26, .ref a27, .ref a28, .ref a29, .ref a30, .ref a31, .ref a32, .ref a33, .ref a34, .int 0, .int 0, .ref a37, .ref a38, .ref a39, .ref a40, .ref a41, .int 0, .ref a43, .ref a44, .ref a45, .ref a46, .ref a47, .int 0, .int 0, .int 0, .int 0, .ref a52, .ref a53, .int 0, .int 0, .ref a56, .ref a57, .int 0, .ref a59, .ref a60, .ref a61]))]) [0] rfl
        have hDc := hD.sub (ws' := [(h0, .inr (9, [.int 0, .int 4, .int 0, .int 0, .ref a4, .ref a5, .ref a6, .ref a7, .ref a8, .ref a9, .ref a10, .ref a11, .ref a12, .int 0, .int 0, .int (-1), .int 0, .int 0, .int 0, .ref a19, .int 0, .int 0, .int 0, .ref a23, .ref a24, .ref a25, .ref a26, .ref a27, .ref a28, .ref a29, .ref a30, .ref a31, .ref a32, .ref a33, .ref a34, .int 0, .int 0, .ref a37, .ref a38, .ref a39, .ref a40, .ref a41, .int 0, .ref a43, .ref a44, .ref a45, .ref a46, .ref a47, .int 0, .int 0, .int 0, .int 0, .ref a52, .ref a53, .int 0, .int 0, .ref a56, .ref a57, .int 0, .ref a59, .ref a60, .ref a61]))]) [0] (by decide) rfl
        have hFc := va_free (wc := [(h0, .inr (9, [.int 0, .int 4, .int 0, .int 0, .ref a4, .ref a5, .ref a6, .ref a7, .ref a8, .ref a9, .ref a10, .ref a11, .ref a12, .int 0, .int 0, .int (-1), .int 0, .int 0, .int 0, .ref a19, .int 0, .int 0, .int 0, .ref a23, .ref a24, .ref a25, .ref a26, .ref a27, .ref a28, .ref a29, .ref a30, .ref a31, .ref a32, .ref a33, .ref a34, .int 0, .int 0, .ref a37, .ref a38, .ref a39, .ref a40, .ref a41, .int 0, .ref a43, .ref a44, .ref a45, .ref a46, .ref a47, .int 0, .int 0, .int 0, .int 0, .ref a52, .ref a53, .int 0, .int 0, .ref a56, .ref a57, .int 0, .ref a59, .ref a60, .ref a61]))]) hD hS hA [0] rfl
        refine va_calli (va_runV (As := []) (rest := []) ⟨hx, hb, hml, hown, hts⟩ (c_X9_bad l dC dI cyI cyZ cyJ H.size h0 a4 a5 a6 a7 a8 a9 a10 a11 a12 a19 a23 a24 a25 a26 a27 a28 a29 a30 a31 a32 a33 a34 a37 a38 a39 a40 a41 a43 a44 a45 a46 a47 a52 a53 a56 a57 a59 a60 a61) (cwV 0 hts gX9_row_X9_bad rfl rfl rfl (by decide +kernel) ⟨Nat.le_of_ble_eq_true rfl, Nat.le_of_ble_eq_true rfl⟩) (x_pVD hN hK hPc hDc (ci := 9) (q0 := 0) rfl rfl) rfl rfl hl.1 rfl (lv_room (Nat.le_of_ble_eq_true rfl)) dX9_row_33 ⟨Nat.le_of_ble_eq_true rfl, Nat.le_of_ble_eq_true rfl⟩) hS (fun q _ h => hFc q h) hFc (fun r_33 u t H1 locs ht hvm hw hB hz1 hk1 hS => ?_)
        obtain ⟨hP1, hK1, hD1⟩ := hB
        rw [ht] at hP1
        obtain ⟨hP, hD⟩ := va_join (wr := [(a29, .inl (cyI, 50, .inl g29)), (a30, .inl (cyI, 50, .inl g30)), (a31, .inl (cyI, 50, .inl g31)), (a32, .inl (cyI, 50, .inl g32))]) (w1 := [(h0, .inr (9, [.int 1, .int 4, .int 0, .int 0, .ref a4, .ref a5, .ref a6, .ref a7, .ref a8, .ref a9, .ref a10, .ref a11, .ref a12, .int 0, .int 0, .int (-1), .int 0, .int 0, .int 0, .ref a19, .int 0, .int 0, .int 0, .ref a23, .ref a24, .ref a25, .ref a26, .ref a27, .ref a28, .ref a29, .ref a30, .ref a31, .ref a32, .ref a33, .ref a34, .int 0, .int 0, .ref a37, .ref a38, .ref a39, .ref a40, .ref a41, .int 0, .ref a43, .ref a44, .ref a45, .ref a46, .ref a47, .int 0, .int 0, .int 0, .int 0, .ref a52, .ref a53, .int 0, .int 0, .ref a56, .ref a57, .int 0, .ref a59, .ref a60, .ref a61]))]) hP hD [0] [1, 2, 3, 4] rfl rfl (by decide) (by decide) hk1 hFc hP1 hD1
        clear hz1 hk1 hPc hDc hFc hP1 hK1 hD1 ht hvm t u
        generalize H1 = H at hP hS ⊢
        have hP : va_P (dC, dI) vwCl [(a29, .inl (cyI, 50, .inl g29)), (a30, .inl (cyI, 50, .inl g30)), (a31, .inl (cyI, 50, .inl g31)), (a32, .inl (cyI, 50, .inl g32)), (h0, .inr (9, [.int 1, .int 4, .int 0, .int 0, .ref a4, .ref a5, .ref a6, .ref a7, .ref a8, .ref a9, .ref a10, .ref a11, .ref a12, .int 0, .int 0, .int (-1), .int 0, .int 0, .int 0, .ref a19, .int 0, .int 0, .int 0, .ref a23, .ref a24, .ref a25, .ref a26, .ref a27, .ref a28, .ref a29, .ref a30, .ref a31, .ref a32, .ref a33, .ref a34, .int 0, .int 0, .ref a37, .ref a38, .ref a39, .ref a40, .ref a41, .int 0, .ref a43, .ref a44, .ref a45, .ref a46, .ref a47, .int 0, .int 0, .int 0, .int 0, .ref a52, .ref a53, .int 0, .int 0, .ref a56, .ref a57, .int 0, .ref a59, .ref a60, .ref a61]))] H := hP
        have hD : va_D A [(a29, .inl (cyI, 50, .inl g29)), (a30, .inl (cyI, 50, .inl g30)), (a31, .inl (cyI, 50, .inl g31)), (a32, .inl (cyI, 50, .inl g32)), (h0, .inr (9, [.int 1, .int 4, .int 0, .int 0, .ref a4, .ref a5, .ref a6, .ref a7, .ref a8, .ref a9, .ref a10, .ref a11, .ref a12, .int 0, .int 0, .int (-1), .int 0, .int 0, .int 0, .ref a19, .int 0, .int 0, .int 0, .ref a23, .ref a24, .ref a25, .ref a26, .ref a27, .ref a28, .ref a29, .ref a30, .ref a31, .ref a32, .ref a33, .ref a34, .int 0, .int 0, .ref a37, .ref a38, .ref a39, .ref a40, .ref a41, .int 0, .ref a43, .ref a44, .ref a45, .ref a46, .ref a47, .int 0, .int 0, .int 0, .int 0, .ref a52, .ref a53, .int 0, .int 0, .ref a56, .ref a57, .int 0, .ref a59, .ref a60, .ref a61]))] := hD
        obtain rfl := hw
        have e9 : f_X9_row p0 p1 p2 p3 = (1, 0) := by rw [f_X9_row, if_neg c_1, if_neg c_2, if_pos c_3]
        have hP9 := hP.sub (ws' := [(h0, .inr (9, [.int 1, .int 4, .int 0, .int 0, .ref a4, .ref a5, .ref a6, .ref a7, .ref a8, .ref a9, .ref a10, .ref a11, .ref a12, .int 0, .int 0, .int (-1), .int 0, .int 0, .int 0, .ref a19, .int 0, .int 0, .int 0, .ref a23, .ref a24, .ref a25, .ref a26, .ref a27, .ref a28, .ref a29, .ref a30, .ref a31, .ref a32, .ref a33, .ref a34, .int 0, .int 0, .ref a37, .ref a38, .ref a39, .ref a40, .ref a41, .int 0, .ref a43, .ref a44, .ref a45, .ref a46, .ref a47, .int 0, .int 0, .int 0, .int 0, .ref a52, .ref a53, .int 0, .int 0, .ref a56, .ref a57, .int 0, .ref a59, .ref a60, .ref a61]))]) [4] rfl
        have hD9 := hD.sub (ws' := [(h0, .inr (9, [.int 1, .int 4, .int 0, .int 0, .ref a4, .ref a5, .ref a6, .ref a7, .ref a8, .ref a9, .ref a10, .ref a11, .ref a12, .int 0, .int 0, .int (-1), .int 0, .int 0, .int 0, .ref a19, .int 0, .int 0, .int 0, .ref a23, .ref a24, .ref a25, .ref a26, .ref a27, .ref a28, .ref a29, .ref a30, .ref a31, .ref a32, .ref a33, .ref a34, .int 0, .int 0, .ref a37, .ref a38, .ref a39, .ref a40, .ref a41, .int 0, .ref a43, .ref a44, .ref a45, .ref a46, .ref a47, .int 0, .int 0, .int 0, .int 0, .ref a52, .ref a53, .int 0, .int 0, .ref a56, .ref a57, .int 0, .ref a59, .ref a60, .ref a61]))]) [4] (by decide) rfl
        exact W.iret hx hb hr (fun t ht hW => ⟨⟨_, (), rfl, by rw [e9], [.int 4, .int 0, .int 0, .ref a4, .ref a5, .ref a6, .ref a7, .ref a8, .ref a9, .ref a10, .ref a11, .ref a12, .int 0, .int 0, .int (-1), .int 0, .int 0, .int 0, .ref a19, .int 0, .int 0, .int 0, .ref a23, .ref a24, .ref a25, .ref a26, .ref a27, .ref a28, .ref a29, .ref a30, .ref a31, .ref a32, .ref a33, .ref a34, .int 0, .int 0, .ref a37, .ref a38, .ref a39, .ref a40, .ref a41, .int 0, .ref a43, .ref a44, .ref a45, .ref a46, .ref a47, .int 0, .int 0, .int 0, .int 0, .ref a52, .ref a53, .int 0, .int 0, .ref a56, .ref a57, .int 0, .ref a59, .ref a60, .ref a61], by rw [ht, e9]; exact hP9, va_K.moved hW.alike hK, by rw [e9]; exact hD9⟩, hS.F ht⟩) hS.2.2 dX9_row_36
      · skip
        refine lv_iload hx hb dX9_row_17 (lv_at hl 4 rfl) ?_
        refine lv_iconst (v := (-1)) hx hb dX9_row_19 (by decide) ?_
        refine lv_icmp_eq (tgt := 37) hx hb dX9_row_20 (by decide) (fun c_4 => ?_) (fun c_4 => ?_)
        · skip
          refine lv_aload_n hx hb dX9_row_37 rfl (lv_at hl 0 rfl) ?_
          refine va_get (D := (dC, dI)) (ci := 9) (v := .int 0) (C := RX9) (T := TX9) (N := 62) hx hb hts i_X9_row_X9 hown hK hP 0 rfl rfl 21 (by decide) k_2 (fun _ h9 => h9) rfl dX9_row_38 ?_
          refine lv_bipush (v := 50) hx hb dX9_row_41 (by decide) ?_
          refine lv_icmp_ne (tgt := 51) hx hb dX9_row_43 (by decide) (fun _ => ?_) (fun c_5 => absurd c_5 (by decide))
          refine lv_aload_n hx hb dX9_row_51 rfl (lv_at hl 0 rfl) ?_
          refine va_get (D := (dC, dI)) (ci := 9) (v := .ref a29) (C := RX9) (T := TX9) (N := 62) hx hb hts i_X9_row_X9 hown hK hP 0 rfl rfl 29 (by decide) k_3 (fun _ h9 => h9) rfl dX9_row_52 ?_
          refine lv_aload_n hx hb dX9_row_55 rfl (lv_at hl 0 rfl) ?_
          refine va_get (D := (dC, dI)) (ci := 9) (v := .int 0) (C := RX9) (T := TX9) (N := 62) hx hb hts i_X9_row_X9 hown hK hP 0 rfl rfl 21 (by decide) k_2 (fun _ h9 => h9) rfl dX9_row_56 ?_
          refine lv_iload_n hx hb dX9_row_59 rfl (lv_at hl 1 rfl) ?_
          refine va_iast hx hb hK hP hD hS 1 0 rfl rfl (x_lit _ _ (by decide)) dX9_row_60 (fun H locs hP hD hS => ?_)
          have hP : va_P (dC, dI) vwCl [(h0, .inr (9, [.int 0, .int 4, .int 0, .int 0, .ref a4, .ref a5, .ref a6, .ref a7, .ref a8, .ref a9, .ref a10, .ref a11, .ref a12, .int 0, .int 0, .int (-1), .int 0, .int 0, .int 0, .ref a19, .int 0, .int 0, .int 0, .ref a23, .ref a24, .ref a25, .ref a26, .ref a27, .ref a28, .ref a29, .ref a30, .ref a31, .ref a32, .ref a33, .ref a34, .int 0, .int 0, .ref a37, .ref a38, .ref a39, .ref a40, .ref a41, .int 0, .ref a43, .ref a44, .ref a45, .ref a46, .ref a47, .int 0, .int 0, .int 0, .int 0, .ref a52, .ref a53, .int 0, .int 0, .ref a56, .ref a57, .int 0, .ref a59, .ref a60, .ref a61])), (a29, .inl (cyI, 50, .inl (upd g29 (Int32.toNatClampNeg 0) p0))), (a30, .inl (cyI, 50, .inl g30)), (a31, .inl (cyI, 50, .inl g31)), (a32, .inl (cyI, 50, .inl g32))] H := hP
          have hD : va_D A [(h0, .inr (9, [.int 0, .int 4, .int 0, .int 0, .ref a4, .ref a5, .ref a6, .ref a7, .ref a8, .ref a9, .ref a10, .ref a11, .ref a12, .int 0, .int 0, .int (-1), .int 0, .int 0, .int 0, .ref a19, .int 0, .int 0, .int 0, .ref a23, .ref a24, .ref a25, .ref a26, .ref a27, .ref a28, .ref a29, .ref a30, .ref a31, .ref a32, .ref a33, .ref a34, .int 0, .int 0, .ref a37, .ref a38, .ref a39, .ref a40, .ref a41, .int 0, .ref a43, .ref a44, .ref a45, .ref a46, .ref a47, .int 0, .int 0, .int 0, .int 0, .ref a52, .ref a53, .int 0, .int 0, .ref a56, .ref a57, .int 0, .ref a59, .ref a60, .ref a61])), (a29, .inl (cyI, 50, .inl (upd g29 (Int32.toNatClampNeg 0) p0))), (a30, .inl (cyI, 50, .inl g30)), (a31, .inl (cyI, 50, .inl g31)), (a32, .inl (cyI, 50, .inl g32))] := hD
          refine lv_aload_n hx hb dX9_row_61 rfl (lv_at hl 0 rfl) ?_
          refine va_get (D := (dC, dI)) (ci := 9) (v := .ref a30) (C := RX9) (T := TX9) (N := 62) hx hb hts i_X9_row_X9 hown hK hP 0 rfl rfl 30 (by decide) k_4 (fun _ h9 => h9) rfl dX9_row_62 ?_
          refine lv_aload_n hx hb dX9_row_65 rfl (lv_at hl 0 rfl) ?_
          refine va_get (D := (dC, dI)) (ci := 9) (v := .int 0) (C := RX9) (T := TX9) (N := 62) hx hb hts i_X9_row_X9 hown hK hP 0 rfl rfl 21 (by decide) k_2 (fun _ h9 => h9) rfl dX9_row_66 ?_
          refine lv_iload_n hx hb dX9_row_69 rfl (lv_at hl 2 rfl) ?_
          refine va_iast hx hb hK hP hD hS 2 0 rfl rfl (x_lit _ _ (by decide)) dX9_row_70 (fun H locs hP hD hS => ?_)
          have hP : va_P (dC, dI) vwCl [(h0, .inr (9, [.int 0, .int 4, .int 0, .int 0, .ref a4, .ref a5, .ref a6, .ref a7, .ref a8, .ref a9, .ref a10, .ref a11, .ref a12, .int 0, .int 0, .int (-1), .int 0, .int 0, .int 0, .ref a19, .int 0, .int 0, .int 0, .ref a23, .ref a24, .ref a25, .ref a26, .ref a27, .ref a28, .ref a29, .ref a30, .ref a31, .ref a32, .ref a33, .ref a34, .int 0, .int 0, .ref a37, .ref a38, .ref a39, .ref a40, .ref a41, .int 0, .ref a43, .ref a44, .ref a45, .ref a46, .ref a47, .int 0, .int 0, .int 0, .int 0, .ref a52, .ref a53, .int 0, .int 0, .ref a56, .ref a57, .int 0, .ref a59, .ref a60, .ref a61])), (a29, .inl (cyI, 50, .inl (upd g29 (Int32.toNatClampNeg 0) p0))), (a30, .inl (cyI, 50, .inl (upd g30 (Int32.toNatClampNeg 0) p1))), (a31, .inl (cyI, 50, .inl g31)), (a32, .inl (cyI, 50, .inl g32))] H := hP
          have hD : va_D A [(h0, .inr (9, [.int 0, .int 4, .int 0, .int 0, .ref a4, .ref a5, .ref a6, .ref a7, .ref a8, .ref a9, .ref a10, .ref a11, .ref a12, .int 0, .int 0, .int (-1), .int 0, .int 0, .int 0, .ref a19, .int 0, .int 0, .int 0, .ref a23, .ref a24, .ref a25, .ref a26, .ref a27, .ref a28, .ref a29, .ref a30, .ref a31, .ref a32, .ref a33, .ref a34, .int 0, .int 0, .ref a37, .ref a38, .ref a39, .ref a40, .ref a41, .int 0, .ref a43, .ref a44, .ref a45, .ref a46, .ref a47, .int 0, .int 0, .int 0, .int 0, .ref a52, .ref a53, .int 0, .int 0, .ref a56, .ref a57, .int 0, .ref a59, .ref a60, .ref a61])), (a29, .inl (cyI, 50, .inl (upd g29 (Int32.toNatClampNeg 0) p0))), (a30, .inl (cyI, 50, .inl (upd g30 (Int32.toNatClampNeg 0) p1))), (a31, .inl (cyI, 50, .inl g31)), (a32, .inl (cyI, 50, .inl g32))] := hD
          refine lv_aload_n hx hb dX9_row_71 rfl (lv_at hl 0 rfl) ?_
          refine va_get (D := (dC, dI)) (ci := 9) (v := .ref a31) (C := RX9) (T := TX9) (N := 62) hx hb hts i_X9_row_X9 hown hK hP 0 rfl rfl 31 (by decide) k_5 (fun _ h9 => h9) rfl dX9_row_72 ?_
          refine lv_aload_n hx hb dX9_row_75 rfl (lv_at hl 0 rfl) ?_
          refine va_get (D := (dC, dI)) (ci := 9) (v := .int 0) (C := RX9) (T := TX9) (N := 62) hx hb hts i_X9_row_X9 hown hK hP 0 rfl rfl 21 (by decide) k_2 (fun _ h9 => h9) rfl dX9_row_76 ?_
          refine lv_iload_n hx hb dX9_row_79 rfl (lv_at hl 3 rfl) ?_
          refine va_iast hx hb hK hP hD hS 3 0 rfl rfl (x_lit _ _ (by decide)) dX9_row_80 (fun H locs hP hD hS => ?_)
          have hP : va_P (dC, dI) vwCl [(h0, .inr (9, [.int 0, .int 4, .int 0, .int 0, .ref a4, .ref a5, .ref a6, .ref a7, .ref a8, .ref a9, .ref a10, .ref a11, .ref a12, .int 0, .int 0, .int (-1), .int 0, .int 0, .int 0, .ref a19, .int 0, .int 0, .int 0, .ref a23, .ref a24, .ref a25, .ref a26, .ref a27, .ref a28, .ref a29, .ref a30, .ref a31, .ref a32, .ref a33, .ref a34, .int 0, .int 0, .ref a37, .ref a38, .ref a39, .ref a40, .ref a41, .int 0, .ref a43, .ref a44, .ref a45, .ref a46, .ref a47, .int 0, .int 0, .int 0, .int 0, .ref a52, .ref a53, .int 0, .int 0, .ref a56, .ref a57, .int 0, .ref a59, .ref a60, .ref a61])), (a29, .inl (cyI, 50, .inl (upd g29 (Int32.toNatClampNeg 0) p0))), (a30, .inl (cyI, 50, .inl (upd g30 (Int32.toNatClampNeg 0) p1))), (a31, .inl (cyI, 50, .inl (upd g31 (Int32.toNatClampNeg 0) p2))), (a32, .inl (cyI, 50, .inl g32))] H := hP
          have hD : va_D A [(h0, .inr (9, [.int 0, .int 4, .int 0, .int 0, .ref a4, .ref a5, .ref a6, .ref a7, .ref a8, .ref a9, .ref a10, .ref a11, .ref a12, .int 0, .int 0, .int (-1), .int 0, .int 0, .int 0, .ref a19, .int 0, .int 0, .int 0, .ref a23, .ref a24, .ref a25, .ref a26, .ref a27, .ref a28, .ref a29, .ref a30, .ref a31, .ref a32, .ref a33, .ref a34, .int 0, .int 0, .ref a37, .ref a38, .ref a39, .ref a40, .ref a41, .int 0, .ref a43, .ref a44, .ref a45, .ref a46, .ref a47, .int 0, .int 0, .int 0, .int 0, .ref a52, .ref a53, .int 0, .int 0, .ref a56, .ref a57, .int 0, .ref a59, .ref a60, .ref a61])), (a29, .inl (cyI, 50, .inl (upd g29 (Int32.toNatClampNeg 0) p0))), (a30, .inl (cyI, 50, .inl (upd g30 (Int32.toNatClampNeg 0) p1))), (a31, .inl (cyI, 50, .inl (upd g31 (Int32.toNatClampNeg 0) p2))), (a32, .inl (cyI, 50, .inl g32))] := hD
          refine lv_aload_n hx hb dX9_row_81 rfl (lv_at hl 0 rfl) ?_
          refine va_get (D := (dC, dI)) (ci := 9) (v := .ref a32) (C := RX9) (T := TX9) (N := 62) hx hb hts i_X9_row_X9 hown hK hP 0 rfl rfl 32 (by decide) k_6 (fun _ h9 => h9) rfl dX9_row_82 ?_
          refine lv_aload_n hx hb dX9_row_85 rfl (lv_at hl 0 rfl) ?_
          refine va_get (D := (dC, dI)) (ci := 9) (v := .int 0) (C := RX9) (T := TX9) (N := 62) hx hb hts i_X9_row_X9 hown hK hP 0 rfl rfl 21 (by decide) k_2 (fun _ h9 => h9) rfl dX9_row_86 ?_
          refine lv_iload hx hb dX9_row_89 (lv_at hl 4 rfl) ?_
          refine va_iast hx hb hK hP hD hS 4 0 rfl rfl (x_lit _ _ (by decide)) dX9_row_91 (fun H locs hP hD hS => ?_)
          have hP : va_P (dC, dI) vwCl [(h0, .inr (9, [.int 0, .int 4, .int 0, .int 0, .ref a4, .ref a5, .ref a6, .ref a7, .ref a8, .ref a9, .ref a10, .ref a11, .ref a12, .int 0, .int 0, .int (-1), .int 0, .int 0, .int 0, .ref a19, .int 0, .int 0, .int 0, .ref a23, .ref a24, .ref a25, .ref a26, .ref a27, .ref a28, .ref a29, .ref a30, .ref a31, .ref a32, .ref a33, .ref a34, .int 0, .int 0, .ref a37, .ref a38, .ref a39, .ref a40, .ref a41, .int 0, .ref a43, .ref a44, .ref a45, .ref a46, .ref a47, .int 0, .int 0, .int 0, .int 0, .ref a52, .ref a53, .int 0, .int 0, .ref a56, .ref a57, .int 0, .ref a59, .ref a60, .ref a61])), (a29, .inl (cyI, 50, .inl (upd g29 (Int32.toNatClampNeg 0) p0))), (a30, .inl (cyI, 50, .inl (upd g30 (Int32.toNatClampNeg 0) p1))), (a31, .inl (cyI, 50, .inl (upd g31 (Int32.toNatClampNeg 0) p2))), (a32, .inl (cyI, 50, .inl (upd g32 (Int32.toNatClampNeg 0) p3)))] H := hP
          have hD : va_D A [(h0, .inr (9, [.int 0, .int 4, .int 0, .int 0, .ref a4, .ref a5, .ref a6, .ref a7, .ref a8, .ref a9, .ref a10, .ref a11, .ref a12, .int 0, .int 0, .int (-1), .int 0, .int 0, .int 0, .ref a19, .int 0, .int 0, .int 0, .ref a23, .ref a24, .ref a25, .ref a26, .ref a27, .ref a28, .ref a29, .ref a30, .ref a31, .ref a32, .ref a33, .ref a34, .int 0, .int 0, .ref a37, .ref a38, .ref a39, .ref a40, .ref a41, .int 0, .ref a43, .ref a44, .ref a45, .ref a46, .ref a47, .int 0, .int 0, .int 0, .int 0, .ref a52, .ref a53, .int 0, .int 0, .ref a56, .ref a57, .int 0, .ref a59, .ref a60, .ref a61])), (a29, .inl (cyI, 50, .inl (upd g29 (Int32.toNatClampNeg 0) p0))), (a30, .inl (cyI, 50, .inl (upd g30 (Int32.toNatClampNeg 0) p1))), (a31, .inl (cyI, 50, .inl (upd g31 (Int32.toNatClampNeg 0) p2))), (a32, .inl (cyI, 50, .inl (upd g32 (Int32.toNatClampNeg 0) p3)))] := hD
          refine lv_aload_n hx hb dX9_row_92 rfl (lv_at hl 0 rfl) ?_
          refine lv_dup hx hb dX9_row_93 rfl ?_
          refine va_get (D := (dC, dI)) (ci := 9) (v := .int 0) (C := RX9) (T := TX9) (N := 62) hx hb hts i_X9_row_X9 hown hK hP 0 rfl rfl 21 (by decide) k_2 (fun _ h9 => h9) rfl dX9_row_94 ?_
          refine lv_iconst (v := 1) hx hb dX9_row_97 (by decide) ?_
          refine lv_iadd hx hb dX9_row_98 ?_
          refine lv_topi (fun z_6 ez_6 => ?_)
          obtain rfl : z_6 = 1 := ez_6.trans (by decide)
          refine lv_dup_x1 hx hb dX9_row_99 rfl rfl ?_
          refine va_put (D := (dC, dI)) (ci := 9) (v := .int 1) (ty := .int) (C := RX9) (T := TX9) (N := 62) hx hb hts i_X9_row_X9 tyX9 tyX9_ok nmX9 hown hK hP hD hS 0 rfl rfl 21 (by decide) k_2 (fun _ h9 => h9) rfl (by decide +kernel) rfl rfl (Nat.le_of_ble_eq_true rfl) dX9_row_100 (fun H locs hP hD hS => ?_)
          have hP : va_P (dC, dI) vwCl [(h0, .inr (9, [.int 0, .int 4, .int 0, .int 0, .ref a4, .ref a5, .ref a6, .ref a7, .ref a8, .ref a9, .ref a10, .ref a11, .ref a12, .int 0, .int 0, .int (-1), .int 0, .int 0, .int 0, .ref a19, .int 0, .int 1, .int 0, .ref a23, .ref a24, .ref a25, .ref a26, .ref a27, .ref a28, .ref a29, .ref a30, .ref a31, .ref a32, .ref a33, .ref a34, .int 0, .int 0, .ref a37, .ref a38, .ref a39, .ref a40, .ref a41, .int 0, .ref a43, .ref a44, .ref a45, .ref a46, .ref a47, .int 0, .int 0, .int 0, .int 0, .ref a52, .ref a53, .int 0, .int 0, .ref a56, .ref a57, .int 0, .ref a59, .ref a60, .ref a61])), (a29, .inl (cyI, 50, .inl (upd g29 (Int32.toNatClampNeg 0) p0))), (a30, .inl (cyI, 50, .inl (upd g30 (Int32.toNatClampNeg 0) p1))), (a31, .inl (cyI, 50, .inl (upd g31 (Int32.toNatClampNeg 0) p2))), (a32, .inl (cyI, 50, .inl (upd g32 (Int32.toNatClampNeg 0) p3)))] H := hP
          have hD : va_D A [(h0, .inr (9, [.int 0, .int 4, .int 0, .int 0, .ref a4, .ref a5, .ref a6, .ref a7, .ref a8, .ref a9, .ref a10, .ref a11, .ref a12, .int 0, .int 0, .int (-1), .int 0, .int 0, .int 0, .ref a19, .int 0, .int 1, .int 0, .ref a23, .ref a24, .ref a25, .ref a26, .ref a27, .ref a28, .ref a29, .ref a30, .ref a31, .ref a32, .ref a33, .ref a34, .int 0, .int 0, .ref a37, .ref a38, .ref a39, .ref a40, .ref a41, .int 0, .ref a43, .ref a44, .ref a45, .ref a46, .ref a47, .int 0, .int 0, .int 0, .int 0, .ref a52, .ref a53, .int 0, .int 0, .ref a56, .ref a57, .int 0, .ref a59, .ref a60, .ref a61])), (a29, .inl (cyI, 50, .inl (upd g29 (Int32.toNatClampNeg 0) p0))), (a30, .inl (cyI, 50, .inl (upd g30 (Int32.toNatClampNeg 0) p1))), (a31, .inl (cyI, 50, .inl (upd g31 (Int32.toNatClampNeg 0) p2))), (a32, .inl (cyI, 50, .inl (upd g32 (Int32.toNatClampNeg 0) p3)))] := hD
          have e9 : f_X9_row p0 p1 p2 p3 = (0, 1) := by rw [f_X9_row, if_neg c_1, if_neg c_2, if_neg c_3, if_pos c_4]
          have hP9 := hP.sub (ws' := [(h0, .inr (9, [.int 0, .int 4, .int 0, .int 0, .ref a4, .ref a5, .ref a6, .ref a7, .ref a8, .ref a9, .ref a10, .ref a11, .ref a12, .int 0, .int 0, .int (-1), .int 0, .int 0, .int 0, .ref a19, .int 0, .int 1, .int 0, .ref a23, .ref a24, .ref a25, .ref a26, .ref a27, .ref a28, .ref a29, .ref a30, .ref a31, .ref a32, .ref a33, .ref a34, .int 0, .int 0, .ref a37, .ref a38, .ref a39, .ref a40, .ref a41, .int 0, .ref a43, .ref a44, .ref a45, .ref a46, .ref a47, .int 0, .int 0, .int 0, .int 0, .ref a52, .ref a53, .int 0, .int 0, .ref a56, .ref a57, .int 0, .ref a59, .ref a60, .ref a61]))]) [0] rfl
          have hD9 := hD.sub (ws' := [(h0, .inr (9, [.int 0, .int 4, .int 0, .int 0, .ref a4, .ref a5, .ref a6, .ref a7, .ref a8, .ref a9, .ref a10, .ref a11, .ref a12, .int 0, .int 0, .int (-1), .int 0, .int 0, .int 0, .ref a19, .int 0, .int 1, .int 0, .ref a23, .ref a24, .ref a25, .ref a26, .ref a27, .ref a28, .ref a29, .ref a30, .ref a31, .ref a32, .ref a33, .ref a34, .int 0, .int 0, .ref a37, .ref a38, .ref a39, .ref a40, .ref a41, .int 0, .ref a43, .ref a44, .ref a45, .ref a46, .ref a47, .int 0, .int 0, .int 0, .int 0, .ref a52, .ref a53, .int 0, .int 0, .ref a56, .ref a57, .int 0, .ref a59, .ref a60, .ref a61]))]) [0] (by decide) rfl
          exact W.iret hx hb hr (fun t ht hW => ⟨⟨_, (), rfl, by rw [e9], [.int 4, .int 0, .int 0, .ref a4, .ref a5, .ref a6, .ref a7, .ref a8, .ref a9, .ref a10, .ref a11, .ref a12, .int 0, .int 0, .int (-1), .int 0, .int 0, .int 0, .ref a19, .int 0, .int 1, .int 0, .ref a23, .ref a24, .ref a25, .ref a26, .ref a27, .ref a28, .ref a29, .ref a30, .ref a31, .ref a32, .ref a33, .ref a34, .int 0, .int 0, .ref a37, .ref a38, .ref a39, .ref a40, .ref a41, .int 0, .ref a43, .ref a44, .ref a45, .ref a46, .ref a47, .int 0, .int 0, .int 0, .int 0, .ref a52, .ref a53, .int 0, .int 0, .ref a56, .ref a57, .int 0, .ref a59, .ref a60, .ref a61], by rw [ht, e9]; exact hP9, va_K.moved hW.alike hK, by rw [e9]; exact hD9⟩, hS.F ht⟩) hS.2.2 dX9_row_103
        · skip
          refine lv_aload_n hx hb dX9_row_23 rfl (lv_at hl 0 rfl) ?_
          refine lv_iload hx hb dX9_row_24 (lv_at hl 4 rfl) ?_
          have hPc := hP.sub (ws' := [(h0, .inr (9, [.int 0, .int 4, .int 0, .int 0, .ref a4, .ref a5, .ref a6, .ref a7, .ref a8, .ref a9, .ref a10, .ref a11, .ref a12, .int 0, .int 0, .int (-1), .int 0, .int 0, .int 0, .ref a19, .int 0, .int 0, .int 0, .ref a23, .ref a24, .ref a25, .ref a26, .ref a27, .ref a28, .ref a29, .ref a30, .ref a31, .ref a32, .ref a33, .ref a34, .int 0, .int 0, .ref a37, .ref a38, .ref a39, .ref a40, .ref a41, .int 0, .ref a43, .ref a44, .ref a45, .ref a46, .ref a47, .int 0, .int 0, .int 0, .int 0, .ref a52, .ref a53, .int 0, .int 0, .ref a56, .ref a57, .int 0, .ref a59, .ref a60, .ref a61]))]) [0] rfl
          refine va_calli (va_runV (As := [.int p3]) (rest := []) ⟨hx, hb, hml, hown, hts⟩ (c_X9_isClass l dC dI cyI cyZ cyJ H.size h0 a4 a5 a6 a7 a8 a9 a10 a11 a12 a19 a23 a24 a25 a26 a27 a28 a29 a30 a31 a32 a33 a34 a37 a38 a39 a40 a41 a43 a44 a45 a46 a47 a52 a53 a56 a57 a59 a60 a61 p3) (cwV 1 hts gX9_row_X9_isClass rfl rfl rfl (by decide +kernel) ⟨Nat.le_of_ble_eq_true rfl, Nat.le_of_ble_eq_true rfl⟩) (x_pV hN hK hPc (ci := 9) (q0 := 0) rfl rfl) rfl rfl hl.1 rfl (lv_room (Nat.le_of_ble_eq_true rfl)) dX9_row_26 ⟨Nat.le_of_ble_eq_true rfl, Nat.le_of_ble_eq_true rfl⟩) hS x_nA (x_nf hA hS) (fun r_26 u t H1 locs ht hvm hw hB hz1 hk1 hS => ?_)
          have hP := x_kp hP hk1
          clear ht hvm hB hz1 hk1 t u hPc
          generalize H1 = H at hP hS ⊢
          obtain rfl := hw
          refine lv_if_ne (tgt := 37) hx hb dX9_row_29 (by decide) (fun c_7 => ?_) (fun c_7 => ?_)
          · skip
            refine lv_aload_n hx hb dX9_row_37 rfl (lv_at hl 0 rfl) ?_
            refine va_get (D := (dC, dI)) (ci := 9) (v := .int 0) (C := RX9) (T := TX9) (N := 62) hx hb hts i_X9_row_X9 hown hK hP 0 rfl rfl 21 (by decide) k_2 (fun _ h9 => h9) rfl dX9_row_38 ?_
            refine lv_bipush (v := 50) hx hb dX9_row_41 (by decide) ?_
            refine lv_icmp_ne (tgt := 51) hx hb dX9_row_43 (by decide) (fun _ => ?_) (fun c_8 => absurd c_8 (by decide))
            refine lv_aload_n hx hb dX9_row_51 rfl (lv_at hl 0 rfl) ?_
            refine va_get (D := (dC, dI)) (ci := 9) (v := .ref a29) (C := RX9) (T := TX9) (N := 62) hx hb hts i_X9_row_X9 hown hK hP 0 rfl rfl 29 (by decide) k_3 (fun _ h9 => h9) rfl dX9_row_52 ?_
            refine lv_aload_n hx hb dX9_row_55 rfl (lv_at hl 0 rfl) ?_
            refine va_get (D := (dC, dI)) (ci := 9) (v := .int 0) (C := RX9) (T := TX9) (N := 62) hx hb hts i_X9_row_X9 hown hK hP 0 rfl rfl 21 (by decide) k_2 (fun _ h9 => h9) rfl dX9_row_56 ?_
            refine lv_iload_n hx hb dX9_row_59 rfl (lv_at hl 1 rfl) ?_
            refine va_iast hx hb hK hP hD hS 1 0 rfl rfl (x_lit _ _ (by decide)) dX9_row_60 (fun H locs hP hD hS => ?_)
            have hP : va_P (dC, dI) vwCl [(h0, .inr (9, [.int 0, .int 4, .int 0, .int 0, .ref a4, .ref a5, .ref a6, .ref a7, .ref a8, .ref a9, .ref a10, .ref a11, .ref a12, .int 0, .int 0, .int (-1), .int 0, .int 0, .int 0, .ref a19, .int 0, .int 0, .int 0, .ref a23, .ref a24, .ref a25, .ref a26, .ref a27, .ref a28, .ref a29, .ref a30, .ref a31, .ref a32, .ref a33, .ref a34, .int 0, .int 0, .ref a37, .ref a38, .ref a39, .ref a40, .ref a41, .int 0, .ref a43, .ref a44, .ref a45, .ref a46, .ref a47, .int 0, .int 0, .int 0, .int 0, .ref a52, .ref a53, .int 0, .int 0, .ref a56, .ref a57, .int 0, .ref a59, .ref a60, .ref a61])), (a29, .inl (cyI, 50, .inl (upd g29 (Int32.toNatClampNeg 0) p0))), (a30, .inl (cyI, 50, .inl g30)), (a31, .inl (cyI, 50, .inl g31)), (a32, .inl (cyI, 50, .inl g32))] H := hP
            have hD : va_D A [(h0, .inr (9, [.int 0, .int 4, .int 0, .int 0, .ref a4, .ref a5, .ref a6, .ref a7, .ref a8, .ref a9, .ref a10, .ref a11, .ref a12, .int 0, .int 0, .int (-1), .int 0, .int 0, .int 0, .ref a19, .int 0, .int 0, .int 0, .ref a23, .ref a24, .ref a25, .ref a26, .ref a27, .ref a28, .ref a29, .ref a30, .ref a31, .ref a32, .ref a33, .ref a34, .int 0, .int 0, .ref a37, .ref a38, .ref a39, .ref a40, .ref a41, .int 0, .ref a43, .ref a44, .ref a45, .ref a46, .ref a47, .int 0, .int 0, .int 0, .int 0, .ref a52, .ref a53, .int 0, .int 0, .ref a56, .ref a57, .int 0, .ref a59, .ref a60, .ref a61])), (a29, .inl (cyI, 50, .inl (upd g29 (Int32.toNatClampNeg 0) p0))), (a30, .inl (cyI, 50, .inl g30)), (a31, .inl (cyI, 50, .inl g31)), (a32, .inl (cyI, 50, .inl g32))] := hD
            refine lv_aload_n hx hb dX9_row_61 rfl (lv_at hl 0 rfl) ?_
            refine va_get (D := (dC, dI)) (ci := 9) (v := .ref a30) (C := RX9) (T := TX9) (N := 62) hx hb hts i_X9_row_X9 hown hK hP 0 rfl rfl 30 (by decide) k_4 (fun _ h9 => h9) rfl dX9_row_62 ?_
            refine lv_aload_n hx hb dX9_row_65 rfl (lv_at hl 0 rfl) ?_
            refine va_get (D := (dC, dI)) (ci := 9) (v := .int 0) (C := RX9) (T := TX9) (N := 62) hx hb hts i_X9_row_X9 hown hK hP 0 rfl rfl 21 (by decide) k_2 (fun _ h9 => h9) rfl dX9_row_66 ?_
            refine lv_iload_n hx hb dX9_row_69 rfl (lv_at hl 2 rfl) ?_
            refine va_iast hx hb hK hP hD hS 2 0 rfl rfl (x_lit _ _ (by decide)) dX9_row_70 (fun H locs hP hD hS => ?_)
            have hP : va_P (dC, dI) vwCl [(h0, .inr (9, [.int 0, .int 4, .int 0, .int 0, .ref a4, .ref a5, .ref a6, .ref a7, .ref a8, .ref a9, .ref a10, .ref a11, .ref a12, .int 0, .int 0, .int (-1), .int 0, .int 0, .int 0, .ref a19, .int 0, .int 0, .int 0, .ref a23, .ref a24, .ref a25, .ref a26, .ref a27, .ref a28, .ref a29, .ref a30, .ref a31, .ref a32, .ref a33, .ref a34, .int 0, .int 0, .ref a37, .ref a38, .ref a39, .ref a40, .ref a41, .int 0, .ref a43, .ref a44, .ref a45, .ref a46, .ref a47, .int 0, .int 0, .int 0, .int 0, .ref a52, .ref a53, .int 0, .int 0, .ref a56, .ref a57, .int 0, .ref a59, .ref a60, .ref a61])), (a29, .inl (cyI, 50, .inl (upd g29 (Int32.toNatClampNeg 0) p0))), (a30, .inl (cyI, 50, .inl (upd g30 (Int32.toNatClampNeg 0) p1))), (a31, .inl (cyI, 50, .inl g31)), (a32, .inl (cyI, 50, .inl g32))] H := hP
            have hD : va_D A [(h0, .inr (9, [.int 0, .int 4, .int 0, .int 0, .ref a4, .ref a5, .ref a6, .ref a7, .ref a8, .ref a9, .ref a10, .ref a11, .ref a12, .int 0, .int 0, .int (-1), .int 0, .int 0, .int 0, .ref a19, .int 0, .int 0, .int 0, .ref a23, .ref a24, .ref a25, .ref a26, .ref a27, .ref a28, .ref a29, .ref a30, .ref a31, .ref a32, .ref a33, .ref a34, .int 0, .int 0, .ref a37, .ref a38, .ref a39, .ref a40, .ref a41, .int 0, .ref a43, .ref a44, .ref a45, .ref a46, .ref a47, .int 0, .int 0, .int 0, .int 0, .ref a52, .ref a53, .int 0, .int 0, .ref a56, .ref a57, .int 0, .ref a59, .ref a60, .ref a61])), (a29, .inl (cyI, 50, .inl (upd g29 (Int32.toNatClampNeg 0) p0))), (a30, .inl (cyI, 50, .inl (upd g30 (Int32.toNatClampNeg 0) p1))), (a31, .inl (cyI, 50, .inl g31)), (a32, .inl (cyI, 50, .inl g32))] := hD
            refine lv_aload_n hx hb dX9_row_71 rfl (lv_at hl 0 rfl) ?_
            refine va_get (D := (dC, dI)) (ci := 9) (v := .ref a31) (C := RX9) (T := TX9) (N := 62) hx hb hts i_X9_row_X9 hown hK hP 0 rfl rfl 31 (by decide) k_5 (fun _ h9 => h9) rfl dX9_row_72 ?_
            refine lv_aload_n hx hb dX9_row_75 rfl (lv_at hl 0 rfl) ?_
            refine va_get (D := (dC, dI)) (ci := 9) (v := .int 0) (C := RX9) (T := TX9) (N := 62) hx hb hts i_X9_row_X9 hown hK hP 0 rfl rfl 21 (by decide) k_2 (fun _ h9 => h9) rfl dX9_row_76 ?_
            refine lv_iload_n hx hb dX9_row_79 rfl (lv_at hl 3 rfl) ?_
            refine va_iast hx hb hK hP hD hS 3 0 rfl rfl (x_lit _ _ (by decide)) dX9_row_80 (fun H locs hP hD hS => ?_)
            have hP : va_P (dC, dI) vwCl [(h0, .inr (9, [.int 0, .int 4, .int 0, .int 0, .ref a4, .ref a5, .ref a6, .ref a7, .ref a8, .ref a9, .ref a10, .ref a11, .ref a12, .int 0, .int 0, .int (-1), .int 0, .int 0, .int 0, .ref a19, .int 0, .int 0, .int 0, .ref a23, .ref a24, .ref a25, .ref a26, .ref a27, .ref a28, .ref a29, .ref a30, .ref a31, .ref a32, .ref a33, .ref a34, .int 0, .int 0, .ref a37, .ref a38, .ref a39, .ref a40, .ref a41, .int 0, .ref a43, .ref a44, .ref a45, .ref a46, .ref a47, .int 0, .int 0, .int 0, .int 0, .ref a52, .ref a53, .int 0, .int 0, .ref a56, .ref a57, .int 0, .ref a59, .ref a60, .ref a61])), (a29, .inl (cyI, 50, .inl (upd g29 (Int32.toNatClampNeg 0) p0))), (a30, .inl (cyI, 50, .inl (upd g30 (Int32.toNatClampNeg 0) p1))), (a31, .inl (cyI, 50, .inl (upd g31 (Int32.toNatClampNeg 0) p2))), (a32, .inl (cyI, 50, .inl g32))] H := hP
            have hD : va_D A [(h0, .inr (9, [.int 0, .int 4, .int 0, .int 0, .ref a4, .ref a5, .ref a6, .ref a7, .ref a8, .ref a9, .ref a10, .ref a11, .ref a12, .int 0, .int 0, .int (-1), .int 0, .int 0, .int 0, .ref a19, .int 0, .int 0, .int 0, .ref a23, .ref a24, .ref a25, .ref a26, .ref a27, .ref a28, .ref a29, .ref a30, .ref a31, .ref a32, .ref a33, .ref a34, .int 0, .int 0, .ref a37, .ref a38, .ref a39, .ref a40, .ref a41, .int 0, .ref a43, .ref a44, .ref a45, .ref a46, .ref a47, .int 0, .int 0, .int 0, .int 0, .ref a52, .ref a53, .int 0, .int 0, .ref a56, .ref a57, .int 0, .ref a59, .ref a60, .ref a61])), (a29, .inl (cyI, 50, .inl (upd g29 (Int32.toNatClampNeg 0) p0))), (a30, .inl (cyI, 50, .inl (upd g30 (Int32.toNatClampNeg 0) p1))), (a31, .inl (cyI, 50, .inl (upd g31 (Int32.toNatClampNeg 0) p2))), (a32, .inl (cyI, 50, .inl g32))] := hD
            refine lv_aload_n hx hb dX9_row_81 rfl (lv_at hl 0 rfl) ?_
            refine va_get (D := (dC, dI)) (ci := 9) (v := .ref a32) (C := RX9) (T := TX9) (N := 62) hx hb hts i_X9_row_X9 hown hK hP 0 rfl rfl 32 (by decide) k_6 (fun _ h9 => h9) rfl dX9_row_82 ?_
            refine lv_aload_n hx hb dX9_row_85 rfl (lv_at hl 0 rfl) ?_
            refine va_get (D := (dC, dI)) (ci := 9) (v := .int 0) (C := RX9) (T := TX9) (N := 62) hx hb hts i_X9_row_X9 hown hK hP 0 rfl rfl 21 (by decide) k_2 (fun _ h9 => h9) rfl dX9_row_86 ?_
            refine lv_iload hx hb dX9_row_89 (lv_at hl 4 rfl) ?_
            refine va_iast hx hb hK hP hD hS 4 0 rfl rfl (x_lit _ _ (by decide)) dX9_row_91 (fun H locs hP hD hS => ?_)
            have hP : va_P (dC, dI) vwCl [(h0, .inr (9, [.int 0, .int 4, .int 0, .int 0, .ref a4, .ref a5, .ref a6, .ref a7, .ref a8, .ref a9, .ref a10, .ref a11, .ref a12, .int 0, .int 0, .int (-1), .int 0, .int 0, .int 0, .ref a19, .int 0, .int 0, .int 0, .ref a23, .ref a24, .ref a25, .ref a26, .ref a27, .ref a28, .ref a29, .ref a30, .ref a31, .ref a32, .ref a33, .ref a34, .int 0, .int 0, .ref a37, .ref a38, .ref a39, .ref a40, .ref a41, .int 0, .ref a43, .ref a44, .ref a45, .ref a46, .ref a47, .int 0, .int 0, .int 0, .int 0, .ref a52, .ref a53, .int 0, .int 0, .ref a56, .ref a57, .int 0, .ref a59, .ref a60, .ref a61])), (a29, .inl (cyI, 50, .inl (upd g29 (Int32.toNatClampNeg 0) p0))), (a30, .inl (cyI, 50, .inl (upd g30 (Int32.toNatClampNeg 0) p1))), (a31, .inl (cyI, 50, .inl (upd g31 (Int32.toNatClampNeg 0) p2))), (a32, .inl (cyI, 50, .inl (upd g32 (Int32.toNatClampNeg 0) p3)))] H := hP
            have hD : va_D A [(h0, .inr (9, [.int 0, .int 4, .int 0, .int 0, .ref a4, .ref a5, .ref a6, .ref a7, .ref a8, .ref a9, .ref a10, .ref a11, .ref a12, .int 0, .int 0, .int (-1), .int 0, .int 0, .int 0, .ref a19, .int 0, .int 0, .int 0, .ref a23, .ref a24, .ref a25, .ref a26, .ref a27, .ref a28, .ref a29, .ref a30, .ref a31, .ref a32, .ref a33, .ref a34, .int 0, .int 0, .ref a37, .ref a38, .ref a39, .ref a40, .ref a41, .int 0, .ref a43, .ref a44, .ref a45, .ref a46, .ref a47, .int 0, .int 0, .int 0, .int 0, .ref a52, .ref a53, .int 0, .int 0, .ref a56, .ref a57, .int 0, .ref a59, .ref a60, .ref a61])), (a29, .inl (cyI, 50, .inl (upd g29 (Int32.toNatClampNeg 0) p0))), (a30, .inl (cyI, 50, .inl (upd g30 (Int32.toNatClampNeg 0) p1))), (a31, .inl (cyI, 50, .inl (upd g31 (Int32.toNatClampNeg 0) p2))), (a32, .inl (cyI, 50, .inl (upd g32 (Int32.toNatClampNeg 0) p3)))] := hD
            refine lv_aload_n hx hb dX9_row_92 rfl (lv_at hl 0 rfl) ?_
            refine lv_dup hx hb dX9_row_93 rfl ?_
            refine va_get (D := (dC, dI)) (ci := 9) (v := .int 0) (C := RX9) (T := TX9) (N := 62) hx hb hts i_X9_row_X9 hown hK hP 0 rfl rfl 21 (by decide) k_2 (fun _ h9 => h9) rfl dX9_row_94 ?_
            refine lv_iconst (v := 1) hx hb dX9_row_97 (by decide) ?_
            refine lv_iadd hx hb dX9_row_98 ?_
            refine lv_topi (fun z_9 ez_9 => ?_)
            obtain rfl : z_9 = 1 := ez_9.trans (by decide)
            refine lv_dup_x1 hx hb dX9_row_99 rfl rfl ?_
            refine va_put (D := (dC, dI)) (ci := 9) (v := .int 1) (ty := .int) (C := RX9) (T := TX9) (N := 62) hx hb hts i_X9_row_X9 tyX9 tyX9_ok nmX9 hown hK hP hD hS 0 rfl rfl 21 (by decide) k_2 (fun _ h9 => h9) rfl (by decide +kernel) rfl rfl (Nat.le_of_ble_eq_true rfl) dX9_row_100 (fun H locs hP hD hS => ?_)
            have hP : va_P (dC, dI) vwCl [(h0, .inr (9, [.int 0, .int 4, .int 0, .int 0, .ref a4, .ref a5, .ref a6, .ref a7, .ref a8, .ref a9, .ref a10, .ref a11, .ref a12, .int 0, .int 0, .int (-1), .int 0, .int 0, .int 0, .ref a19, .int 0, .int 1, .int 0, .ref a23, .ref a24, .ref a25, .ref a26, .ref a27, .ref a28, .ref a29, .ref a30, .ref a31, .ref a32, .ref a33, .ref a34, .int 0, .int 0, .ref a37, .ref a38, .ref a39, .ref a40, .ref a41, .int 0, .ref a43, .ref a44, .ref a45, .ref a46, .ref a47, .int 0, .int 0, .int 0, .int 0, .ref a52, .ref a53, .int 0, .int 0, .ref a56, .ref a57, .int 0, .ref a59, .ref a60, .ref a61])), (a29, .inl (cyI, 50, .inl (upd g29 (Int32.toNatClampNeg 0) p0))), (a30, .inl (cyI, 50, .inl (upd g30 (Int32.toNatClampNeg 0) p1))), (a31, .inl (cyI, 50, .inl (upd g31 (Int32.toNatClampNeg 0) p2))), (a32, .inl (cyI, 50, .inl (upd g32 (Int32.toNatClampNeg 0) p3)))] H := hP
            have hD : va_D A [(h0, .inr (9, [.int 0, .int 4, .int 0, .int 0, .ref a4, .ref a5, .ref a6, .ref a7, .ref a8, .ref a9, .ref a10, .ref a11, .ref a12, .int 0, .int 0, .int (-1), .int 0, .int 0, .int 0, .ref a19, .int 0, .int 1, .int 0, .ref a23, .ref a24, .ref a25, .ref a26, .ref a27, .ref a28, .ref a29, .ref a30, .ref a31, .ref a32, .ref a33, .ref a34, .int 0, .int 0, .ref a37, .ref a38, .ref a39, .ref a40, .ref a41, .int 0, .ref a43, .ref a44, .ref a45, .ref a46, .ref a47, .int 0, .int 0, .int 0, .int 0, .ref a52, .ref a53, .int 0, .int 0, .ref a56, .ref a57, .int 0, .ref a59, .ref a60, .ref a61])), (a29, .inl (cyI, 50, .inl (upd g29 (Int32.toNatClampNeg 0) p0))), (a30, .inl (cyI, 50, .inl (upd g30 (Int32.toNatClampNeg 0) p1))), (a31, .inl (cyI, 50, .inl (upd g31 (Int32.toNatClampNeg 0) p2))), (a32, .inl (cyI, 50, .inl (upd g32 (Int32.toNatClampNeg 0) p3)))] := hD
            have e9 : f_X9_row p0 p1 p2 p3 = (0, 1) := by rw [f_X9_row, if_neg c_1, if_neg c_2, if_neg c_3, if_neg c_4, if_neg c_7]
            have hP9 := hP.sub (ws' := [(h0, .inr (9, [.int 0, .int 4, .int 0, .int 0, .ref a4, .ref a5, .ref a6, .ref a7, .ref a8, .ref a9, .ref a10, .ref a11, .ref a12, .int 0, .int 0, .int (-1), .int 0, .int 0, .int 0, .ref a19, .int 0, .int 1, .int 0, .ref a23, .ref a24, .ref a25, .ref a26, .ref a27, .ref a28, .ref a29, .ref a30, .ref a31, .ref a32, .ref a33, .ref a34, .int 0, .int 0, .ref a37, .ref a38, .ref a39, .ref a40, .ref a41, .int 0, .ref a43, .ref a44, .ref a45, .ref a46, .ref a47, .int 0, .int 0, .int 0, .int 0, .ref a52, .ref a53, .int 0, .int 0, .ref a56, .ref a57, .int 0, .ref a59, .ref a60, .ref a61]))]) [0] rfl
            have hD9 := hD.sub (ws' := [(h0, .inr (9, [.int 0, .int 4, .int 0, .int 0, .ref a4, .ref a5, .ref a6, .ref a7, .ref a8, .ref a9, .ref a10, .ref a11, .ref a12, .int 0, .int 0, .int (-1), .int 0, .int 0, .int 0, .ref a19, .int 0, .int 1, .int 0, .ref a23, .ref a24, .ref a25, .ref a26, .ref a27, .ref a28, .ref a29, .ref a30, .ref a31, .ref a32, .ref a33, .ref a34, .int 0, .int 0, .ref a37, .ref a38, .ref a39, .ref a40, .ref a41, .int 0, .ref a43, .ref a44, .ref a45, .ref a46, .ref a47, .int 0, .int 0, .int 0, .int 0, .ref a52, .ref a53, .int 0, .int 0, .ref a56, .ref a57, .int 0, .ref a59, .ref a60, .ref a61]))]) [0] (by decide) rfl
            exact W.iret hx hb hr (fun t ht hW => ⟨⟨_, (), rfl, by rw [e9], [.int 4, .int 0, .int 0, .ref a4, .ref a5, .ref a6, .ref a7, .ref a8, .ref a9, .ref a10, .ref a11, .ref a12, .int 0, .int 0, .int (-1), .int 0, .int 0, .int 0, .ref a19, .int 0, .int 1, .int 0, .ref a23, .ref a24, .ref a25, .ref a26, .ref a27, .ref a28, .ref a29, .ref a30, .ref a31, .ref a32, .ref a33, .ref a34, .int 0, .int 0, .ref a37, .ref a38, .ref a39, .ref a40, .ref a41, .int 0, .ref a43, .ref a44, .ref a45, .ref a46, .ref a47, .int 0, .int 0, .int 0, .int 0, .ref a52, .ref a53, .int 0, .int 0, .ref a56, .ref a57, .int 0, .ref a59, .ref a60, .ref a61], by rw [ht, e9]; exact hP9, va_K.moved hW.alike hK, by rw [e9]; exact hD9⟩, hS.F ht⟩) hS.2.2 dX9_row_103
          · skip
            refine lv_aload_n hx hb dX9_row_32 rfl (lv_at hl 0 rfl) ?_
            have hPc := hP.sub (ws' := [(h0, .inr (9, [.int 0, .int 4, .int 0, .int 0, .ref a4, .ref a5, .ref a6, .ref a7, .ref a8, .ref a9, .ref a10, .ref a11, .ref a12, .int 0, .int 0, .int (-1), .int 0, .int 0, .int 0, .ref a19, .int 0, .int 0, .int 0, .ref a23, .ref a24, .ref a25, .ref a26, .ref a27, .ref a28, .ref a29, .ref a30, .ref a31, .ref a32, .ref a33, .ref a34, .int 0, .int 0, .ref a37, .ref a38, .ref a39, .ref a40, .ref a41, .int 0, .ref a43, .ref a44, .ref a45, .ref a46, .ref a47, .int 0, .int 0, .int 0, .int 0, .ref a52, .ref a53, .int 0, .int 0, .ref a56, .ref a57, .int 0, .ref a59, .ref a60, .ref a61]))]) [0] rfl
            have hDc := hD.sub (ws' := [(h0, .inr (9, [.int 0, .int 4, .int 0, .int 0, .ref a4, .ref a5, .ref a6, .ref a7, .ref a8, .ref a9, .ref a10, .ref a11, .ref a12, .int 0, .int 0, .int (-1), .int 0, .int 0, .int 0, .ref a19, .int 0, .int 0, .int 0, .ref a23, .ref a24, .ref a25, .ref a26, .ref a27, .ref a28, .ref a29, .ref a30, .ref a31, .ref a32, .ref a33, .ref a34, .int 0, .int 0, .ref a37, .ref a38, .ref a39, .ref a40, .ref a41, .int 0, .ref a43, .ref a44, .ref a45, .ref a46, .ref a47, .int 0, .int 0, .int 0, .int 0, .ref a52, .ref a53, .int 0, .int 0, .ref a56, .ref a57, .int 0, .ref a59, .ref a60, .ref a61]))]) [0] (by decide) rfl
            have hFc := va_free (wc := [(h0, .inr (9, [.int 0, .int 4, .int 0, .int 0, .ref a4, .ref a5, .ref a6, .ref a7, .ref a8, .ref a9, .ref a10, .ref a11, .ref a12, .int 0, .int 0, .int (-1), .int 0, .int 0, .int 0, .ref a19, .int 0, .int 0, .int 0, .ref a23, .ref a24, .ref a25, .ref a26, .ref a27, .ref a28, .ref a29, .ref a30, .ref a31, .ref a32, .ref a33, .ref a34, .int 0, .int 0, .ref a37, .ref a38, .ref a39, .ref a40, .ref a41, .int 0, .ref a43, .ref a44, .ref a45, .ref a46, .ref a47, .int 0, .int 0, .int 0, .int 0, .ref a52, .ref a53, .int 0, .int 0, .ref a56, .ref a57, .int 0, .ref a59, .ref a60, .ref a61]))]) hD hS hA [0] rfl
            refine va_calli (va_runV (As := []) (rest := []) ⟨hx, hb, hml, hown, hts⟩ (c_X9_bad l dC dI cyI cyZ cyJ H.size h0 a4 a5 a6 a7 a8 a9 a10 a11 a12 a19 a23 a24 a25 a26 a27 a28 a29 a30 a31 a32 a33 a34 a37 a38 a39 a40 a41 a43 a44 a45 a46 a47 a52 a53 a56 a57 a59 a60 a61) (cwV 0 hts gX9_row_X9_bad rfl rfl rfl (by decide +kernel) ⟨Nat.le_of_ble_eq_true rfl, Nat.le_of_ble_eq_true rfl⟩) (x_pVD hN hK hPc hDc (ci := 9) (q0 := 0) rfl rfl) rfl rfl hl.1 rfl (lv_room (Nat.le_of_ble_eq_true rfl)) dX9_row_33 ⟨Nat.le_of_ble_eq_true rfl, Nat.le_of_ble_eq_true rfl⟩) hS (fun q _ h => hFc q h) hFc (fun r_33 u t H1 locs ht hvm hw hB hz1 hk1 hS => ?_)
            obtain ⟨hP1, hK1, hD1⟩ := hB
            rw [ht] at hP1
            obtain ⟨hP, hD⟩ := va_join (wr := [(a29, .inl (cyI, 50, .inl g29)), (a30, .inl (cyI, 50, .inl g30)), (a31, .inl (cyI, 50, .inl g31)), (a32, .inl (cyI, 50, .inl g32))]) (w1 := [(h0, .inr (9, [.int 1, .int 4, .int 0, .int 0, .ref a4, .ref a5, .ref a6, .ref a7, .ref a8, .ref a9, .ref a10, .ref a11, .ref a12, .int 0, .int 0, .int (-1), .int 0, .int 0, .int 0, .ref a19, .int 0, .int 0, .int 0, .ref a23, .ref a24, .ref a25, .ref a26, .ref a27, .ref a28, .ref a29, .ref a30, .ref a31, .ref a32, .ref a33, .ref a34, .int 0, .int 0, .ref a37, .ref a38, .ref a39, .ref a40, .ref a41, .int 0, .ref a43, .ref a44, .ref a45, .ref a46, .ref a47, .int 0, .int 0, .int 0, .int 0, .ref a52, .ref a53, .int 0, .int 0, .ref a56, .ref a57, .int 0, .ref a59, .ref a60, .ref a61]))]) hP hD [0] [1, 2, 3, 4] rfl rfl (by decide) (by decide) hk1 hFc hP1 hD1
            clear hz1 hk1 hPc hDc hFc hP1 hK1 hD1 ht hvm t u
            generalize H1 = H at hP hS ⊢
            have hP : va_P (dC, dI) vwCl [(a29, .inl (cyI, 50, .inl g29)), (a30, .inl (cyI, 50, .inl g30)), (a31, .inl (cyI, 50, .inl g31)), (a32, .inl (cyI, 50, .inl g32)), (h0, .inr (9, [.int 1, .int 4, .int 0, .int 0, .ref a4, .ref a5, .ref a6, .ref a7, .ref a8, .ref a9, .ref a10, .ref a11, .ref a12, .int 0, .int 0, .int (-1), .int 0, .int 0, .int 0, .ref a19, .int 0, .int 0, .int 0, .ref a23, .ref a24, .ref a25, .ref a26, .ref a27, .ref a28, .ref a29, .ref a30, .ref a31, .ref a32, .ref a33, .ref a34, .int 0, .int 0, .ref a37, .ref a38, .ref a39, .ref a40, .ref a41, .int 0, .ref a43, .ref a44, .ref a45, .ref a46, .ref a47, .int 0, .int 0, .int 0, .int 0, .ref a52, .ref a53, .int 0, .int 0, .ref a56, .ref a57, .int 0, .ref a59, .ref a60, .ref a61]))] H := hP
            have hD : va_D A [(a29, .inl (cyI, 50, .inl g29)), (a30, .inl (cyI, 50, .inl g30)), (a31, .inl (cyI, 50, .inl g31)), (a32, .inl (cyI, 50, .inl g32)), (h0, .inr (9, [.int 1, .int 4, .int 0, .int 0, .ref a4, .ref a5, .ref a6, .ref a7, .ref a8, .ref a9, .ref a10, .ref a11, .ref a12, .int 0, .int 0, .int (-1), .int 0, .int 0, .int 0, .ref a19, .int 0, .int 0, .int 0, .ref a23, .ref a24, .ref a25, .ref a26, .ref a27, .ref a28, .ref a29, .ref a30, .ref a31, .ref a32, .ref a33, .ref a34, .int 0, .int 0, .ref a37, .ref a38, .ref a39, .ref a40, .ref a41, .int 0, .ref a43, .ref a44, .ref a45, .ref a46, .ref a47, .int 0, .int 0, .int 0, .int 0, .ref a52, .ref a53, .int 0, .int 0, .ref a56, .ref a57, .int 0, .ref a59, .ref a60, .ref a61]))] := hD
            obtain rfl := hw
            have e9 : f_X9_row p0 p1 p2 p3 = (1, 0) := by rw [f_X9_row, if_neg c_1, if_neg c_2, if_neg c_3, if_neg c_4, if_pos c_7]
            have hP9 := hP.sub (ws' := [(h0, .inr (9, [.int 1, .int 4, .int 0, .int 0, .ref a4, .ref a5, .ref a6, .ref a7, .ref a8, .ref a9, .ref a10, .ref a11, .ref a12, .int 0, .int 0, .int (-1), .int 0, .int 0, .int 0, .ref a19, .int 0, .int 0, .int 0, .ref a23, .ref a24, .ref a25, .ref a26, .ref a27, .ref a28, .ref a29, .ref a30, .ref a31, .ref a32, .ref a33, .ref a34, .int 0, .int 0, .ref a37, .ref a38, .ref a39, .ref a40, .ref a41, .int 0, .ref a43, .ref a44, .ref a45, .ref a46, .ref a47, .int 0, .int 0, .int 0, .int 0, .ref a52, .ref a53, .int 0, .int 0, .ref a56, .ref a57, .int 0, .ref a59, .ref a60, .ref a61]))]) [4] rfl
            have hD9 := hD.sub (ws' := [(h0, .inr (9, [.int 1, .int 4, .int 0, .int 0, .ref a4, .ref a5, .ref a6, .ref a7, .ref a8, .ref a9, .ref a10, .ref a11, .ref a12, .int 0, .int 0, .int (-1), .int 0, .int 0, .int 0, .ref a19, .int 0, .int 0, .int 0, .ref a23, .ref a24, .ref a25, .ref a26, .ref a27, .ref a28, .ref a29, .ref a30, .ref a31, .ref a32, .ref a33, .ref a34, .int 0, .int 0, .ref a37, .ref a38, .ref a39, .ref a40, .ref a41, .int 0, .ref a43, .ref a44, .ref a45, .ref a46, .ref a47, .int 0, .int 0, .int 0, .int 0, .ref a52, .ref a53, .int 0, .int 0, .ref a56, .ref a57, .int 0, .ref a59, .ref a60, .ref a61]))]) [4] (by decide) rfl
            exact W.iret hx hb hr (fun t ht hW => ⟨⟨_, (), rfl, by rw [e9], [.int 4, .int 0, .int 0, .ref a4, .ref a5, .ref a6, .ref a7, .ref a8, .ref a9, .ref a10, .ref a11, .ref a12, .int 0, .int 0, .int (-1), .int 0, .int 0, .int 0, .ref a19, .int 0, .int 0, .int 0, .ref a23, .ref a24, .ref a25, .ref a26, .ref a27, .ref a28, .ref a29, .ref a30, .ref a31, .ref a32, .ref a33, .ref a34, .int 0, .int 0, .ref a37, .ref a38, .ref a39, .ref a40, .ref a41, .int 0, .ref a43, .ref a44, .ref a45, .ref a46, .ref a47, .int 0, .int 0, .int 0, .int 0, .ref a52, .ref a53, .int 0, .int 0, .ref a56, .ref a57, .int 0, .ref a59, .ref a60, .ref a61], by rw [ht, e9]; exact hP9, va_K.moved hW.alike hK, by rw [e9]; exact hD9⟩, hS.F ht⟩) hS.2.2 dX9_row_36
