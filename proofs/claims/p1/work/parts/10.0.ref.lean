def f_X9_may0 (p0 : Int32) (p1 : Int32) : Int32 := if p0 = p1 then 1 else if (f_X9_isPrimitive p0) = (0 : Int32) then if (f_X9_isPrimitive p1) = (0 : Int32) then if (p0 >>> (16 &&& 31)) ≤ (0 : Int32) then if p1 = (0 : Int32) then 1 else if (x_face (Int32.toNatClampNeg p1)) = (0 : Int32) then if (f_X9_below p0 p1) = (0 : Int32) then 0 else 1 else 1 else if p1 = (0 : Int32) then 1 else if p1 = (2 : Int32) then 1 else if p1 = (3 : Int32) then 1 else 0 else 0 else 0
theorem b_X9_may0 (p0 : Int32) (p1 : Int32) : x_nb (f_X9_may0 p0 p1) := (x_ite rfl (x_ite (x_ite (x_ite (x_ite rfl (x_ite (x_ite rfl rfl) rfl)) (x_ite rfl (x_ite rfl (x_ite rfl rfl)))) rfl) rfl))
theorem i_X9_may0_X9 : ∀ w ∈ wsX90, w ∈ wsX9_may := by decide +kernel
set_option maxHeartbeats 4000000 in
set_option maxRecDepth 100000 in
theorem c_X9_may0 (l : Launch) (dC : Nat → ClassId) (dI : Nat → Nat → Nat) (cyI cyZ cyJ : ClassId) (sz : Nat) (h0 : Nat) (a4 : Nat) (a5 : Nat) (a6 : Nat) (a7 : Nat) (a8 : Nat) (a9 : Nat) (a10 : Nat) (a11 : Nat) (a12 : Nat) (a19 : Nat) (a23 : Nat) (a24 : Nat) (a25 : Nat) (a26 : Nat) (a27 : Nat) (a28 : Nat) (a29 : Nat) (a30 : Nat) (a31 : Nat) (a32 : Nat) (a33 : Nat) (a34 : Nat) (a37 : Nat) (a38 : Nat) (a39 : Nat) (a40 : Nat) (a41 : Nat) (a43 : Nat) (a44 : Nat) (a45 : Nat) (a46 : Nat) (a47 : Nat) (a52 : Nat) (a53 : Nat) (a56 : Nat) (a57 : Nat) (a59 : Nat) (a60 : Nat) (a61 : Nat) (p0 : Int32) (p1 : Int32) (hs : ¬ f_X9_isType p0 = 0) (ht9 : ¬ f_X9_isType p1 = 0) (hn0 : p1 >>> (16 &&& 31) = 0) : Met l yX9_may wsX9_may ({ frames := 1, cells := 0, slots := 0, locals := 23 }) (va_Pc [.ref h0, .int p0, .int p1] (x_Pre (dC, dI) (x_T cyI cyZ cyJ) [(h0, .inr (9, [.int 0, .int 4, .int 0, .int 0, .ref a4, .ref a5, .ref a6, .ref a7, .ref a8, .ref a9, .ref a10, .ref a11, .ref a12, .int 0, .int 0, .int (-1), .int 0, .int 0, .int 0, .ref a19, .int 0, .int 0, .int 0, .ref a23, .ref a24, .ref a25, .ref a26, .ref a27, .ref a28, .ref a29, .ref a30, .ref a31, .ref a32, .ref a33, .ref a34, .int 0, .int 0, .ref a37, .ref a38, .ref a39, .ref a40, .ref a41, .int 0, .ref a43, .ref a44, .ref a45, .ref a46, .ref a47, .int 0, .int 0, .int 0, .int 0, .ref a52, .ref a53, .int 0, .int 0, .ref a56, .ref a57, .int 0, .ref a59, .ref a60, .ref a61])), (a4, .inl (cyI, 200, .inl x_up9)), (a5, .inl (cyZ, 200, .inl x_face))] sz)) (va_Qi (fun (r : Int32) (_ : Unit) => r = f_X9_may0 p0 p1) (fun _ _ => True) (x_new sz)) 0 0 (x_new sz) := by
  refine Met.ofW (cc := cX9_may) (maxL := 7) (ret := (some .boolean)) (by decide) rfl ?_
  intro p e s m args below meth c s₁ B hml hv
  obtain ⟨rfl, hsz, hP, hK, hN⟩ := hv
  have hx := B.exec
  have hb := B.bytes
  have hr := B.returns
  have hts := atoms_spec (ws := wsX9_may) B.pre
  have hown : s.vm.findClass RX9 = some m.cls := findClass_of_methodNamed B.named
  have hlocks := B.notSynchronized
  have k_1 := hts (.fieldLink RX9 20 "FlowJudgeModel" "face" "[Z") (by decide +kernel)
  subst hsz
  have hA : ∀ q : Nat, s.heap.size ≤ q → x_new s.heap.size q := fun _ h => h
  have hS : va_S (x_new s.heap.size) s.heap s.heap [] := va_S.rf
  have hP : va_P (dC, dI) vwCl [(h0, .inr (9, [.int 0, .int 4, .int 0, .int 0, .ref a4, .ref a5, .ref a6, .ref a7, .ref a8, .ref a9, .ref a10, .ref a11, .ref a12, .int 0, .int 0, .int (-1), .int 0, .int 0, .int 0, .ref a19, .int 0, .int 0, .int 0, .ref a23, .ref a24, .ref a25, .ref a26, .ref a27, .ref a28, .ref a29, .ref a30, .ref a31, .ref a32, .ref a33, .ref a34, .int 0, .int 0, .ref a37, .ref a38, .ref a39, .ref a40, .ref a41, .int 0, .ref a43, .ref a44, .ref a45, .ref a46, .ref a47, .int 0, .int 0, .int 0, .int 0, .ref a52, .ref a53, .int 0, .int 0, .ref a56, .ref a57, .int 0, .ref a59, .ref a60, .ref a61])), (a4, .inl (cyI, 200, .inl x_up9)), (a5, .inl (cyZ, 200, .inl x_face))] s.heap := hP
  have hl := lv_entry ([.ref h0, .int p0, .int p1]) (n := 7) (Nat.le_of_ble_eq_true rfl)
  rw [lg_entry_eq]
  generalize (lg_sl ([.ref h0, .int p0, .int p1]) ++ List.replicate (7 - (lg_sl ([.ref h0, .int p0, .int p1])).length) Slot.unset).toArray = ls at hl ⊢
  have hl : lv_has ls 7 [(0, .ref h0), (1, .int p0), (2, .int p1)] := hl
  obtain ⟨H, hH⟩ : ∃ z, z = s.heap := ⟨_, rfl⟩
  refine x_here hH ?_
  have hP : va_P (dC, dI) vwCl [(h0, .inr (9, [.int 0, .int 4, .int 0, .int 0, .ref a4, .ref a5, .ref a6, .ref a7, .ref a8, .ref a9, .ref a10, .ref a11, .ref a12, .int 0, .int 0, .int (-1), .int 0, .int 0, .int 0, .ref a19, .int 0, .int 0, .int 0, .ref a23, .ref a24, .ref a25, .ref a26, .ref a27, .ref a28, .ref a29, .ref a30, .ref a31, .ref a32, .ref a33, .ref a34, .int 0, .int 0, .ref a37, .ref a38, .ref a39, .ref a40, .ref a41, .int 0, .ref a43, .ref a44, .ref a45, .ref a46, .ref a47, .int 0, .int 0, .int 0, .int 0, .ref a52, .ref a53, .int 0, .int 0, .ref a56, .ref a57, .int 0, .ref a59, .ref a60, .ref a61])), (a4, .inl (cyI, 200, .inl x_up9)), (a5, .inl (cyZ, 200, .inl x_face))] H := by rw [hH]; exact hP
  have hS : va_S (x_new s.heap.size) s.heap H [] := by rw [hH]; exact va_S.rf
  clear hH
  refine lv_iload_n hx hb dX9_may_0 rfl (lv_at hl 1 rfl) ?_
  refine lv_iload_n hx hb dX9_may_1 rfl (lv_at hl 2 rfl) ?_
  refine lv_icmp_ne (tgt := 7) hx hb dX9_may_2 (by decide) (fun c_1 => ?_) (fun c_1 => ?_)
  · skip
    refine lv_aload_n hx hb dX9_may_7 rfl (lv_at hl 0 rfl) ?_
    refine lv_iload_n hx hb dX9_may_8 rfl (lv_at hl 1 rfl) ?_
    have hPc := hP.sub (ws' := [(h0, .inr (9, [.int 0, .int 4, .int 0, .int 0, .ref a4, .ref a5, .ref a6, .ref a7, .ref a8, .ref a9, .ref a10, .ref a11, .ref a12, .int 0, .int 0, .int (-1), .int 0, .int 0, .int 0, .ref a19, .int 0, .int 0, .int 0, .ref a23, .ref a24, .ref a25, .ref a26, .ref a27, .ref a28, .ref a29, .ref a30, .ref a31, .ref a32, .ref a33, .ref a34, .int 0, .int 0, .ref a37, .ref a38, .ref a39, .ref a40, .ref a41, .int 0, .ref a43, .ref a44, .ref a45, .ref a46, .ref a47, .int 0, .int 0, .int 0, .int 0, .ref a52, .ref a53, .int 0, .int 0, .ref a56, .ref a57, .int 0, .ref a59, .ref a60, .ref a61]))]) [0] rfl
    refine va_calli (va_runV (As := [.int p0]) (rest := []) ⟨hx, hb, hml, hown, hts⟩ (c_X9_isPrimitive l dC dI cyI cyZ cyJ H.size h0 a4 a5 a6 a7 a8 a9 a10 a11 a12 a19 a23 a24 a25 a26 a27 a28 a29 a30 a31 a32 a33 a34 a37 a38 a39 a40 a41 a43 a44 a45 a46 a47 a52 a53 a56 a57 a59 a60 a61 p0) (cwV 1 hts gX9_may_X9_isPrimitive rfl rfl rfl (by decide +kernel) ⟨Nat.le_of_ble_eq_true rfl, Nat.le_of_ble_eq_true rfl⟩) (x_pV hN hK hPc (ci := 9) (q0 := 0) rfl rfl) rfl rfl hl.1 rfl (lv_room (Nat.le_of_ble_eq_true rfl)) dX9_may_9 ⟨Nat.le_of_ble_eq_true rfl, Nat.le_of_ble_eq_true rfl⟩) hS x_nA (x_nf hA hS) (fun r_9 u t H1 locs ht hvm hw hB hz1 hk1 hS => ?_)
    have hP := x_kp hP hk1
    clear ht hvm hB hz1 hk1 t u hPc
    generalize H1 = H at hP hS ⊢
    obtain rfl := hw
    refine lv_if_ne (tgt := 23) hx hb dX9_may_12 (by decide) (fun c_2 => ?_) (fun c_2 => ?_)
    · skip
      refine lv_iconst (v := 0) hx hb dX9_may_23 (by decide) ?_
      exact W.zret (ty := .boolean) hx hb hr rfl (fun t ht hW => ⟨⟨_, (), rfl, by rw [f_X9_may0, if_neg c_1, if_neg c_2], trivial⟩, hS.F ht⟩) hS.2.2 dX9_may_24
    · skip
      refine lv_aload_n hx hb dX9_may_15 rfl (lv_at hl 0 rfl) ?_
      refine lv_iload_n hx hb dX9_may_16 rfl (lv_at hl 2 rfl) ?_
      have hPc := hP.sub (ws' := [(h0, .inr (9, [.int 0, .int 4, .int 0, .int 0, .ref a4, .ref a5, .ref a6, .ref a7, .ref a8, .ref a9, .ref a10, .ref a11, .ref a12, .int 0, .int 0, .int (-1), .int 0, .int 0, .int 0, .ref a19, .int 0, .int 0, .int 0, .ref a23, .ref a24, .ref a25, .ref a26, .ref a27, .ref a28, .ref a29, .ref a30, .ref a31, .ref a32, .ref a33, .ref a34, .int 0, .int 0, .ref a37, .ref a38, .ref a39, .ref a40, .ref a41, .int 0, .ref a43, .ref a44, .ref a45, .ref a46, .ref a47, .int 0, .int 0, .int 0, .int 0, .ref a52, .ref a53, .int 0, .int 0, .ref a56, .ref a57, .int 0, .ref a59, .ref a60, .ref a61]))]) [0] rfl
      refine va_calli (va_runV (As := [.int p1]) (rest := []) ⟨hx, hb, hml, hown, hts⟩ (c_X9_isPrimitive l dC dI cyI cyZ cyJ H.size h0 a4 a5 a6 a7 a8 a9 a10 a11 a12 a19 a23 a24 a25 a26 a27 a28 a29 a30 a31 a32 a33 a34 a37 a38 a39 a40 a41 a43 a44 a45 a46 a47 a52 a53 a56 a57 a59 a60 a61 p1) (cwV 1 hts gX9_may_X9_isPrimitive rfl rfl rfl (by decide +kernel) ⟨Nat.le_of_ble_eq_true rfl, Nat.le_of_ble_eq_true rfl⟩) (x_pV hN hK hPc (ci := 9) (q0 := 0) rfl rfl) rfl rfl hl.1 rfl (lv_room (Nat.le_of_ble_eq_true rfl)) dX9_may_17 ⟨Nat.le_of_ble_eq_true rfl, Nat.le_of_ble_eq_true rfl⟩) hS x_nA (x_nf hA hS) (fun r_17 u t H1 locs ht hvm hw hB hz1 hk1 hS => ?_)
      have hP := x_kp hP hk1
      clear ht hvm hB hz1 hk1 t u hPc
      generalize H1 = H at hP hS ⊢
      obtain rfl := hw
      refine lv_if_eq (tgt := 25) hx hb dX9_may_20 (by decide) (fun c_3 => ?_) (fun c_3 => ?_)
      · skip
        refine lv_iload_n hx hb dX9_may_25 rfl (lv_at hl 1 rfl) ?_
        refine lv_bipush (v := 16) hx hb dX9_may_26 (by decide) ?_
        refine lv_ishr hx hb dX9_may_28 ?_
        refine lv_istore_n (lv' := [(3, .int (p0 >>> (16 &&& 31))), (0, .ref h0), (1, .int p0), (2, .int p1)]) hx hb dX9_may_29 rfl hl (by decide) rfl (fun ls hl => ?_)
        refine lv_iload_n hx hb dX9_may_30 rfl (lv_at hl 3 rfl) ?_
        refine lv_bipush (v := 16) hx hb dX9_may_31 (by decide) ?_
        refine lv_ishr hx hb dX9_may_33 ?_
        refine lv_istore (lv' := [(4, .int (p1 >>> (16 &&& 31))), (3, .int (p0 >>> (16 &&& 31))), (0, .ref h0), (1, .int p0), (2, .int p1)]) hx hb dX9_may_34 hl (by decide) rfl (fun ls hl => ?_)
        refine lv_iload hx hb dX9_may_36 (lv_at hl 0 rfl) ?_
        refine lv_if_ne (tgt := 95) hx hb dX9_may_38 (by decide) (fun c_4 => ?_) (fun c_4 => ?_)
        · exact absurd hn0 c_4
        · skip
          refine lv_iload_n hx hb dX9_may_41 rfl (lv_at hl 1 rfl) ?_
          refine lv_if_le (tgt := 67) hx hb dX9_may_42 (by decide) (fun c_5 => ?_) (fun c_5 => ?_)
          · skip
            refine lv_iload_n hx hb dX9_may_67 rfl (lv_at hl 4 rfl) ?_
            refine lv_if_eq (tgt := 89) hx hb dX9_may_68 (by decide) (fun c_6 => ?_) (fun c_6 => ?_)
            · skip
              refine lv_iconst (v := 1) hx hb dX9_may_89 (by decide) ?_
              refine lv_goto (tgt := 94) hx hb dX9_may_90 (by decide) ?_
              exact W.zret (ty := .boolean) hx hb hr rfl (fun t ht hW => ⟨⟨_, (), rfl, by rw [f_X9_may0, if_neg c_1, if_pos c_2, if_pos c_3, if_pos c_5, if_pos c_6], trivial⟩, hS.F ht⟩) hS.2.2 dX9_may_94
            · skip
              refine lv_aload_n hx hb dX9_may_71 rfl (lv_at hl 2 rfl) ?_
              refine va_get (D := (dC, dI)) (ci := 9) (v := .ref a5) (C := RX9) (T := TX9) (N := 62) hx hb hts i_X9_may0_X9 hown hK hP 0 rfl rfl 5 (by decide) k_1 (fun _ h9 => h9) rfl dX9_may_72 ?_
              refine lv_iload_n hx hb dX9_may_75 rfl (lv_at hl 4 rfl) ?_
              refine va_zald hx hb hK hP 2 1 rfl rfl (x_tyin ht9 (by assumption) (by assumption)) dX9_may_76 ?_
              refine lv_if_ne (tgt := 89) hx hb dX9_may_77 (by decide) (fun c_7 => ?_) (fun c_7 => ?_)
              · skip
                refine lv_iconst (v := 1) hx hb dX9_may_89 (by decide) ?_
                refine lv_goto (tgt := 94) hx hb dX9_may_90 (by decide) ?_
                exact W.zret (ty := .boolean) hx hb hr rfl (fun t ht hW => ⟨⟨_, (), rfl, by rw [f_X9_may0, if_neg c_1, if_pos c_2, if_pos c_3, if_pos c_5, if_neg c_6, if_neg c_7], trivial⟩, hS.F ht⟩) hS.2.2 dX9_may_94
              · skip
                refine lv_aload_n hx hb dX9_may_80 rfl (lv_at hl 2 rfl) ?_
                refine lv_iload_n hx hb dX9_may_81 rfl (lv_at hl 3 rfl) ?_
                refine lv_iload_n hx hb dX9_may_82 rfl (lv_at hl 4 rfl) ?_
                have hPc := hP.sub (ws' := [(h0, .inr (9, [.int 0, .int 4, .int 0, .int 0, .ref a4, .ref a5, .ref a6, .ref a7, .ref a8, .ref a9, .ref a10, .ref a11, .ref a12, .int 0, .int 0, .int (-1), .int 0, .int 0, .int 0, .ref a19, .int 0, .int 0, .int 0, .ref a23, .ref a24, .ref a25, .ref a26, .ref a27, .ref a28, .ref a29, .ref a30, .ref a31, .ref a32, .ref a33, .ref a34, .int 0, .int 0, .ref a37, .ref a38, .ref a39, .ref a40, .ref a41, .int 0, .ref a43, .ref a44, .ref a45, .ref a46, .ref a47, .int 0, .int 0, .int 0, .int 0, .ref a52, .ref a53, .int 0, .int 0, .ref a56, .ref a57, .int 0, .ref a59, .ref a60, .ref a61])), (a4, .inl (cyI, 200, .inl x_up9))]) [0, 1] rfl
                refine va_calli (va_runV (As := [.int p0, .int p1]) (rest := []) ⟨hx, hb, hml, hown, hts⟩ (c_X9_below l dC dI cyI cyZ cyJ H.size h0 a4 a5 a6 a7 a8 a9 a10 a11 a12 a19 a23 a24 a25 a26 a27 a28 a29 a30 a31 a32 a33 a34 a37 a38 a39 a40 a41 a43 a44 a45 a46 a47 a52 a53 a56 a57 a59 a60 a61 p0 p1 (x_tyc hs (by assumption) (by assumption)).1 (x_tyc hs (by assumption) (by assumption)).2) (cwV 2 hts gX9_may_X9_below rfl rfl rfl (by decide +kernel) ⟨Nat.le_of_ble_eq_true rfl, Nat.le_of_ble_eq_true rfl⟩) (x_pV hN hK hPc (ci := 9) (q0 := 0) rfl rfl) rfl rfl hl.1 rfl (lv_room (Nat.le_of_ble_eq_true rfl)) dX9_may_83 ⟨Nat.le_of_ble_eq_true rfl, Nat.le_of_ble_eq_true rfl⟩) hS x_nA (x_nf hA hS) (fun r_83 u t H1 locs ht hvm hw hB hz1 hk1 hS => ?_)
                have hP := x_kp hP hk1
                clear ht hvm hB hz1 hk1 t u hPc
                generalize H1 = H at hP hS ⊢
                obtain rfl := hw
                refine lv_if_eq (tgt := 93) hx hb dX9_may_86 (by decide) (fun c_8 => ?_) (fun c_8 => ?_)
                · skip
                  refine lv_iconst (v := 0) hx hb dX9_may_93 (by decide) ?_
                  exact W.zret (ty := .boolean) hx hb hr rfl (fun t ht hW => ⟨⟨_, (), rfl, by rw [f_X9_may0, if_neg c_1, if_pos c_2, if_pos c_3, if_pos c_5, if_neg c_6, if_pos c_7, if_pos c_8], trivial⟩, hS.F ht⟩) hS.2.2 dX9_may_94
                · skip
                  refine lv_iconst (v := 1) hx hb dX9_may_89 (by decide) ?_
                  refine lv_goto (tgt := 94) hx hb dX9_may_90 (by decide) ?_
                  exact W.zret (ty := .boolean) hx hb hr rfl (fun t ht hW => ⟨⟨_, (), rfl, by rw [f_X9_may0, if_neg c_1, if_pos c_2, if_pos c_3, if_pos c_5, if_neg c_6, if_pos c_7, if_neg c_8], trivial⟩, hS.F ht⟩) hS.2.2 dX9_may_94
          · skip
            refine lv_iload_n hx hb dX9_may_45 rfl (lv_at hl 4 rfl) ?_
            refine lv_if_eq (tgt := 59) hx hb dX9_may_46 (by decide) (fun c_9 => ?_) (fun c_9 => ?_)
            · skip
              refine lv_iconst (v := 1) hx hb dX9_may_59 (by decide) ?_
              refine lv_goto (tgt := 94) hx hb dX9_may_60 (by decide) ?_
              exact W.zret (ty := .boolean) hx hb hr rfl (fun t ht hW => ⟨⟨_, (), rfl, by rw [f_X9_may0, if_neg c_1, if_pos c_2, if_pos c_3, if_neg c_5, if_pos c_9], trivial⟩, hS.F ht⟩) hS.2.2 dX9_may_94
            · skip
              refine lv_iload_n hx hb dX9_may_49 rfl (lv_at hl 4 rfl) ?_
              refine lv_iconst (v := 2) hx hb dX9_may_50 (by decide) ?_
              refine lv_icmp_eq (tgt := 59) hx hb dX9_may_51 (by decide) (fun c_10 => ?_) (fun c_10 => ?_)
              · skip
                refine lv_iconst (v := 1) hx hb dX9_may_59 (by decide) ?_
                refine lv_goto (tgt := 94) hx hb dX9_may_60 (by decide) ?_
                exact W.zret (ty := .boolean) hx hb hr rfl (fun t ht hW => ⟨⟨_, (), rfl, by rw [f_X9_may0, if_neg c_1, if_pos c_2, if_pos c_3, if_neg c_5, if_neg c_9, if_pos c_10], trivial⟩, hS.F ht⟩) hS.2.2 dX9_may_94
              · skip
                refine lv_iload_n hx hb dX9_may_54 rfl (lv_at hl 4 rfl) ?_
                refine lv_iconst (v := 3) hx hb dX9_may_55 (by decide) ?_
                refine lv_icmp_ne (tgt := 63) hx hb dX9_may_56 (by decide) (fun c_11 => ?_) (fun c_11 => ?_)
                · skip
                  refine lv_iconst (v := 0) hx hb dX9_may_63 (by decide) ?_
                  refine lv_goto (tgt := 94) hx hb dX9_may_64 (by decide) ?_
                  exact W.zret (ty := .boolean) hx hb hr rfl (fun t ht hW => ⟨⟨_, (), rfl, by rw [f_X9_may0, if_neg c_1, if_pos c_2, if_pos c_3, if_neg c_5, if_neg c_9, if_neg c_10, if_neg c_11], trivial⟩, hS.F ht⟩) hS.2.2 dX9_may_94
                · skip
                  refine lv_iconst (v := 1) hx hb dX9_may_59 (by decide) ?_
                  refine lv_goto (tgt := 94) hx hb dX9_may_60 (by decide) ?_
                  exact W.zret (ty := .boolean) hx hb hr rfl (fun t ht hW => ⟨⟨_, (), rfl, by rw [f_X9_may0, if_neg c_1, if_pos c_2, if_pos c_3, if_neg c_5, if_neg c_9, if_neg c_10, if_pos c_11], trivial⟩, hS.F ht⟩) hS.2.2 dX9_may_94
      · skip
        refine lv_iconst (v := 0) hx hb dX9_may_23 (by decide) ?_
        exact W.zret (ty := .boolean) hx hb hr rfl (fun t ht hW => ⟨⟨_, (), rfl, by rw [f_X9_may0, if_neg c_1, if_pos c_2, if_neg c_3], trivial⟩, hS.F ht⟩) hS.2.2 dX9_may_24
  · skip
    refine lv_iconst (v := 1) hx hb dX9_may_5 (by decide) ?_
    exact W.zret (ty := .boolean) hx hb hr rfl (fun t ht hW => ⟨⟨_, (), rfl, by rw [f_X9_may0, if_pos c_1], trivial⟩, hS.F ht⟩) hS.2.2 dX9_may_6

def f_X9_may (p0 : Int32) (p1 : Int32) : Int32 := if p0 = p1 then 1 else if (f_X9_isPrimitive p0) = (0 : Int32) then if (f_X9_isPrimitive p1) = (0 : Int32) then if (p1 >>> (16 &&& 31)) = (0 : Int32) then if (p0 >>> (16 &&& 31)) ≤ (0 : Int32) then if p1 = (0 : Int32) then 1 else if (x_face (Int32.toNatClampNeg p1)) = (0 : Int32) then if (f_X9_below p0 p1) = (0 : Int32) then 0 else 1 else 1 else if p1 = (0 : Int32) then 1 else if p1 = (2 : Int32) then 1 else if p1 = (3 : Int32) then 1 else 0 else if (p0 >>> (16 &&& 31)) = (p1 >>> (16 &&& 31)) then if (65528 : Int32) ≤ (p0 &&& 65535) then 0 else if (65528 : Int32) ≤ (p1 &&& 65535) then 0 else if (f_X9_may0 (p0 &&& 65535) (p1 &&& 65535)) = (0 : Int32) then 0 else 1 else if (p0 >>> (16 &&& 31)) ≤ (p1 >>> (16 &&& 31)) then 0 else if (p1 &&& 65535) = (0 : Int32) then 1 else if (p1 &&& 65535) = (2 : Int32) then 1 else if (p1 &&& 65535) = (3 : Int32) then 1 else 0 else 0 else 0
theorem b_X9_may (p0 : Int32) (p1 : Int32) : x_nb (f_X9_may p0 p1) := (x_ite rfl (x_ite (x_ite (x_ite (x_ite (x_ite rfl (x_ite (x_ite rfl rfl) rfl)) (x_ite rfl (x_ite rfl (x_ite rfl rfl)))) (x_ite (x_ite rfl (x_ite rfl (x_ite rfl rfl))) (x_ite rfl (x_ite rfl (x_ite rfl (x_ite rfl rfl)))))) rfl) rfl))
theorem i_X9_may_X9 : ∀ w ∈ wsX90, w ∈ wsX9_may := by decide +kernel
set_option maxHeartbeats 4000000 in
set_option maxRecDepth 100000 in
theorem c_X9_may (l : Launch) (dC : Nat → ClassId) (dI : Nat → Nat → Nat) (cyI cyZ cyJ : ClassId) (sz : Nat) (h0 : Nat) (a4 : Nat) (a5 : Nat) (a6 : Nat) (a7 : Nat) (a8 : Nat) (a9 : Nat) (a10 : Nat) (a11 : Nat) (a12 : Nat) (a19 : Nat) (a23 : Nat) (a24 : Nat) (a25 : Nat) (a26 : Nat) (a27 : Nat) (a28 : Nat) (a29 : Nat) (a30 : Nat) (a31 : Nat) (a32 : Nat) (a33 : Nat) (a34 : Nat) (a37 : Nat) (a38 : Nat) (a39 : Nat) (a40 : Nat) (a41 : Nat) (a43 : Nat) (a44 : Nat) (a45 : Nat) (a46 : Nat) (a47 : Nat) (a52 : Nat) (a53 : Nat) (a56 : Nat) (a57 : Nat) (a59 : Nat) (a60 : Nat) (a61 : Nat) (p0 : Int32) (p1 : Int32) (hs : ¬ f_X9_isType p0 = 0) (ht9 : ¬ f_X9_isType p1 = 0) : Met l yX9_may wsX9_may ({ frames := 2, cells := 0, slots := 0, locals := 49 }) (va_Pc [.ref h0, .int p0, .int p1] (x_Pre (dC, dI) (x_T cyI cyZ cyJ) [(h0, .inr (9, [.int 0, .int 4, .int 0, .int 0, .ref a4, .ref a5, .ref a6, .ref a7, .ref a8, .ref a9, .ref a10, .ref a11, .ref a12, .int 0, .int 0, .int (-1), .int 0, .int 0, .int 0, .ref a19, .int 0, .int 0, .int 0, .ref a23, .ref a24, .ref a25, .ref a26, .ref a27, .ref a28, .ref a29, .ref a30, .ref a31, .ref a32, .ref a33, .ref a34, .int 0, .int 0, .ref a37, .ref a38, .ref a39, .ref a40, .ref a41, .int 0, .ref a43, .ref a44, .ref a45, .ref a46, .ref a47, .int 0, .int 0, .int 0, .int 0, .ref a52, .ref a53, .int 0, .int 0, .ref a56, .ref a57, .int 0, .ref a59, .ref a60, .ref a61])), (a4, .inl (cyI, 200, .inl x_up9)), (a5, .inl (cyZ, 200, .inl x_face))] sz)) (va_Qi (fun (r : Int32) (_ : Unit) => r = f_X9_may p0 p1) (fun _ _ => True) (x_new sz)) 0 0 (x_new sz) := by
  refine Met.ofW (cc := cX9_may) (maxL := 7) (ret := (some .boolean)) (by decide) rfl ?_
  intro p e s m args below meth c s₁ B hml hv
  obtain ⟨rfl, hsz, hP, hK, hN⟩ := hv
  have hx := B.exec
  have hb := B.bytes
  have hr := B.returns
  have hts := atoms_spec (ws := wsX9_may) B.pre
  have hown : s.vm.findClass RX9 = some m.cls := findClass_of_methodNamed B.named
  have hlocks := B.notSynchronized
  have k_1 := hts (.constant RX9 142 (65535)) (by decide +kernel)
  have k_2 := hts (.constant RX9 140 (65528)) (by decide +kernel)
  have k_3 := hts (.fieldLink RX9 20 "FlowJudgeModel" "face" "[Z") (by decide +kernel)
  subst hsz
  have hA : ∀ q : Nat, s.heap.size ≤ q → x_new s.heap.size q := fun _ h => h
  have hS : va_S (x_new s.heap.size) s.heap s.heap [] := va_S.rf
  have hP : va_P (dC, dI) vwCl [(h0, .inr (9, [.int 0, .int 4, .int 0, .int 0, .ref a4, .ref a5, .ref a6, .ref a7, .ref a8, .ref a9, .ref a10, .ref a11, .ref a12, .int 0, .int 0, .int (-1), .int 0, .int 0, .int 0, .ref a19, .int 0, .int 0, .int 0, .ref a23, .ref a24, .ref a25, .ref a26, .ref a27, .ref a28, .ref a29, .ref a30, .ref a31, .ref a32, .ref a33, .ref a34, .int 0, .int 0, .ref a37, .ref a38, .ref a39, .ref a40, .ref a41, .int 0, .ref a43, .ref a44, .ref a45, .ref a46, .ref a47, .int 0, .int 0, .int 0, .int 0, .ref a52, .ref a53, .int 0, .int 0, .ref a56, .ref a57, .int 0, .ref a59, .ref a60, .ref a61])), (a4, .inl (cyI, 200, .inl x_up9)), (a5, .inl (cyZ, 200, .inl x_face))] s.heap := hP
  have hl := lv_entry ([.ref h0, .int p0, .int p1]) (n := 7) (Nat.le_of_ble_eq_true rfl)
  rw [lg_entry_eq]
  generalize (lg_sl ([.ref h0, .int p0, .int p1]) ++ List.replicate (7 - (lg_sl ([.ref h0, .int p0, .int p1])).length) Slot.unset).toArray = ls at hl ⊢
  have hl : lv_has ls 7 [(0, .ref h0), (1, .int p0), (2, .int p1)] := hl
  obtain ⟨H, hH⟩ : ∃ z, z = s.heap := ⟨_, rfl⟩
  refine x_here hH ?_
  have hP : va_P (dC, dI) vwCl [(h0, .inr (9, [.int 0, .int 4, .int 0, .int 0, .ref a4, .ref a5, .ref a6, .ref a7, .ref a8, .ref a9, .ref a10, .ref a11, .ref a12, .int 0, .int 0, .int (-1), .int 0, .int 0, .int 0, .ref a19, .int 0, .int 0, .int 0, .ref a23, .ref a24, .ref a25, .ref a26, .ref a27, .ref a28, .ref a29, .ref a30, .ref a31, .ref a32, .ref a33, .ref a34, .int 0, .int 0, .ref a37, .ref a38, .ref a39, .ref a40, .ref a41, .int 0, .ref a43, .ref a44, .ref a45, .ref a46, .ref a47, .int 0, .int 0, .int 0, .int 0, .ref a52, .ref a53, .int 0, .int 0, .ref a56, .ref a57, .int 0, .ref a59, .ref a60, .ref a61])), (a4, .inl (cyI, 200, .inl x_up9)), (a5, .inl (cyZ, 200, .inl x_face))] H := by rw [hH]; exact hP
  have hS : va_S (x_new s.heap.size) s.heap H [] := by rw [hH]; exact va_S.rf
  clear hH
  refine lv_iload_n hx hb dX9_may_0 rfl (lv_at hl 1 rfl) ?_
  refine lv_iload_n hx hb dX9_may_1 rfl (lv_at hl 2 rfl) ?_
  refine lv_icmp_ne (tgt := 7) hx hb dX9_may_2 (by decide) (fun c_1 => ?_) (fun c_1 => ?_)
  · skip
    refine lv_aload_n hx hb dX9_may_7 rfl (lv_at hl 0 rfl) ?_
    refine lv_iload_n hx hb dX9_may_8 rfl (lv_at hl 1 rfl) ?_
    have hPc := hP.sub (ws' := [(h0, .inr (9, [.int 0, .int 4, .int 0, .int 0, .ref a4, .ref a5, .ref a6, .ref a7, .ref a8, .ref a9, .ref a10, .ref a11, .ref a12, .int 0, .int 0, .int (-1), .int 0, .int 0, .int 0, .ref a19, .int 0, .int 0, .int 0, .ref a23, .ref a24, .ref a25, .ref a26, .ref a27, .ref a28, .ref a29, .ref a30, .ref a31, .ref a32, .ref a33, .ref a34, .int 0, .int 0, .ref a37, .ref a38, .ref a39, .ref a40, .ref a41, .int 0, .ref a43, .ref a44, .ref a45, .ref a46, .ref a47, .int 0, .int 0, .int 0, .int 0, .ref a52, .ref a53, .int 0, .int 0, .ref a56, .ref a57, .int 0, .ref a59, .ref a60, .ref a61]))]) [0] rfl
    refine va_calli (va_runV (As := [.int p0]) (rest := []) ⟨hx, hb, hml, hown, hts⟩ (c_X9_isPrimitive l dC dI cyI cyZ cyJ H.size h0 a4 a5 a6 a7 a8 a9 a10 a11 a12 a19 a23 a24 a25 a26 a27 a28 a29 a30 a31 a32 a33 a34 a37 a38 a39 a40 a41 a43 a44 a45 a46 a47 a52 a53 a56 a57 a59 a60 a61 p0) (cwV 1 hts gX9_may_X9_isPrimitive rfl rfl rfl (by decide +kernel) ⟨Nat.le_of_ble_eq_true rfl, Nat.le_of_ble_eq_true rfl⟩) (x_pV hN hK hPc (ci := 9) (q0 := 0) rfl rfl) rfl rfl hl.1 rfl (lv_room (Nat.le_of_ble_eq_true rfl)) dX9_may_9 ⟨Nat.le_of_ble_eq_true rfl, Nat.le_of_ble_eq_true rfl⟩) hS x_nA (x_nf hA hS) (fun r_9 u t H1 locs ht hvm hw hB hz1 hk1 hS => ?_)
    have hP := x_kp hP hk1
    clear ht hvm hB hz1 hk1 t u hPc
    generalize H1 = H at hP hS ⊢
    obtain rfl := hw
    refine lv_if_ne (tgt := 23) hx hb dX9_may_12 (by decide) (fun c_2 => ?_) (fun c_2 => ?_)
    · skip
      refine lv_iconst (v := 0) hx hb dX9_may_23 (by decide) ?_
      exact W.zret (ty := .boolean) hx hb hr rfl (fun t ht hW => ⟨⟨_, (), rfl, by rw [f_X9_may, if_neg c_1, if_neg c_2], trivial⟩, hS.F ht⟩) hS.2.2 dX9_may_24
    · skip
      refine lv_aload_n hx hb dX9_may_15 rfl (lv_at hl 0 rfl) ?_
      refine lv_iload_n hx hb dX9_may_16 rfl (lv_at hl 2 rfl) ?_
      have hPc := hP.sub (ws' := [(h0, .inr (9, [.int 0, .int 4, .int 0, .int 0, .ref a4, .ref a5, .ref a6, .ref a7, .ref a8, .ref a9, .ref a10, .ref a11, .ref a12, .int 0, .int 0, .int (-1), .int 0, .int 0, .int 0, .ref a19, .int 0, .int 0, .int 0, .ref a23, .ref a24, .ref a25, .ref a26, .ref a27, .ref a28, .ref a29, .ref a30, .ref a31, .ref a32, .ref a33, .ref a34, .int 0, .int 0, .ref a37, .ref a38, .ref a39, .ref a40, .ref a41, .int 0, .ref a43, .ref a44, .ref a45, .ref a46, .ref a47, .int 0, .int 0, .int 0, .int 0, .ref a52, .ref a53, .int 0, .int 0, .ref a56, .ref a57, .int 0, .ref a59, .ref a60, .ref a61]))]) [0] rfl
      refine va_calli (va_runV (As := [.int p1]) (rest := []) ⟨hx, hb, hml, hown, hts⟩ (c_X9_isPrimitive l dC dI cyI cyZ cyJ H.size h0 a4 a5 a6 a7 a8 a9 a10 a11 a12 a19 a23 a24 a25 a26 a27 a28 a29 a30 a31 a32 a33 a34 a37 a38 a39 a40 a41 a43 a44 a45 a46 a47 a52 a53 a56 a57 a59 a60 a61 p1) (cwV 1 hts gX9_may_X9_isPrimitive rfl rfl rfl (by decide +kernel) ⟨Nat.le_of_ble_eq_true rfl, Nat.le_of_ble_eq_true rfl⟩) (x_pV hN hK hPc (ci := 9) (q0 := 0) rfl rfl) rfl rfl hl.1 rfl (lv_room (Nat.le_of_ble_eq_true rfl)) dX9_may_17 ⟨Nat.le_of_ble_eq_true rfl, Nat.le_of_ble_eq_true rfl⟩) hS x_nA (x_nf hA hS) (fun r_17 u t H1 locs ht hvm hw hB hz1 hk1 hS => ?_)
      have hP := x_kp hP hk1
      clear ht hvm hB hz1 hk1 t u hPc
      generalize H1 = H at hP hS ⊢
      obtain rfl := hw
      refine lv_if_eq (tgt := 25) hx hb dX9_may_20 (by decide) (fun c_3 => ?_) (fun c_3 => ?_)
      · skip
        refine lv_iload_n hx hb dX9_may_25 rfl (lv_at hl 1 rfl) ?_
        refine lv_bipush (v := 16) hx hb dX9_may_26 (by decide) ?_
        refine lv_ishr hx hb dX9_may_28 ?_
        refine lv_istore_n (lv' := [(3, .int (p0 >>> (16 &&& 31))), (0, .ref h0), (1, .int p0), (2, .int p1)]) hx hb dX9_may_29 rfl hl (by decide) rfl (fun ls hl => ?_)
        refine lv_iload_n hx hb dX9_may_30 rfl (lv_at hl 3 rfl) ?_
        refine lv_bipush (v := 16) hx hb dX9_may_31 (by decide) ?_
        refine lv_ishr hx hb dX9_may_33 ?_
        refine lv_istore (lv' := [(4, .int (p1 >>> (16 &&& 31))), (3, .int (p0 >>> (16 &&& 31))), (0, .ref h0), (1, .int p0), (2, .int p1)]) hx hb dX9_may_34 hl (by decide) rfl (fun ls hl => ?_)
        refine lv_iload hx hb dX9_may_36 (lv_at hl 0 rfl) ?_
        refine lv_if_ne (tgt := 95) hx hb dX9_may_38 (by decide) (fun c_4 => ?_) (fun c_4 => ?_)
        · skip
          refine lv_iload_n hx hb dX9_may_95 rfl (lv_at hl 3 rfl) ?_
          refine lv_ldc (v := 65535) hx hb hown k_1 dX9_may_96 ?_
          refine lv_iand hx hb dX9_may_98 ?_
          refine lv_istore (lv' := [(5, .int (p0 &&& 65535)), (4, .int (p1 >>> (16 &&& 31))), (3, .int (p0 >>> (16 &&& 31))), (0, .ref h0), (1, .int p0), (2, .int p1)]) hx hb dX9_may_99 hl (by decide) rfl (fun ls hl => ?_)
          refine lv_iload_n hx hb dX9_may_101 rfl (lv_at hl 5 rfl) ?_
          refine lv_ldc (v := 65535) hx hb hown k_1 dX9_may_102 ?_
          refine lv_iand hx hb dX9_may_104 ?_
          refine lv_istore (lv' := [(6, .int (p1 &&& 65535)), (5, .int (p0 &&& 65535)), (4, .int (p1 >>> (16 &&& 31))), (3, .int (p0 >>> (16 &&& 31))), (0, .ref h0), (1, .int p0), (2, .int p1)]) hx hb dX9_may_105 hl (by decide) rfl (fun ls hl => ?_)
          refine lv_iload_n hx hb dX9_may_107 rfl (lv_at hl 3 rfl) ?_
          refine lv_iload hx hb dX9_may_108 (lv_at hl 2 rfl) ?_
          refine lv_icmp_ne (tgt := 144) hx hb dX9_may_110 (by decide) (fun c_5 => ?_) (fun c_5 => ?_)
          · skip
            refine lv_iload_n hx hb dX9_may_144 rfl (lv_at hl 3 rfl) ?_
            refine lv_iload hx hb dX9_may_145 (lv_at hl 2 rfl) ?_
            refine lv_icmp_le (tgt := 171) hx hb dX9_may_147 (by decide) (fun c_6 => ?_) (fun c_6 => ?_)
            · skip
              refine lv_iconst (v := 0) hx hb dX9_may_171 (by decide) ?_
              exact W.zret (ty := .boolean) hx hb hr rfl (fun t ht hW => ⟨⟨_, (), rfl, by rw [f_X9_may, if_neg c_1, if_pos c_2, if_pos c_3, if_neg c_4, if_neg c_5, if_pos c_6], trivial⟩, hS.F ht⟩) hS.2.2 dX9_may_172
            · skip
              refine lv_iload hx hb dX9_may_150 (lv_at hl 0 rfl) ?_
              refine lv_if_eq (tgt := 167) hx hb dX9_may_152 (by decide) (fun c_7 => ?_) (fun c_7 => ?_)
              · skip
                refine lv_iconst (v := 1) hx hb dX9_may_167 (by decide) ?_
                refine lv_goto (tgt := 172) hx hb dX9_may_168 (by decide) ?_
                exact W.zret (ty := .boolean) hx hb hr rfl (fun t ht hW => ⟨⟨_, (), rfl, by rw [f_X9_may, if_neg c_1, if_pos c_2, if_pos c_3, if_neg c_4, if_neg c_5, if_neg c_6, if_pos c_7], trivial⟩, hS.F ht⟩) hS.2.2 dX9_may_172
              · skip
                refine lv_iload hx hb dX9_may_155 (lv_at hl 0 rfl) ?_
                refine lv_iconst (v := 2) hx hb dX9_may_157 (by decide) ?_
                refine lv_icmp_eq (tgt := 167) hx hb dX9_may_158 (by decide) (fun c_8 => ?_) (fun c_8 => ?_)
                · skip
                  refine lv_iconst (v := 1) hx hb dX9_may_167 (by decide) ?_
                  refine lv_goto (tgt := 172) hx hb dX9_may_168 (by decide) ?_
                  exact W.zret (ty := .boolean) hx hb hr rfl (fun t ht hW => ⟨⟨_, (), rfl, by rw [f_X9_may, if_neg c_1, if_pos c_2, if_pos c_3, if_neg c_4, if_neg c_5, if_neg c_6, if_neg c_7, if_pos c_8], trivial⟩, hS.F ht⟩) hS.2.2 dX9_may_172
                · skip
                  refine lv_iload hx hb dX9_may_161 (lv_at hl 0 rfl) ?_
                  refine lv_iconst (v := 3) hx hb dX9_may_163 (by decide) ?_
                  refine lv_icmp_ne (tgt := 171) hx hb dX9_may_164 (by decide) (fun c_9 => ?_) (fun c_9 => ?_)
                  · skip
                    refine lv_iconst (v := 0) hx hb dX9_may_171 (by decide) ?_
                    exact W.zret (ty := .boolean) hx hb hr rfl (fun t ht hW => ⟨⟨_, (), rfl, by rw [f_X9_may, if_neg c_1, if_pos c_2, if_pos c_3, if_neg c_4, if_neg c_5, if_neg c_6, if_neg c_7, if_neg c_8, if_neg c_9], trivial⟩, hS.F ht⟩) hS.2.2 dX9_may_172
                  · skip
                    refine lv_iconst (v := 1) hx hb dX9_may_167 (by decide) ?_
                    refine lv_goto (tgt := 172) hx hb dX9_may_168 (by decide) ?_
                    exact W.zret (ty := .boolean) hx hb hr rfl (fun t ht hW => ⟨⟨_, (), rfl, by rw [f_X9_may, if_neg c_1, if_pos c_2, if_pos c_3, if_neg c_4, if_neg c_5, if_neg c_6, if_neg c_7, if_neg c_8, if_pos c_9], trivial⟩, hS.F ht⟩) hS.2.2 dX9_may_172
          · skip
            refine lv_iload hx hb dX9_may_113 (lv_at hl 1 rfl) ?_
            refine lv_ldc (v := 65528) hx hb hown k_2 dX9_may_115 ?_
            refine lv_icmp_ge (tgt := 142) hx hb dX9_may_117 (by decide) (fun c_10 => ?_) (fun c_10 => ?_)
            · skip
              refine lv_iconst (v := 0) hx hb dX9_may_142 (by decide) ?_
              exact W.zret (ty := .boolean) hx hb hr rfl (fun t ht hW => ⟨⟨_, (), rfl, by rw [f_X9_may, if_neg c_1, if_pos c_2, if_pos c_3, if_neg c_4, if_pos c_5, if_pos c_10], trivial⟩, hS.F ht⟩) hS.2.2 dX9_may_143
            · skip
              refine lv_iload hx hb dX9_may_120 (lv_at hl 0 rfl) ?_
              refine lv_ldc (v := 65528) hx hb hown k_2 dX9_may_122 ?_
              refine lv_icmp_ge (tgt := 142) hx hb dX9_may_124 (by decide) (fun c_11 => ?_) (fun c_11 => ?_)
              · skip
                refine lv_iconst (v := 0) hx hb dX9_may_142 (by decide) ?_
                exact W.zret (ty := .boolean) hx hb hr rfl (fun t ht hW => ⟨⟨_, (), rfl, by rw [f_X9_may, if_neg c_1, if_pos c_2, if_pos c_3, if_neg c_4, if_pos c_5, if_neg c_10, if_pos c_11], trivial⟩, hS.F ht⟩) hS.2.2 dX9_may_143
              · skip
                refine lv_aload_n hx hb dX9_may_127 rfl (lv_at hl 4 rfl) ?_
                refine lv_iload hx hb dX9_may_128 (lv_at hl 1 rfl) ?_
                refine lv_iload hx hb dX9_may_130 (lv_at hl 0 rfl) ?_
                have hPc := hP.sub (ws' := [(h0, .inr (9, [.int 0, .int 4, .int 0, .int 0, .ref a4, .ref a5, .ref a6, .ref a7, .ref a8, .ref a9, .ref a10, .ref a11, .ref a12, .int 0, .int 0, .int (-1), .int 0, .int 0, .int 0, .ref a19, .int 0, .int 0, .int 0, .ref a23, .ref a24, .ref a25, .ref a26, .ref a27, .ref a28, .ref a29, .ref a30, .ref a31, .ref a32, .ref a33, .ref a34, .int 0, .int 0, .ref a37, .ref a38, .ref a39, .ref a40, .ref a41, .int 0, .ref a43, .ref a44, .ref a45, .ref a46, .ref a47, .int 0, .int 0, .int 0, .int 0, .ref a52, .ref a53, .int 0, .int 0, .ref a56, .ref a57, .int 0, .ref a59, .ref a60, .ref a61])), (a4, .inl (cyI, 200, .inl x_up9)), (a5, .inl (cyZ, 200, .inl x_face))]) [0, 1, 2] rfl
                refine va_calli (va_runV (As := [.int (p0 &&& 65535), .int (p1 &&& 65535)]) (rest := []) ⟨hx, hb, hml, hown, hts⟩ (c_X9_may0 l dC dI cyI cyZ cyJ H.size h0 a4 a5 a6 a7 a8 a9 a10 a11 a12 a19 a23 a24 a25 a26 a27 a28 a29 a30 a31 a32 a33 a34 a37 a38 a39 a40 a41 a43 a44 a45 a46 a47 a52 a53 a56 a57 a59 a60 a61 (p0 &&& 65535) (p1 &&& 65535) (x_tym hs) (x_tym ht9) (x_m16 _)) (cwV 2 hts gX9_may_X9_may rfl rfl rfl (by decide +kernel) ⟨Nat.le_of_ble_eq_true rfl, Nat.le_of_ble_eq_true rfl⟩) (x_pV hN hK hPc (ci := 9) (q0 := 0) rfl rfl) rfl rfl hl.1 rfl (lv_room (Nat.le_of_ble_eq_true rfl)) dX9_may_132 ⟨Nat.le_of_ble_eq_true rfl, Nat.le_of_ble_eq_true rfl⟩) hS x_nA (x_nf hA hS) (fun r_132 u t H1 locs ht hvm hw hB hz1 hk1 hS => ?_)
                have hP := x_kp hP hk1
                clear ht hvm hB hz1 hk1 t u hPc
                generalize H1 = H at hP hS ⊢
                obtain rfl := hw
                refine lv_if_eq (tgt := 142) hx hb dX9_may_135 (by decide) (fun c_12 => ?_) (fun c_12 => ?_)
                · skip
                  refine lv_iconst (v := 0) hx hb dX9_may_142 (by decide) ?_
                  exact W.zret (ty := .boolean) hx hb hr rfl (fun t ht hW => ⟨⟨_, (), rfl, by rw [f_X9_may, if_neg c_1, if_pos c_2, if_pos c_3, if_neg c_4, if_pos c_5, if_neg c_10, if_neg c_11, if_pos c_12], trivial⟩, hS.F ht⟩) hS.2.2 dX9_may_143
                · skip
                  refine lv_iconst (v := 1) hx hb dX9_may_138 (by decide) ?_
                  refine lv_goto (tgt := 143) hx hb dX9_may_139 (by decide) ?_
                  exact W.zret (ty := .boolean) hx hb hr rfl (fun t ht hW => ⟨⟨_, (), rfl, by rw [f_X9_may, if_neg c_1, if_pos c_2, if_pos c_3, if_neg c_4, if_pos c_5, if_neg c_10, if_neg c_11, if_neg c_12], trivial⟩, hS.F ht⟩) hS.2.2 dX9_may_143
        · skip
          refine lv_iload_n hx hb dX9_may_41 rfl (lv_at hl 1 rfl) ?_
          refine lv_if_le (tgt := 67) hx hb dX9_may_42 (by decide) (fun c_13 => ?_) (fun c_13 => ?_)
          · skip
            refine lv_iload_n hx hb dX9_may_67 rfl (lv_at hl 4 rfl) ?_
            refine lv_if_eq (tgt := 89) hx hb dX9_may_68 (by decide) (fun c_14 => ?_) (fun c_14 => ?_)
            · skip
              refine lv_iconst (v := 1) hx hb dX9_may_89 (by decide) ?_
              refine lv_goto (tgt := 94) hx hb dX9_may_90 (by decide) ?_
              exact W.zret (ty := .boolean) hx hb hr rfl (fun t ht hW => ⟨⟨_, (), rfl, by rw [f_X9_may, if_neg c_1, if_pos c_2, if_pos c_3, if_pos c_4, if_pos c_13, if_pos c_14], trivial⟩, hS.F ht⟩) hS.2.2 dX9_may_94
            · skip
              refine lv_aload_n hx hb dX9_may_71 rfl (lv_at hl 2 rfl) ?_
              refine va_get (D := (dC, dI)) (ci := 9) (v := .ref a5) (C := RX9) (T := TX9) (N := 62) hx hb hts i_X9_may_X9 hown hK hP 0 rfl rfl 5 (by decide) k_3 (fun _ h9 => h9) rfl dX9_may_72 ?_
              refine lv_iload_n hx hb dX9_may_75 rfl (lv_at hl 4 rfl) ?_
              refine va_zald hx hb hK hP 2 1 rfl rfl (x_tyin ht9 (by assumption) (by assumption)) dX9_may_76 ?_
              refine lv_if_ne (tgt := 89) hx hb dX9_may_77 (by decide) (fun c_15 => ?_) (fun c_15 => ?_)
              · skip
                refine lv_iconst (v := 1) hx hb dX9_may_89 (by decide) ?_
                refine lv_goto (tgt := 94) hx hb dX9_may_90 (by decide) ?_
                exact W.zret (ty := .boolean) hx hb hr rfl (fun t ht hW => ⟨⟨_, (), rfl, by rw [f_X9_may, if_neg c_1, if_pos c_2, if_pos c_3, if_pos c_4, if_pos c_13, if_neg c_14, if_neg c_15], trivial⟩, hS.F ht⟩) hS.2.2 dX9_may_94
              · skip
                refine lv_aload_n hx hb dX9_may_80 rfl (lv_at hl 2 rfl) ?_
                refine lv_iload_n hx hb dX9_may_81 rfl (lv_at hl 3 rfl) ?_
                refine lv_iload_n hx hb dX9_may_82 rfl (lv_at hl 4 rfl) ?_
                have hPc := hP.sub (ws' := [(h0, .inr (9, [.int 0, .int 4, .int 0, .int 0, .ref a4, .ref a5, .ref a6, .ref a7, .ref a8, .ref a9, .ref a10, .ref a11, .ref a12, .int 0, .int 0, .int (-1), .int 0, .int 0, .int 0, .ref a19, .int 0, .int 0, .int 0, .ref a23, .ref a24, .ref a25, .ref a26, .ref a27, .ref a28, .ref a29, .ref a30, .ref a31, .ref a32, .ref a33, .ref a34, .int 0, .int 0, .ref a37, .ref a38, .ref a39, .ref a40, .ref a41, .int 0, .ref a43, .ref a44, .ref a45, .ref a46, .ref a47, .int 0, .int 0, .int 0, .int 0, .ref a52, .ref a53, .int 0, .int 0, .ref a56, .ref a57, .int 0, .ref a59, .ref a60, .ref a61])), (a4, .inl (cyI, 200, .inl x_up9))]) [0, 1] rfl
                refine va_calli (va_runV (As := [.int p0, .int p1]) (rest := []) ⟨hx, hb, hml, hown, hts⟩ (c_X9_below l dC dI cyI cyZ cyJ H.size h0 a4 a5 a6 a7 a8 a9 a10 a11 a12 a19 a23 a24 a25 a26 a27 a28 a29 a30 a31 a32 a33 a34 a37 a38 a39 a40 a41 a43 a44 a45 a46 a47 a52 a53 a56 a57 a59 a60 a61 p0 p1 (x_tyc hs (by assumption) (by assumption)).1 (x_tyc hs (by assumption) (by assumption)).2) (cwV 2 hts gX9_may_X9_below rfl rfl rfl (by decide +kernel) ⟨Nat.le_of_ble_eq_true rfl, Nat.le_of_ble_eq_true rfl⟩) (x_pV hN hK hPc (ci := 9) (q0 := 0) rfl rfl) rfl rfl hl.1 rfl (lv_room (Nat.le_of_ble_eq_true rfl)) dX9_may_83 ⟨Nat.le_of_ble_eq_true rfl, Nat.le_of_ble_eq_true rfl⟩) hS x_nA (x_nf hA hS) (fun r_83 u t H1 locs ht hvm hw hB hz1 hk1 hS => ?_)
                have hP := x_kp hP hk1
                clear ht hvm hB hz1 hk1 t u hPc
                generalize H1 = H at hP hS ⊢
                obtain rfl := hw
                refine lv_if_eq (tgt := 93) hx hb dX9_may_86 (by decide) (fun c_16 => ?_) (fun c_16 => ?_)
                · skip
                  refine lv_iconst (v := 0) hx hb dX9_may_93 (by decide) ?_
                  exact W.zret (ty := .boolean) hx hb hr rfl (fun t ht hW => ⟨⟨_, (), rfl, by rw [f_X9_may, if_neg c_1, if_pos c_2, if_pos c_3, if_pos c_4, if_pos c_13, if_neg c_14, if_pos c_15, if_pos c_16], trivial⟩, hS.F ht⟩) hS.2.2 dX9_may_94
                · skip
                  refine lv_iconst (v := 1) hx hb dX9_may_89 (by decide) ?_
                  refine lv_goto (tgt := 94) hx hb dX9_may_90 (by decide) ?_
                  exact W.zret (ty := .boolean) hx hb hr rfl (fun t ht hW => ⟨⟨_, (), rfl, by rw [f_X9_may, if_neg c_1, if_pos c_2, if_pos c_3, if_pos c_4, if_pos c_13, if_neg c_14, if_pos c_15, if_neg c_16], trivial⟩, hS.F ht⟩) hS.2.2 dX9_may_94
          · skip
            refine lv_iload_n hx hb dX9_may_45 rfl (lv_at hl 4 rfl) ?_
            refine lv_if_eq (tgt := 59) hx hb dX9_may_46 (by decide) (fun c_17 => ?_) (fun c_17 => ?_)
            · skip
              refine lv_iconst (v := 1) hx hb dX9_may_59 (by decide) ?_
              refine lv_goto (tgt := 94) hx hb dX9_may_60 (by decide) ?_
              exact W.zret (ty := .boolean) hx hb hr rfl (fun t ht hW => ⟨⟨_, (), rfl, by rw [f_X9_may, if_neg c_1, if_pos c_2, if_pos c_3, if_pos c_4, if_neg c_13, if_pos c_17], trivial⟩, hS.F ht⟩) hS.2.2 dX9_may_94
            · skip
              refine lv_iload_n hx hb dX9_may_49 rfl (lv_at hl 4 rfl) ?_
              refine lv_iconst (v := 2) hx hb dX9_may_50 (by decide) ?_
              refine lv_icmp_eq (tgt := 59) hx hb dX9_may_51 (by decide) (fun c_18 => ?_) (fun c_18 => ?_)
              · skip
                refine lv_iconst (v := 1) hx hb dX9_may_59 (by decide) ?_
                refine lv_goto (tgt := 94) hx hb dX9_may_60 (by decide) ?_
                exact W.zret (ty := .boolean) hx hb hr rfl (fun t ht hW => ⟨⟨_, (), rfl, by rw [f_X9_may, if_neg c_1, if_pos c_2, if_pos c_3, if_pos c_4, if_neg c_13, if_neg c_17, if_pos c_18], trivial⟩, hS.F ht⟩) hS.2.2 dX9_may_94
              · skip
                refine lv_iload_n hx hb dX9_may_54 rfl (lv_at hl 4 rfl) ?_
                refine lv_iconst (v := 3) hx hb dX9_may_55 (by decide) ?_
                refine lv_icmp_ne (tgt := 63) hx hb dX9_may_56 (by decide) (fun c_19 => ?_) (fun c_19 => ?_)
                · skip
                  refine lv_iconst (v := 0) hx hb dX9_may_63 (by decide) ?_
                  refine lv_goto (tgt := 94) hx hb dX9_may_64 (by decide) ?_
                  exact W.zret (ty := .boolean) hx hb hr rfl (fun t ht hW => ⟨⟨_, (), rfl, by rw [f_X9_may, if_neg c_1, if_pos c_2, if_pos c_3, if_pos c_4, if_neg c_13, if_neg c_17, if_neg c_18, if_neg c_19], trivial⟩, hS.F ht⟩) hS.2.2 dX9_may_94
                · skip
                  refine lv_iconst (v := 1) hx hb dX9_may_59 (by decide) ?_
                  refine lv_goto (tgt := 94) hx hb dX9_may_60 (by decide) ?_
                  exact W.zret (ty := .boolean) hx hb hr rfl (fun t ht hW => ⟨⟨_, (), rfl, by rw [f_X9_may, if_neg c_1, if_pos c_2, if_pos c_3, if_pos c_4, if_neg c_13, if_neg c_17, if_neg c_18, if_pos c_19], trivial⟩, hS.F ht⟩) hS.2.2 dX9_may_94
      · skip
        refine lv_iconst (v := 0) hx hb dX9_may_23 (by decide) ?_
        exact W.zret (ty := .boolean) hx hb hr rfl (fun t ht hW => ⟨⟨_, (), rfl, by rw [f_X9_may, if_neg c_1, if_pos c_2, if_neg c_3], trivial⟩, hS.F ht⟩) hS.2.2 dX9_may_24
  · skip
    refine lv_iconst (v := 1) hx hb dX9_may_5 (by decide) ?_
    exact W.zret (ty := .boolean) hx hb hr rfl (fun t ht hW => ⟨⟨_, (), rfl, by rw [f_X9_may, if_pos c_1], trivial⟩, hS.F ht⟩) hS.2.2 dX9_may_6

def f_X9_shared0 (p0 : Int32) (p1 : Int32) : Int32 := if p0 = p1 then p0 else if (x_face (Int32.toNatClampNeg (p0 &&& 65535))) = (0 : Int32) then if (x_face (Int32.toNatClampNeg (p1 &&& 65535))) = (0 : Int32) then if (f_X9_below (p1 &&& 65535) (p0 &&& 65535)) = (0 : Int32) then 0 else (p0 &&& 65535) else 0 else 0
theorem i_X9_shared0_X9 : ∀ w ∈ wsX90, w ∈ wsX9_shared := by decide +kernel
set_option maxHeartbeats 4000000 in
set_option maxRecDepth 100000 in
theorem c_X9_shared0 (l : Launch) (dC : Nat → ClassId) (dI : Nat → Nat → Nat) (cyI cyZ cyJ : ClassId) (sz : Nat) (h0 : Nat) (a4 : Nat) (a5 : Nat) (a6 : Nat) (a7 : Nat) (a8 : Nat) (a9 : Nat) (a10 : Nat) (a11 : Nat) (a12 : Nat) (a19 : Nat) (a23 : Nat) (a24 : Nat) (a25 : Nat) (a26 : Nat) (a27 : Nat) (a28 : Nat) (a29 : Nat) (a30 : Nat) (a31 : Nat) (a32 : Nat) (a33 : Nat) (a34 : Nat) (a37 : Nat) (a38 : Nat) (a39 : Nat) (a40 : Nat) (a41 : Nat) (a43 : Nat) (a44 : Nat) (a45 : Nat) (a46 : Nat) (a47 : Nat) (a52 : Nat) (a53 : Nat) (a56 : Nat) (a57 : Nat) (a59 : Nat) (a60 : Nat) (a61 : Nat) (p0 : Int32) (p1 : Int32) (hs : ¬ f_X9_isType p0 = 0) (ht9 : ¬ f_X9_isType p1 = 0) (hp0 : f_X9_isPrimitive p0 = 0) (hp1 : f_X9_isPrimitive p1 = 0) (hm0 : p0 >>> (16 &&& 31) = 0) (hn0 : p1 >>> (16 &&& 31) = 0) : Met l yX9_shared wsX9_shared ({ frames := 1, cells := 0, slots := 0, locals := 23 }) (va_Pc [.ref h0, .int p0, .int p1] (x_Pre (dC, dI) (x_T cyI cyZ cyJ) [(h0, .inr (9, [.int 0, .int 4, .int 0, .int 0, .ref a4, .ref a5, .ref a6, .ref a7, .ref a8, .ref a9, .ref a10, .ref a11, .ref a12, .int 0, .int 0, .int (-1), .int 0, .int 0, .int 0, .ref a19, .int 0, .int 0, .int 0, .ref a23, .ref a24, .ref a25, .ref a26, .ref a27, .ref a28, .ref a29, .ref a30, .ref a31, .ref a32, .ref a33, .ref a34, .int 0, .int 0, .ref a37, .ref a38, .ref a39, .ref a40, .ref a41, .int 0, .ref a43, .ref a44, .ref a45, .ref a46, .ref a47, .int 0, .int 0, .int 0, .int 0, .ref a52, .ref a53, .int 0, .int 0, .ref a56, .ref a57, .int 0, .ref a59, .ref a60, .ref a61])), (a4, .inl (cyI, 200, .inl x_up9)), (a5, .inl (cyZ, 200, .inl x_face))] sz)) (va_Qi (fun (r : Int32) (_ : Unit) => r = f_X9_shared0 p0 p1) (fun _ _ => True) (x_new sz)) 0 0 (x_new sz) := by
  refine Met.ofW (cc := cX9_shared) (maxL := 8) (ret := (some .int)) (by decide) rfl ?_
  intro p e s m args below meth c s₁ B hml hv
  obtain ⟨rfl, hsz, hP, hK, hN⟩ := hv
  have hx := B.exec
  have hb := B.bytes
  have hr := B.returns
  have hts := atoms_spec (ws := wsX9_shared) B.pre
  have hown : s.vm.findClass RX9 = some m.cls := findClass_of_methodNamed B.named
  have hlocks := B.notSynchronized
  have k_1 := hts (.constant RX9 142 (65535)) (by decide +kernel)
  have k_2 := hts (.fieldLink RX9 20 "FlowJudgeModel" "face" "[Z") (by decide +kernel)
  have k_3 := hts (.fieldLink RX9 16 "FlowJudgeModel" "up" "[I") (by decide +kernel)
  subst hsz
  have hA : ∀ q : Nat, s.heap.size ≤ q → x_new s.heap.size q := fun _ h => h
  have hS : va_S (x_new s.heap.size) s.heap s.heap [] := va_S.rf
  have hP : va_P (dC, dI) vwCl [(h0, .inr (9, [.int 0, .int 4, .int 0, .int 0, .ref a4, .ref a5, .ref a6, .ref a7, .ref a8, .ref a9, .ref a10, .ref a11, .ref a12, .int 0, .int 0, .int (-1), .int 0, .int 0, .int 0, .ref a19, .int 0, .int 0, .int 0, .ref a23, .ref a24, .ref a25, .ref a26, .ref a27, .ref a28, .ref a29, .ref a30, .ref a31, .ref a32, .ref a33, .ref a34, .int 0, .int 0, .ref a37, .ref a38, .ref a39, .ref a40, .ref a41, .int 0, .ref a43, .ref a44, .ref a45, .ref a46, .ref a47, .int 0, .int 0, .int 0, .int 0, .ref a52, .ref a53, .int 0, .int 0, .ref a56, .ref a57, .int 0, .ref a59, .ref a60, .ref a61])), (a4, .inl (cyI, 200, .inl x_up9)), (a5, .inl (cyZ, 200, .inl x_face))] s.heap := hP
  have hl := lv_entry ([.ref h0, .int p0, .int p1]) (n := 8) (Nat.le_of_ble_eq_true rfl)
  rw [lg_entry_eq]
  generalize (lg_sl ([.ref h0, .int p0, .int p1]) ++ List.replicate (8 - (lg_sl ([.ref h0, .int p0, .int p1])).length) Slot.unset).toArray = ls at hl ⊢
  have hl : lv_has ls 8 [(0, .ref h0), (1, .int p0), (2, .int p1)] := hl
  obtain ⟨H, hH⟩ : ∃ z, z = s.heap := ⟨_, rfl⟩
  refine x_here hH ?_
  have hP : va_P (dC, dI) vwCl [(h0, .inr (9, [.int 0, .int 4, .int 0, .int 0, .ref a4, .ref a5, .ref a6, .ref a7, .ref a8, .ref a9, .ref a10, .ref a11, .ref a12, .int 0, .int 0, .int (-1), .int 0, .int 0, .int 0, .ref a19, .int 0, .int 0, .int 0, .ref a23, .ref a24, .ref a25, .ref a26, .ref a27, .ref a28, .ref a29, .ref a30, .ref a31, .ref a32, .ref a33, .ref a34, .int 0, .int 0, .ref a37, .ref a38, .ref a39, .ref a40, .ref a41, .int 0, .ref a43, .ref a44, .ref a45, .ref a46, .ref a47, .int 0, .int 0, .int 0, .int 0, .ref a52, .ref a53, .int 0, .int 0, .ref a56, .ref a57, .int 0, .ref a59, .ref a60, .ref a61])), (a4, .inl (cyI, 200, .inl x_up9)), (a5, .inl (cyZ, 200, .inl x_face))] H := by rw [hH]; exact hP
  have hS : va_S (x_new s.heap.size) s.heap H [] := by rw [hH]; exact va_S.rf
  clear hH
  refine lv_iload_n hx hb dX9_shared_0 rfl (lv_at hl 1 rfl) ?_
  refine lv_iload_n hx hb dX9_shared_1 rfl (lv_at hl 2 rfl) ?_
  refine lv_icmp_ne (tgt := 7) hx hb dX9_shared_2 (by decide) (fun c_1 => ?_) (fun c_1 => ?_)
  · skip
    refine lv_iload_n hx hb dX9_shared_7 rfl (lv_at hl 1 rfl) ?_
    refine lv_bipush (v := 16) hx hb dX9_shared_8 (by decide) ?_
    refine lv_ishr hx hb dX9_shared_10 ?_
    refine lv_istore_n (lv' := [(3, .int (p0 >>> (16 &&& 31))), (0, .ref h0), (1, .int p0), (2, .int p1)]) hx hb dX9_shared_11 rfl hl (by decide) rfl (fun ls hl => ?_)
    refine lv_iload_n hx hb dX9_shared_12 rfl (lv_at hl 3 rfl) ?_
    refine lv_bipush (v := 16) hx hb dX9_shared_13 (by decide) ?_
    refine lv_ishr hx hb dX9_shared_15 ?_
    refine lv_istore (lv' := [(4, .int (p1 >>> (16 &&& 31))), (3, .int (p0 >>> (16 &&& 31))), (0, .ref h0), (1, .int p0), (2, .int p1)]) hx hb dX9_shared_16 hl (by decide) rfl (fun ls hl => ?_)
    refine lv_iload_n hx hb dX9_shared_18 rfl (lv_at hl 3 rfl) ?_
    refine lv_ldc (v := 65535) hx hb hown k_1 dX9_shared_19 ?_
    refine lv_iand hx hb dX9_shared_21 ?_
    refine lv_istore (lv' := [(5, .int (p0 &&& 65535)), (4, .int (p1 >>> (16 &&& 31))), (3, .int (p0 >>> (16 &&& 31))), (0, .ref h0), (1, .int p0), (2, .int p1)]) hx hb dX9_shared_22 hl (by decide) rfl (fun ls hl => ?_)
    refine lv_iload_n hx hb dX9_shared_24 rfl (lv_at hl 5 rfl) ?_
    refine lv_ldc (v := 65535) hx hb hown k_1 dX9_shared_25 ?_
    refine lv_iand hx hb dX9_shared_27 ?_
    refine lv_istore (lv' := [(6, .int (p1 &&& 65535)), (5, .int (p0 &&& 65535)), (4, .int (p1 >>> (16 &&& 31))), (3, .int (p0 >>> (16 &&& 31))), (0, .ref h0), (1, .int p0), (2, .int p1)]) hx hb dX9_shared_28 hl (by decide) rfl (fun ls hl => ?_)
    refine lv_iload_n hx hb dX9_shared_30 rfl (lv_at hl 3 rfl) ?_
    refine lv_if_ne (tgt := 91) hx hb dX9_shared_31 (by decide) (fun c_2 => ?_) (fun c_2 => ?_)
    · exact absurd hm0 c_2
    · skip
      refine lv_iload hx hb dX9_shared_34 (lv_at hl 2 rfl) ?_
      refine lv_if_ne (tgt := 91) hx hb dX9_shared_36 (by decide) (fun c_3 => ?_) (fun c_3 => ?_)
      · exact absurd hn0 c_3
      · skip
        refine lv_aload_n hx hb dX9_shared_39 rfl (lv_at hl 4 rfl) ?_
        refine va_get (D := (dC, dI)) (ci := 9) (v := .ref a5) (C := RX9) (T := TX9) (N := 62) hx hb hts i_X9_shared0_X9 hown hK hP 0 rfl rfl 5 (by decide) k_2 (fun _ h9 => h9) rfl dX9_shared_40 ?_
        refine lv_iload hx hb dX9_shared_43 (lv_at hl 1 rfl) ?_
        refine va_zald hx hb hK hP 2 1 rfl rfl (x_tyinm hs hp0 (by assumption)) dX9_shared_45 ?_
        refine lv_if_ne (tgt := 59) hx hb dX9_shared_46 (by decide) (fun c_4 => ?_) (fun c_4 => ?_)
        · skip
          refine lv_iconst (v := 0) hx hb dX9_shared_59 (by decide) ?_
          exact W.iret hx hb hr (fun t ht hW => ⟨⟨_, (), rfl, by rw [f_X9_shared0, if_neg c_1, if_neg c_4], trivial⟩, hS.F ht⟩) hS.2.2 dX9_shared_60
        · skip
          refine lv_aload_n hx hb dX9_shared_49 rfl (lv_at hl 4 rfl) ?_
          refine va_get (D := (dC, dI)) (ci := 9) (v := .ref a5) (C := RX9) (T := TX9) (N := 62) hx hb hts i_X9_shared0_X9 hown hK hP 0 rfl rfl 5 (by decide) k_2 (fun _ h9 => h9) rfl dX9_shared_50 ?_
          refine lv_iload hx hb dX9_shared_53 (lv_at hl 0 rfl) ?_
          refine va_zald hx hb hK hP 2 1 rfl rfl (x_tyinm ht9 hp1 (by assumption)) dX9_shared_55 ?_
          refine lv_if_eq (tgt := 61) hx hb dX9_shared_56 (by decide) (fun c_5 => ?_) (fun c_5 => ?_)
          · skip
            refine lv_iload hx hb dX9_shared_61 (lv_at hl 1 rfl) ?_
            refine lv_istore (lv' := [(7, .int (p0 &&& 65535)), (6, .int (p1 &&& 65535)), (5, .int (p0 &&& 65535)), (4, .int (p1 >>> (16 &&& 31))), (3, .int (p0 >>> (16 &&& 31))), (0, .ref h0), (1, .int p0), (2, .int p1)]) hx hb dX9_shared_63 hl (by decide) rfl (fun ls hl => ?_)
            refine lv_aload_n hx hb dX9_shared_65 rfl (lv_at hl 5 rfl) ?_
            refine lv_iload hx hb dX9_shared_66 (lv_at hl 1 rfl) ?_
            refine lv_iload hx hb dX9_shared_68 (lv_at hl 0 rfl) ?_
            have hPc := hP.sub (ws' := [(h0, .inr (9, [.int 0, .int 4, .int 0, .int 0, .ref a4, .ref a5, .ref a6, .ref a7, .ref a8, .ref a9, .ref a10, .ref a11, .ref a12, .int 0, .int 0, .int (-1), .int 0, .int 0, .int 0, .ref a19, .int 0, .int 0, .int 0, .ref a23, .ref a24, .ref a25, .ref a26, .ref a27, .ref a28, .ref a29, .ref a30, .ref a31, .ref a32, .ref a33, .ref a34, .int 0, .int 0, .ref a37, .ref a38, .ref a39, .ref a40, .ref a41, .int 0, .ref a43, .ref a44, .ref a45, .ref a46, .ref a47, .int 0, .int 0, .int 0, .int 0, .ref a52, .ref a53, .int 0, .int 0, .ref a56, .ref a57, .int 0, .ref a59, .ref a60, .ref a61])), (a4, .inl (cyI, 200, .inl x_up9))]) [0, 1] rfl
            refine va_calli (va_runV (As := [.int (p1 &&& 65535), .int (p0 &&& 65535)]) (rest := []) ⟨hx, hb, hml, hown, hts⟩ (c_X9_below l dC dI cyI cyZ cyJ H.size h0 a4 a5 a6 a7 a8 a9 a10 a11 a12 a19 a23 a24 a25 a26 a27 a28 a29 a30 a31 a32 a33 a34 a37 a38 a39 a40 a41 a43 a44 a45 a46 a47 a52 a53 a56 a57 a59 a60 a61 (p1 &&& 65535) (p0 &&& 65535) (x_tycm ht9 hp1 (by assumption)).1 (x_tycm ht9 hp1 (by assumption)).2) (cwV 2 hts gX9_shared_X9_below rfl rfl rfl (by decide +kernel) ⟨Nat.le_of_ble_eq_true rfl, Nat.le_of_ble_eq_true rfl⟩) (x_pV hN hK hPc (ci := 9) (q0 := 0) rfl rfl) rfl rfl hl.1 rfl (lv_room (Nat.le_of_ble_eq_true rfl)) dX9_shared_70 ⟨Nat.le_of_ble_eq_true rfl, Nat.le_of_ble_eq_true rfl⟩) hS x_nA (x_nf hA hS) (fun r_70 u t H1 locs ht hvm hw hB hz1 hk1 hS => ?_)
            have hP := x_kp hP hk1
            clear ht hvm hB hz1 hk1 t u hPc
            generalize H1 = H at hP hS ⊢
            obtain rfl := hw
            refine lv_if_ne (tgt := 88) hx hb dX9_shared_73 (by decide) (fun c_6 => ?_) (fun c_6 => ?_)
            · skip
              refine lv_iload hx hb dX9_shared_88 (lv_at hl 0 rfl) ?_
              exact W.iret hx hb hr (fun t ht hW => ⟨⟨_, (), rfl, by rw [f_X9_shared0, if_neg c_1, if_pos c_4, if_pos c_5, if_neg c_6], trivial⟩, hS.F ht⟩) hS.2.2 dX9_shared_90
            · skip
              refine lv_aload_n hx hb dX9_shared_76 rfl (lv_at hl 5 rfl) ?_
              refine va_get (D := (dC, dI)) (ci := 9) (v := .ref a4) (C := RX9) (T := TX9) (N := 62) hx hb hts i_X9_shared0_X9 hown hK hP 0 rfl rfl 4 (by decide) k_3 (fun _ h9 => h9) rfl dX9_shared_77 ?_
              refine lv_iload hx hb dX9_shared_80 (lv_at hl 0 rfl) ?_
              refine va_iald hx hb hK hP 1 0 rfl rfl (x_tyinm hs hp0 (by assumption)) dX9_shared_82 ?_
              refine lv_topi (fun z_7 ez_7 => ?_)
              rcases Classical.em ((p0 &&& 65535) = 0) with c_7 | c_7
              · exact absurd (by assumption) (show ¬ f_X9_below (p1 &&& 65535) (p0 &&& 65535) = 0 by rw [c_7]; exact x_bel0 (x_tycm ht9 hp1 (by assumption)).1 (x_tycm ht9 hp1 (by assumption)).2)
              obtain rfl : z_7 = 0 := ez_7.trans (x_up9n (x_tyinm hs hp0 (by assumption)) c_7)
              refine lv_istore (lv' := [(7, .int 0), (6, .int (p1 &&& 65535)), (5, .int (p0 &&& 65535)), (4, .int (p1 >>> (16 &&& 31))), (3, .int (p0 >>> (16 &&& 31))), (0, .ref h0), (1, .int p0), (2, .int p1)]) hx hb dX9_shared_83 hl (by decide) rfl (fun ls hl => ?_)
              refine lv_goto (tgt := 65) hx hb dX9_shared_85 (by decide) ?_
              refine lv_aload_n hx hb dX9_shared_65 rfl (lv_at hl 5 rfl) ?_
              refine lv_iload hx hb dX9_shared_66 (lv_at hl 1 rfl) ?_
              refine lv_iload hx hb dX9_shared_68 (lv_at hl 0 rfl) ?_
              have hPc := hP.sub (ws' := [(h0, .inr (9, [.int 0, .int 4, .int 0, .int 0, .ref a4, .ref a5, .ref a6, .ref a7, .ref a8, .ref a9, .ref a10, .ref a11, .ref a12, .int 0, .int 0, .int (-1), .int 0, .int 0, .int 0, .ref a19, .int 0, .int 0, .int 0, .ref a23, .ref a24, .ref a25, .ref a26, .ref a27, .ref a28, .ref a29, .ref a30, .ref a31, .ref a32, .ref a33, .ref a34, .int 0, .int 0, .ref a37, .ref a38, .ref a39, .ref a40, .ref a41, .int 0, .ref a43, .ref a44, .ref a45, .ref a46, .ref a47, .int 0, .int 0, .int 0, .int 0, .ref a52, .ref a53, .int 0, .int 0, .ref a56, .ref a57, .int 0, .ref a59, .ref a60, .ref a61])), (a4, .inl (cyI, 200, .inl x_up9))]) [0, 1] rfl
              refine va_calli (va_runV (As := [.int (p1 &&& 65535), .int 0]) (rest := []) ⟨hx, hb, hml, hown, hts⟩ (c_X9_below l dC dI cyI cyZ cyJ H.size h0 a4 a5 a6 a7 a8 a9 a10 a11 a12 a19 a23 a24 a25 a26 a27 a28 a29 a30 a31 a32 a33 a34 a37 a38 a39 a40 a41 a43 a44 a45 a46 a47 a52 a53 a56 a57 a59 a60 a61 (p1 &&& 65535) 0 (x_tycm ht9 hp1 (by assumption)).1 (x_tycm ht9 hp1 (by assumption)).2) (cwV 2 hts gX9_shared_X9_below rfl rfl rfl (by decide +kernel) ⟨Nat.le_of_ble_eq_true rfl, Nat.le_of_ble_eq_true rfl⟩) (x_pV hN hK hPc (ci := 9) (q0 := 0) rfl rfl) rfl rfl hl.1 rfl (lv_room (Nat.le_of_ble_eq_true rfl)) dX9_shared_70 ⟨Nat.le_of_ble_eq_true rfl, Nat.le_of_ble_eq_true rfl⟩) hS x_nA (x_nf hA hS) (fun r_70 u t H1 locs ht hvm hw hB hz1 hk1 hS => ?_)
              have hP := x_kp hP hk1
              clear ht hvm hB hz1 hk1 t u hPc
              generalize H1 = H at hP hS ⊢
              obtain rfl := hw
              refine lv_if_ne (tgt := 88) hx hb dX9_shared_73 (by decide) (fun c_8 => ?_) (fun c_8 => ?_)
              · skip
                refine lv_iload hx hb dX9_shared_88 (lv_at hl 0 rfl) ?_
                exact W.iret hx hb hr (fun t ht hW => ⟨⟨_, (), rfl, by rw [f_X9_shared0, if_neg c_1, if_pos c_4, if_pos c_5, if_pos c_6], trivial⟩, hS.F ht⟩) hS.2.2 dX9_shared_90
              · exact absurd c_8 (x_bel0 (x_tycm ht9 hp1 (by assumption)).1 (x_tycm ht9 hp1 (by assumption)).2)
          · skip
            refine lv_iconst (v := 0) hx hb dX9_shared_59 (by decide) ?_
            exact W.iret hx hb hr (fun t ht hW => ⟨⟨_, (), rfl, by rw [f_X9_shared0, if_neg c_1, if_pos c_4, if_neg c_5], trivial⟩, hS.F ht⟩) hS.2.2 dX9_shared_60
  · skip
    refine lv_iload_n hx hb dX9_shared_5 rfl (lv_at hl 1 rfl) ?_
    exact W.iret hx hb hr (fun t ht hW => ⟨⟨_, (), rfl, by rw [f_X9_shared0, if_pos c_1], trivial⟩, hS.F ht⟩) hS.2.2 dX9_shared_6

def f_X9_shared (p0 : Int32) (p1 : Int32) : Int32 := if p0 = p1 then p0 else if (p0 >>> (16 &&& 31)) = (0 : Int32) then if (p1 >>> (16 &&& 31)) = (0 : Int32) then if (x_face (Int32.toNatClampNeg (p0 &&& 65535))) = (0 : Int32) then if (x_face (Int32.toNatClampNeg (p1 &&& 65535))) = (0 : Int32) then if (f_X9_below (p1 &&& 65535) (p0 &&& 65535)) = (0 : Int32) then 0 else (p0 &&& 65535) else 0 else 0 else if (p0 >>> (16 &&& 31)) = (0 : Int32) then 0 else if (p1 >>> (16 &&& 31)) = (0 : Int32) then 0 else if (p0 >>> (16 &&& 31)) = (p1 >>> (16 &&& 31)) then if (65528 : Int32) ≤ (p0 &&& 65535) then if (p0 &&& 65535) < (65528 : Int32) then if (p1 &&& 65535) < (65528 : Int32) then ((65536 : Int32) * (if (p1 >>> (16 &&& 31)) < (p0 >>> (16 &&& 31)) then (p1 >>> (16 &&& 31)) else (p0 >>> (16 &&& 31)))) else ((65536 : Int32) * (if ((p1 >>> (16 &&& 31)) - (1 : Int32)) < (p0 >>> (16 &&& 31)) then ((p1 >>> (16 &&& 31)) - (1 : Int32)) else (p0 >>> (16 &&& 31)))) else if (p1 &&& 65535) < (65528 : Int32) then ((65536 : Int32) * (if (p1 >>> (16 &&& 31)) < ((p0 >>> (16 &&& 31)) - (1 : Int32)) then (p1 >>> (16 &&& 31)) else ((p0 >>> (16 &&& 31)) - (1 : Int32)))) else ((65536 : Int32) * (if ((p1 >>> (16 &&& 31)) - (1 : Int32)) < ((p0 >>> (16 &&& 31)) - (1 : Int32)) then ((p1 >>> (16 &&& 31)) - (1 : Int32)) else ((p0 >>> (16 &&& 31)) - (1 : Int32)))) else if (65528 : Int32) ≤ (p1 &&& 65535) then if (p0 &&& 65535) < (65528 : Int32) then if (p1 &&& 65535) < (65528 : Int32) then ((65536 : Int32) * (if (p1 >>> (16 &&& 31)) < (p0 >>> (16 &&& 31)) then (p1 >>> (16 &&& 31)) else (p0 >>> (16 &&& 31)))) else ((65536 : Int32) * (if ((p1 >>> (16 &&& 31)) - (1 : Int32)) < (p0 >>> (16 &&& 31)) then ((p1 >>> (16 &&& 31)) - (1 : Int32)) else (p0 >>> (16 &&& 31)))) else if (p1 &&& 65535) < (65528 : Int32) then ((65536 : Int32) * (if (p1 >>> (16 &&& 31)) < ((p0 >>> (16 &&& 31)) - (1 : Int32)) then (p1 >>> (16 &&& 31)) else ((p0 >>> (16 &&& 31)) - (1 : Int32)))) else ((65536 : Int32) * (if ((p1 >>> (16 &&& 31)) - (1 : Int32)) < ((p0 >>> (16 &&& 31)) - (1 : Int32)) then ((p1 >>> (16 &&& 31)) - (1 : Int32)) else ((p0 >>> (16 &&& 31)) - (1 : Int32)))) else ((f_X9_shared0 (p0 &&& 65535) (p1 &&& 65535)) + ((65536 : Int32) * (p0 >>> (16 &&& 31)))) else if (p0 &&& 65535) < (65528 : Int32) then if (p1 &&& 65535) < (65528 : Int32) then ((65536 : Int32) * (if (p1 >>> (16 &&& 31)) < (p0 >>> (16 &&& 31)) then (p1 >>> (16 &&& 31)) else (p0 >>> (16 &&& 31)))) else ((65536 : Int32) * (if ((p1 >>> (16 &&& 31)) - (1 : Int32)) < (p0 >>> (16 &&& 31)) then ((p1 >>> (16 &&& 31)) - (1 : Int32)) else (p0 >>> (16 &&& 31)))) else if (p1 &&& 65535) < (65528 : Int32) then ((65536 : Int32) * (if (p1 >>> (16 &&& 31)) < ((p0 >>> (16 &&& 31)) - (1 : Int32)) then (p1 >>> (16 &&& 31)) else ((p0 >>> (16 &&& 31)) - (1 : Int32)))) else ((65536 : Int32) * (if ((p1 >>> (16 &&& 31)) - (1 : Int32)) < ((p0 >>> (16 &&& 31)) - (1 : Int32)) then ((p1 >>> (16 &&& 31)) - (1 : Int32)) else ((p0 >>> (16 &&& 31)) - (1 : Int32)))) else if (p0 >>> (16 &&& 31)) = (0 : Int32) then 0 else if (p1 >>> (16 &&& 31)) = (0 : Int32) then 0 else if (p0 >>> (16 &&& 31)) = (p1 >>> (16 &&& 31)) then if (65528 : Int32) ≤ (p0 &&& 65535) then if (p0 &&& 65535) < (65528 : Int32) then if (p1 &&& 65535) < (65528 : Int32) then ((65536 : Int32) * (if (p1 >>> (16 &&& 31)) < (p0 >>> (16 &&& 31)) then (p1 >>> (16 &&& 31)) else (p0 >>> (16 &&& 31)))) else ((65536 : Int32) * (if ((p1 >>> (16 &&& 31)) - (1 : Int32)) < (p0 >>> (16 &&& 31)) then ((p1 >>> (16 &&& 31)) - (1 : Int32)) else (p0 >>> (16 &&& 31)))) else if (p1 &&& 65535) < (65528 : Int32) then ((65536 : Int32) * (if (p1 >>> (16 &&& 31)) < ((p0 >>> (16 &&& 31)) - (1 : Int32)) then (p1 >>> (16 &&& 31)) else ((p0 >>> (16 &&& 31)) - (1 : Int32)))) else ((65536 : Int32) * (if ((p1 >>> (16 &&& 31)) - (1 : Int32)) < ((p0 >>> (16 &&& 31)) - (1 : Int32)) then ((p1 >>> (16 &&& 31)) - (1 : Int32)) else ((p0 >>> (16 &&& 31)) - (1 : Int32)))) else if (65528 : Int32) ≤ (p1 &&& 65535) then if (p0 &&& 65535) < (65528 : Int32) then if (p1 &&& 65535) < (65528 : Int32) then ((65536 : Int32) * (if (p1 >>> (16 &&& 31)) < (p0 >>> (16 &&& 31)) then (p1 >>> (16 &&& 31)) else (p0 >>> (16 &&& 31)))) else ((65536 : Int32) * (if ((p1 >>> (16 &&& 31)) - (1 : Int32)) < (p0 >>> (16 &&& 31)) then ((p1 >>> (16 &&& 31)) - (1 : Int32)) else (p0 >>> (16 &&& 31)))) else if (p1 &&& 65535) < (65528 : Int32) then ((65536 : Int32) * (if (p1 >>> (16 &&& 31)) < ((p0 >>> (16 &&& 31)) - (1 : Int32)) then (p1 >>> (16 &&& 31)) else ((p0 >>> (16 &&& 31)) - (1 : Int32)))) else ((65536 : Int32) * (if ((p1 >>> (16 &&& 31)) - (1 : Int32)) < ((p0 >>> (16 &&& 31)) - (1 : Int32)) then ((p1 >>> (16 &&& 31)) - (1 : Int32)) else ((p0 >>> (16 &&& 31)) - (1 : Int32)))) else ((f_X9_shared0 (p0 &&& 65535) (p1 &&& 65535)) + ((65536 : Int32) * (p0 >>> (16 &&& 31)))) else if (p0 &&& 65535) < (65528 : Int32) then if (p1 &&& 65535) < (65528 : Int32) then ((65536 : Int32) * (if (p1 >>> (16 &&& 31)) < (p0 >>> (16 &&& 31)) then (p1 >>> (16 &&& 31)) else (p0 >>> (16 &&& 31)))) else ((65536 : Int32) * (if ((p1 >>> (16 &&& 31)) - (1 : Int32)) < (p0 >>> (16 &&& 31)) then ((p1 >>> (16 &&& 31)) - (1 : Int32)) else (p0 >>> (16 &&& 31)))) else if (p1 &&& 65535) < (65528 : Int32) then ((65536 : Int32) * (if (p1 >>> (16 &&& 31)) < ((p0 >>> (16 &&& 31)) - (1 : Int32)) then (p1 >>> (16 &&& 31)) else ((p0 >>> (16 &&& 31)) - (1 : Int32)))) else ((65536 : Int32) * (if ((p1 >>> (16 &&& 31)) - (1 : Int32)) < ((p0 >>> (16 &&& 31)) - (1 : Int32)) then ((p1 >>> (16 &&& 31)) - (1 : Int32)) else ((p0 >>> (16 &&& 31)) - (1 : Int32))))
theorem i_X9_shared_X9 : ∀ w ∈ wsX90, w ∈ wsX9_shared := by decide +kernel
set_option maxHeartbeats 4000000 in
set_option maxRecDepth 100000 in
theorem c_X9_shared (l : Launch) (dC : Nat → ClassId) (dI : Nat → Nat → Nat) (cyI cyZ cyJ : ClassId) (sz : Nat) (h0 : Nat) (a4 : Nat) (a5 : Nat) (a6 : Nat) (a7 : Nat) (a8 : Nat) (a9 : Nat) (a10 : Nat) (a11 : Nat) (a12 : Nat) (a19 : Nat) (a23 : Nat) (a24 : Nat) (a25 : Nat) (a26 : Nat) (a27 : Nat) (a28 : Nat) (a29 : Nat) (a30 : Nat) (a31 : Nat) (a32 : Nat) (a33 : Nat) (a34 : Nat) (a37 : Nat) (a38 : Nat) (a39 : Nat) (a40 : Nat) (a41 : Nat) (a43 : Nat) (a44 : Nat) (a45 : Nat) (a46 : Nat) (a47 : Nat) (a52 : Nat) (a53 : Nat) (a56 : Nat) (a57 : Nat) (a59 : Nat) (a60 : Nat) (a61 : Nat) (p0 : Int32) (p1 : Int32) (hs : ¬ f_X9_isType p0 = 0) (ht9 : ¬ f_X9_isType p1 = 0) (hp0 : f_X9_isPrimitive p0 = 0) (hp1 : f_X9_isPrimitive p1 = 0) : Met l yX9_shared wsX9_shared ({ frames := 2, cells := 0, slots := 0, locals := 50 }) (va_Pc [.ref h0, .int p0, .int p1] (x_Pre (dC, dI) (x_T cyI cyZ cyJ) [(h0, .inr (9, [.int 0, .int 4, .int 0, .int 0, .ref a4, .ref a5, .ref a6, .ref a7, .ref a8, .ref a9, .ref a10, .ref a11, .ref a12, .int 0, .int 0, .int (-1), .int 0, .int 0, .int 0, .ref a19, .int 0, .int 0, .int 0, .ref a23, .ref a24, .ref a25, .ref a26, .ref a27, .ref a28, .ref a29, .ref a30, .ref a31, .ref a32, .ref a33, .ref a34, .int 0, .int 0, .ref a37, .ref a38, .ref a39, .ref a40, .ref a41, .int 0, .ref a43, .ref a44, .ref a45, .ref a46, .ref a47, .int 0, .int 0, .int 0, .int 0, .ref a52, .ref a53, .int 0, .int 0, .ref a56, .ref a57, .int 0, .ref a59, .ref a60, .ref a61])), (a4, .inl (cyI, 200, .inl x_up9)), (a5, .inl (cyZ, 200, .inl x_face))] sz)) (va_Qi (fun (r : Int32) (_ : Unit) => r = f_X9_shared p0 p1) (fun _ _ => True) (x_new sz)) 0 0 (x_new sz) := by
  refine Met.ofW (cc := cX9_shared) (maxL := 8) (ret := (some .int)) (by decide) rfl ?_
  intro p e s m args below meth c s₁ B hml hv
  obtain ⟨rfl, hsz, hP, hK, hN⟩ := hv
  have hx := B.exec
  have hb := B.bytes
  have hr := B.returns
  have hts := atoms_spec (ws := wsX9_shared) B.pre
  have hown : s.vm.findClass RX9 = some m.cls := findClass_of_methodNamed B.named
  have hlocks := B.notSynchronized
  have k_1 := hts (.constant RX9 142 (65535)) (by decide +kernel)
  have k_2 := hts (.constant RX9 141 (65536)) (by decide +kernel)
  have k_3 := hts (.constant RX9 140 (65528)) (by decide +kernel)
  have k_4 := hts (.methodLink RX9 209 Lib.Math.min.name) (by decide +kernel)
  have k_5 := hts (.static Lib.Math.min.name) (by decide +kernel)
  have k_6 := hts (.initialized "java/lang/Math") (by decide +kernel)
  have k_7 := hts (.code Lib.Math.min.name Lib.Math.min.code 2 (some .int)) (by decide +kernel)
  have k_8 := hts (.fieldLink RX9 20 "FlowJudgeModel" "face" "[Z") (by decide +kernel)
  have k_9 := hts (.fieldLink RX9 16 "FlowJudgeModel" "up" "[I") (by decide +kernel)
  subst hsz
  have hA : ∀ q : Nat, s.heap.size ≤ q → x_new s.heap.size q := fun _ h => h
  have hS : va_S (x_new s.heap.size) s.heap s.heap [] := va_S.rf
  have hP : va_P (dC, dI) vwCl [(h0, .inr (9, [.int 0, .int 4, .int 0, .int 0, .ref a4, .ref a5, .ref a6, .ref a7, .ref a8, .ref a9, .ref a10, .ref a11, .ref a12, .int 0, .int 0, .int (-1), .int 0, .int 0, .int 0, .ref a19, .int 0, .int 0, .int 0, .ref a23, .ref a24, .ref a25, .ref a26, .ref a27, .ref a28, .ref a29, .ref a30, .ref a31, .ref a32, .ref a33, .ref a34, .int 0, .int 0, .ref a37, .ref a38, .ref a39, .ref a40, .ref a41, .int 0, .ref a43, .ref a44, .ref a45, .ref a46, .ref a47, .int 0, .int 0, .int 0, .int 0, .ref a52, .ref a53, .int 0, .int 0, .ref a56, .ref a57, .int 0, .ref a59, .ref a60, .ref a61])), (a4, .inl (cyI, 200, .inl x_up9)), (a5, .inl (cyZ, 200, .inl x_face))] s.heap := hP
  have hl := lv_entry ([.ref h0, .int p0, .int p1]) (n := 8) (Nat.le_of_ble_eq_true rfl)
  rw [lg_entry_eq]
  generalize (lg_sl ([.ref h0, .int p0, .int p1]) ++ List.replicate (8 - (lg_sl ([.ref h0, .int p0, .int p1])).length) Slot.unset).toArray = ls at hl ⊢
  have hl : lv_has ls 8 [(0, .ref h0), (1, .int p0), (2, .int p1)] := hl
  obtain ⟨H, hH⟩ : ∃ z, z = s.heap := ⟨_, rfl⟩
  refine x_here hH ?_
  have hP : va_P (dC, dI) vwCl [(h0, .inr (9, [.int 0, .int 4, .int 0, .int 0, .ref a4, .ref a5, .ref a6, .ref a7, .ref a8, .ref a9, .ref a10, .ref a11, .ref a12, .int 0, .int 0, .int (-1), .int 0, .int 0, .int 0, .ref a19, .int 0, .int 0, .int 0, .ref a23, .ref a24, .ref a25, .ref a26, .ref a27, .ref a28, .ref a29, .ref a30, .ref a31, .ref a32, .ref a33, .ref a34, .int 0, .int 0, .ref a37, .ref a38, .ref a39, .ref a40, .ref a41, .int 0, .ref a43, .ref a44, .ref a45, .ref a46, .ref a47, .int 0, .int 0, .int 0, .int 0, .ref a52, .ref a53, .int 0, .int 0, .ref a56, .ref a57, .int 0, .ref a59, .ref a60, .ref a61])), (a4, .inl (cyI, 200, .inl x_up9)), (a5, .inl (cyZ, 200, .inl x_face))] H := by rw [hH]; exact hP
  have hS : va_S (x_new s.heap.size) s.heap H [] := by rw [hH]; exact va_S.rf
  clear hH
  refine lv_iload_n hx hb dX9_shared_0 rfl (lv_at hl 1 rfl) ?_
  refine lv_iload_n hx hb dX9_shared_1 rfl (lv_at hl 2 rfl) ?_
  refine lv_icmp_ne (tgt := 7) hx hb dX9_shared_2 (by decide) (fun c_1 => ?_) (fun c_1 => ?_)
  · skip
    refine lv_iload_n hx hb dX9_shared_7 rfl (lv_at hl 1 rfl) ?_
    refine lv_bipush (v := 16) hx hb dX9_shared_8 (by decide) ?_
    refine lv_ishr hx hb dX9_shared_10 ?_
    refine lv_istore_n (lv' := [(3, .int (p0 >>> (16 &&& 31))), (0, .ref h0), (1, .int p0), (2, .int p1)]) hx hb dX9_shared_11 rfl hl (by decide) rfl (fun ls hl => ?_)
    refine lv_iload_n hx hb dX9_shared_12 rfl (lv_at hl 3 rfl) ?_
    refine lv_bipush (v := 16) hx hb dX9_shared_13 (by decide) ?_
    refine lv_ishr hx hb dX9_shared_15 ?_
    refine lv_istore (lv' := [(4, .int (p1 >>> (16 &&& 31))), (3, .int (p0 >>> (16 &&& 31))), (0, .ref h0), (1, .int p0), (2, .int p1)]) hx hb dX9_shared_16 hl (by decide) rfl (fun ls hl => ?_)
    refine lv_iload_n hx hb dX9_shared_18 rfl (lv_at hl 3 rfl) ?_
    refine lv_ldc (v := 65535) hx hb hown k_1 dX9_shared_19 ?_
    refine lv_iand hx hb dX9_shared_21 ?_
    refine lv_istore (lv' := [(5, .int (p0 &&& 65535)), (4, .int (p1 >>> (16 &&& 31))), (3, .int (p0 >>> (16 &&& 31))), (0, .ref h0), (1, .int p0), (2, .int p1)]) hx hb dX9_shared_22 hl (by decide) rfl (fun ls hl => ?_)
    refine lv_iload_n hx hb dX9_shared_24 rfl (lv_at hl 5 rfl) ?_
    refine lv_ldc (v := 65535) hx hb hown k_1 dX9_shared_25 ?_
    refine lv_iand hx hb dX9_shared_27 ?_
    refine lv_istore (lv' := [(6, .int (p1 &&& 65535)), (5, .int (p0 &&& 65535)), (4, .int (p1 >>> (16 &&& 31))), (3, .int (p0 >>> (16 &&& 31))), (0, .ref h0), (1, .int p0), (2, .int p1)]) hx hb dX9_shared_28 hl (by decide) rfl (fun ls hl => ?_)
    refine lv_iload_n hx hb dX9_shared_30 rfl (lv_at hl 3 rfl) ?_
    refine lv_if_ne (tgt := 91) hx hb dX9_shared_31 (by decide) (fun c_2 => ?_) (fun c_2 => ?_)
    · skip
      refine lv_iload_n hx hb dX9_shared_91 rfl (lv_at hl 3 rfl) ?_
      refine lv_if_eq (tgt := 100) hx hb dX9_shared_92 (by decide) (fun c_3 => ?_) (fun c_3 => ?_)
      · skip
        refine lv_iconst (v := 0) hx hb dX9_shared_100 (by decide) ?_
        exact W.iret hx hb hr (fun t ht hW => ⟨⟨_, (), rfl, by rw [f_X9_shared, if_neg c_1, if_neg c_2, if_pos c_3], trivial⟩, hS.F ht⟩) hS.2.2 dX9_shared_101
      · skip
        refine lv_iload hx hb dX9_shared_95 (lv_at hl 2 rfl) ?_
        refine lv_if_ne (tgt := 102) hx hb dX9_shared_97 (by decide) (fun c_4 => ?_) (fun c_4 => ?_)
        · skip
          refine lv_iload_n hx hb dX9_shared_102 rfl (lv_at hl 3 rfl) ?_
          refine lv_iload hx hb dX9_shared_103 (lv_at hl 2 rfl) ?_
          refine lv_icmp_ne (tgt := 136) hx hb dX9_shared_105 (by decide) (fun c_5 => ?_) (fun c_5 => ?_)
          · skip
            refine lv_ldc (v := 65536) hx hb hown k_2 dX9_shared_136 ?_
            refine lv_iload hx hb dX9_shared_138 (lv_at hl 1 rfl) ?_
            refine lv_ldc (v := 65528) hx hb hown k_3 dX9_shared_140 ?_
            refine lv_icmp_lt (tgt := 151) hx hb dX9_shared_142 (by decide) (fun c_6 => ?_) (fun c_6 => ?_)
            · skip
              refine lv_iload_n hx hb dX9_shared_151 rfl (lv_at hl 3 rfl) ?_
              refine lv_iload hx hb dX9_shared_152 (lv_at hl 0 rfl) ?_
              refine lv_ldc (v := 65528) hx hb hown k_3 dX9_shared_154 ?_
              refine lv_icmp_lt (tgt := 166) hx hb dX9_shared_156 (by decide) (fun c_7 => ?_) (fun c_7 => ?_)
              · skip
                refine lv_iload hx hb dX9_shared_166 (lv_at hl 2 rfl) ?_
                refine va_mmin hx hb (hml.trans hl.1.symm) hown k_4 k_5 k_6 k_7 (Nat.le_of_ble_eq_true rfl) (Nat.le_of_ble_eq_true rfl) (Nat.le_of_ble_eq_true rfl) (Nat.le_of_ble_eq_true rfl) dX9_shared_168 ?_
                refine lv_imul hx hb dX9_shared_171 ?_
                exact W.iret hx hb hr (fun t ht hW => ⟨⟨_, (), rfl, by rw [f_X9_shared, if_neg c_1, if_neg c_2, if_neg c_3, if_neg c_4, if_neg c_5, if_pos c_6, if_pos c_7], trivial⟩, hS.F ht⟩) hS.2.2 dX9_shared_172
              · skip
                refine lv_iload hx hb dX9_shared_159 (lv_at hl 2 rfl) ?_
                refine lv_iconst (v := 1) hx hb dX9_shared_161 (by decide) ?_
                refine lv_isub hx hb dX9_shared_162 ?_
                refine lv_goto (tgt := 168) hx hb dX9_shared_163 (by decide) ?_
                refine va_mmin hx hb (hml.trans hl.1.symm) hown k_4 k_5 k_6 k_7 (Nat.le_of_ble_eq_true rfl) (Nat.le_of_ble_eq_true rfl) (Nat.le_of_ble_eq_true rfl) (Nat.le_of_ble_eq_true rfl) dX9_shared_168 ?_
                refine lv_imul hx hb dX9_shared_171 ?_
                exact W.iret hx hb hr (fun t ht hW => ⟨⟨_, (), rfl, by rw [f_X9_shared, if_neg c_1, if_neg c_2, if_neg c_3, if_neg c_4, if_neg c_5, if_pos c_6, if_neg c_7], trivial⟩, hS.F ht⟩) hS.2.2 dX9_shared_172
            · skip
              refine lv_iload_n hx hb dX9_shared_145 rfl (lv_at hl 3 rfl) ?_
              refine lv_iconst (v := 1) hx hb dX9_shared_146 (by decide) ?_
              refine lv_isub hx hb dX9_shared_147 ?_
              refine lv_goto (tgt := 152) hx hb dX9_shared_148 (by decide) ?_
              refine lv_iload hx hb dX9_shared_152 (lv_at hl 0 rfl) ?_
              refine lv_ldc (v := 65528) hx hb hown k_3 dX9_shared_154 ?_
              refine lv_icmp_lt (tgt := 166) hx hb dX9_shared_156 (by decide) (fun c_8 => ?_) (fun c_8 => ?_)
              · skip
                refine lv_iload hx hb dX9_shared_166 (lv_at hl 2 rfl) ?_
                refine va_mmin hx hb (hml.trans hl.1.symm) hown k_4 k_5 k_6 k_7 (Nat.le_of_ble_eq_true rfl) (Nat.le_of_ble_eq_true rfl) (Nat.le_of_ble_eq_true rfl) (Nat.le_of_ble_eq_true rfl) dX9_shared_168 ?_
                refine lv_imul hx hb dX9_shared_171 ?_
                exact W.iret hx hb hr (fun t ht hW => ⟨⟨_, (), rfl, by rw [f_X9_shared, if_neg c_1, if_neg c_2, if_neg c_3, if_neg c_4, if_neg c_5, if_neg c_6, if_pos c_8], trivial⟩, hS.F ht⟩) hS.2.2 dX9_shared_172
              · skip
                refine lv_iload hx hb dX9_shared_159 (lv_at hl 2 rfl) ?_
                refine lv_iconst (v := 1) hx hb dX9_shared_161 (by decide) ?_
                refine lv_isub hx hb dX9_shared_162 ?_
                refine lv_goto (tgt := 168) hx hb dX9_shared_163 (by decide) ?_
                refine va_mmin hx hb (hml.trans hl.1.symm) hown k_4 k_5 k_6 k_7 (Nat.le_of_ble_eq_true rfl) (Nat.le_of_ble_eq_true rfl) (Nat.le_of_ble_eq_true rfl) (Nat.le_of_ble_eq_true rfl) dX9_shared_168 ?_
                refine lv_imul hx hb dX9_shared_171 ?_
                exact W.iret hx hb hr (fun t ht hW => ⟨⟨_, (), rfl, by rw [f_X9_shared, if_neg c_1, if_neg c_2, if_neg c_3, if_neg c_4, if_neg c_5, if_neg c_6, if_neg c_8], trivial⟩, hS.F ht⟩) hS.2.2 dX9_shared_172
          · skip
            refine lv_iload hx hb dX9_shared_108 (lv_at hl 1 rfl) ?_
            refine lv_ldc (v := 65528) hx hb hown k_3 dX9_shared_110 ?_
            refine lv_icmp_ge (tgt := 136) hx hb dX9_shared_112 (by decide) (fun c_9 => ?_) (fun c_9 => ?_)
            · skip
              refine lv_ldc (v := 65536) hx hb hown k_2 dX9_shared_136 ?_
              refine lv_iload hx hb dX9_shared_138 (lv_at hl 1 rfl) ?_
              refine lv_ldc (v := 65528) hx hb hown k_3 dX9_shared_140 ?_
              refine lv_icmp_lt (tgt := 151) hx hb dX9_shared_142 (by decide) (fun c_10 => ?_) (fun c_10 => ?_)
              · skip
                refine lv_iload_n hx hb dX9_shared_151 rfl (lv_at hl 3 rfl) ?_
                refine lv_iload hx hb dX9_shared_152 (lv_at hl 0 rfl) ?_
                refine lv_ldc (v := 65528) hx hb hown k_3 dX9_shared_154 ?_
                refine lv_icmp_lt (tgt := 166) hx hb dX9_shared_156 (by decide) (fun c_11 => ?_) (fun c_11 => ?_)
                · skip
                  refine lv_iload hx hb dX9_shared_166 (lv_at hl 2 rfl) ?_
                  refine va_mmin hx hb (hml.trans hl.1.symm) hown k_4 k_5 k_6 k_7 (Nat.le_of_ble_eq_true rfl) (Nat.le_of_ble_eq_true rfl) (Nat.le_of_ble_eq_true rfl) (Nat.le_of_ble_eq_true rfl) dX9_shared_168 ?_
                  refine lv_imul hx hb dX9_shared_171 ?_
                  exact W.iret hx hb hr (fun t ht hW => ⟨⟨_, (), rfl, by rw [f_X9_shared, if_neg c_1, if_neg c_2, if_neg c_3, if_neg c_4, if_pos c_5, if_pos c_9, if_pos c_10, if_pos c_11], trivial⟩, hS.F ht⟩) hS.2.2 dX9_shared_172
                · skip
                  refine lv_iload hx hb dX9_shared_159 (lv_at hl 2 rfl) ?_
                  refine lv_iconst (v := 1) hx hb dX9_shared_161 (by decide) ?_
                  refine lv_isub hx hb dX9_shared_162 ?_
                  refine lv_goto (tgt := 168) hx hb dX9_shared_163 (by decide) ?_
                  refine va_mmin hx hb (hml.trans hl.1.symm) hown k_4 k_5 k_6 k_7 (Nat.le_of_ble_eq_true rfl) (Nat.le_of_ble_eq_true rfl) (Nat.le_of_ble_eq_true rfl) (Nat.le_of_ble_eq_true rfl) dX9_shared_168 ?_
                  refine lv_imul hx hb dX9_shared_171 ?_
                  exact W.iret hx hb hr (fun t ht hW => ⟨⟨_, (), rfl, by rw [f_X9_shared, if_neg c_1, if_neg c_2, if_neg c_3, if_neg c_4, if_pos c_5, if_pos c_9, if_pos c_10, if_neg c_11], trivial⟩, hS.F ht⟩) hS.2.2 dX9_shared_172
              · skip
                refine lv_iload_n hx hb dX9_shared_145 rfl (lv_at hl 3 rfl) ?_
                refine lv_iconst (v := 1) hx hb dX9_shared_146 (by decide) ?_
                refine lv_isub hx hb dX9_shared_147 ?_
                refine lv_goto (tgt := 152) hx hb dX9_shared_148 (by decide) ?_
                refine lv_iload hx hb dX9_shared_152 (lv_at hl 0 rfl) ?_
                refine lv_ldc (v := 65528) hx hb hown k_3 dX9_shared_154 ?_
                refine lv_icmp_lt (tgt := 166) hx hb dX9_shared_156 (by decide) (fun c_12 => ?_) (fun c_12 => ?_)
                · skip
                  refine lv_iload hx hb dX9_shared_166 (lv_at hl 2 rfl) ?_
                  refine va_mmin hx hb (hml.trans hl.1.symm) hown k_4 k_5 k_6 k_7 (Nat.le_of_ble_eq_true rfl) (Nat.le_of_ble_eq_true rfl) (Nat.le_of_ble_eq_true rfl) (Nat.le_of_ble_eq_true rfl) dX9_shared_168 ?_
                  refine lv_imul hx hb dX9_shared_171 ?_
                  exact W.iret hx hb hr (fun t ht hW => ⟨⟨_, (), rfl, by rw [f_X9_shared, if_neg c_1, if_neg c_2, if_neg c_3, if_neg c_4, if_pos c_5, if_pos c_9, if_neg c_10, if_pos c_12], trivial⟩, hS.F ht⟩) hS.2.2 dX9_shared_172
                · skip
                  refine lv_iload hx hb dX9_shared_159 (lv_at hl 2 rfl) ?_
                  refine lv_iconst (v := 1) hx hb dX9_shared_161 (by decide) ?_
                  refine lv_isub hx hb dX9_shared_162 ?_
                  refine lv_goto (tgt := 168) hx hb dX9_shared_163 (by decide) ?_
                  refine va_mmin hx hb (hml.trans hl.1.symm) hown k_4 k_5 k_6 k_7 (Nat.le_of_ble_eq_true rfl) (Nat.le_of_ble_eq_true rfl) (Nat.le_of_ble_eq_true rfl) (Nat.le_of_ble_eq_true rfl) dX9_shared_168 ?_
                  refine lv_imul hx hb dX9_shared_171 ?_
                  exact W.iret hx hb hr (fun t ht hW => ⟨⟨_, (), rfl, by rw [f_X9_shared, if_neg c_1, if_neg c_2, if_neg c_3, if_neg c_4, if_pos c_5, if_pos c_9, if_neg c_10, if_neg c_12], trivial⟩, hS.F ht⟩) hS.2.2 dX9_shared_172
            · skip
              refine lv_iload hx hb dX9_shared_115 (lv_at hl 0 rfl) ?_
              refine lv_ldc (v := 65528) hx hb hown k_3 dX9_shared_117 ?_
              refine lv_icmp_ge (tgt := 136) hx hb dX9_shared_119 (by decide) (fun c_13 => ?_) (fun c_13 => ?_)
              · skip
                refine lv_ldc (v := 65536) hx hb hown k_2 dX9_shared_136 ?_
                refine lv_iload hx hb dX9_shared_138 (lv_at hl 1 rfl) ?_
                refine lv_ldc (v := 65528) hx hb hown k_3 dX9_shared_140 ?_
                refine lv_icmp_lt (tgt := 151) hx hb dX9_shared_142 (by decide) (fun c_14 => ?_) (fun c_14 => ?_)
                · skip
                  refine lv_iload_n hx hb dX9_shared_151 rfl (lv_at hl 3 rfl) ?_
                  refine lv_iload hx hb dX9_shared_152 (lv_at hl 0 rfl) ?_
                  refine lv_ldc (v := 65528) hx hb hown k_3 dX9_shared_154 ?_
                  refine lv_icmp_lt (tgt := 166) hx hb dX9_shared_156 (by decide) (fun c_15 => ?_) (fun c_15 => ?_)
                  · skip
                    refine lv_iload hx hb dX9_shared_166 (lv_at hl 2 rfl) ?_
                    refine va_mmin hx hb (hml.trans hl.1.symm) hown k_4 k_5 k_6 k_7 (Nat.le_of_ble_eq_true rfl) (Nat.le_of_ble_eq_true rfl) (Nat.le_of_ble_eq_true rfl) (Nat.le_of_ble_eq_true rfl) dX9_shared_168 ?_
                    refine lv_imul hx hb dX9_shared_171 ?_
                    exact W.iret hx hb hr (fun t ht hW => ⟨⟨_, (), rfl, by rw [f_X9_shared, if_neg c_1, if_neg c_2, if_neg c_3, if_neg c_4, if_pos c_5, if_neg c_9, if_pos c_13, if_pos c_14, if_pos c_15], trivial⟩, hS.F ht⟩) hS.2.2 dX9_shared_172
                  · skip
                    refine lv_iload hx hb dX9_shared_159 (lv_at hl 2 rfl) ?_
                    refine lv_iconst (v := 1) hx hb dX9_shared_161 (by decide) ?_
                    refine lv_isub hx hb dX9_shared_162 ?_
                    refine lv_goto (tgt := 168) hx hb dX9_shared_163 (by decide) ?_
                    refine va_mmin hx hb (hml.trans hl.1.symm) hown k_4 k_5 k_6 k_7 (Nat.le_of_ble_eq_true rfl) (Nat.le_of_ble_eq_true rfl) (Nat.le_of_ble_eq_true rfl) (Nat.le_of_ble_eq_true rfl) dX9_shared_168 ?_
                    refine lv_imul hx hb dX9_shared_171 ?_
                    exact W.iret hx hb hr (fun t ht hW => ⟨⟨_, (), rfl, by rw [f_X9_shared, if_neg c_1, if_neg c_2, if_neg c_3, if_neg c_4, if_pos c_5, if_neg c_9, if_pos c_13, if_pos c_14, if_neg c_15], trivial⟩, hS.F ht⟩) hS.2.2 dX9_shared_172
                · skip
                  refine lv_iload_n hx hb dX9_shared_145 rfl (lv_at hl 3 rfl) ?_
                  refine lv_iconst (v := 1) hx hb dX9_shared_146 (by decide) ?_
                  refine lv_isub hx hb dX9_shared_147 ?_
                  refine lv_goto (tgt := 152) hx hb dX9_shared_148 (by decide) ?_
                  refine lv_iload hx hb dX9_shared_152 (lv_at hl 0 rfl) ?_
                  refine lv_ldc (v := 65528) hx hb hown k_3 dX9_shared_154 ?_
                  refine lv_icmp_lt (tgt := 166) hx hb dX9_shared_156 (by decide) (fun c_16 => ?_) (fun c_16 => ?_)
                  · skip
                    refine lv_iload hx hb dX9_shared_166 (lv_at hl 2 rfl) ?_
                    refine va_mmin hx hb (hml.trans hl.1.symm) hown k_4 k_5 k_6 k_7 (Nat.le_of_ble_eq_true rfl) (Nat.le_of_ble_eq_true rfl) (Nat.le_of_ble_eq_true rfl) (Nat.le_of_ble_eq_true rfl) dX9_shared_168 ?_
                    refine lv_imul hx hb dX9_shared_171 ?_
                    exact W.iret hx hb hr (fun t ht hW => ⟨⟨_, (), rfl, by rw [f_X9_shared, if_neg c_1, if_neg c_2, if_neg c_3, if_neg c_4, if_pos c_5, if_neg c_9, if_pos c_13, if_neg c_14, if_pos c_16], trivial⟩, hS.F ht⟩) hS.2.2 dX9_shared_172
                  · skip
                    refine lv_iload hx hb dX9_shared_159 (lv_at hl 2 rfl) ?_
                    refine lv_iconst (v := 1) hx hb dX9_shared_161 (by decide) ?_
                    refine lv_isub hx hb dX9_shared_162 ?_
                    refine lv_goto (tgt := 168) hx hb dX9_shared_163 (by decide) ?_
                    refine va_mmin hx hb (hml.trans hl.1.symm) hown k_4 k_5 k_6 k_7 (Nat.le_of_ble_eq_true rfl) (Nat.le_of_ble_eq_true rfl) (Nat.le_of_ble_eq_true rfl) (Nat.le_of_ble_eq_true rfl) dX9_shared_168 ?_
                    refine lv_imul hx hb dX9_shared_171 ?_
                    exact W.iret hx hb hr (fun t ht hW => ⟨⟨_, (), rfl, by rw [f_X9_shared, if_neg c_1, if_neg c_2, if_neg c_3, if_neg c_4, if_pos c_5, if_neg c_9, if_pos c_13, if_neg c_14, if_neg c_16], trivial⟩, hS.F ht⟩) hS.2.2 dX9_shared_172
              · skip
                refine lv_aload_n hx hb dX9_shared_122 rfl (lv_at hl 4 rfl) ?_
                refine lv_iload hx hb dX9_shared_123 (lv_at hl 1 rfl) ?_
                refine lv_iload hx hb dX9_shared_125 (lv_at hl 0 rfl) ?_
                have hPc := hP.sub (ws' := [(h0, .inr (9, [.int 0, .int 4, .int 0, .int 0, .ref a4, .ref a5, .ref a6, .ref a7, .ref a8, .ref a9, .ref a10, .ref a11, .ref a12, .int 0, .int 0, .int (-1), .int 0, .int 0, .int 0, .ref a19, .int 0, .int 0, .int 0, .ref a23, .ref a24, .ref a25, .ref a26, .ref a27, .ref a28, .ref a29, .ref a30, .ref a31, .ref a32, .ref a33, .ref a34, .int 0, .int 0, .ref a37, .ref a38, .ref a39, .ref a40, .ref a41, .int 0, .ref a43, .ref a44, .ref a45, .ref a46, .ref a47, .int 0, .int 0, .int 0, .int 0, .ref a52, .ref a53, .int 0, .int 0, .ref a56, .ref a57, .int 0, .ref a59, .ref a60, .ref a61])), (a4, .inl (cyI, 200, .inl x_up9)), (a5, .inl (cyZ, 200, .inl x_face))]) [0, 1, 2] rfl
                refine va_calli (va_runV (As := [.int (p0 &&& 65535), .int (p1 &&& 65535)]) (rest := []) ⟨hx, hb, hml, hown, hts⟩ (c_X9_shared0 l dC dI cyI cyZ cyJ H.size h0 a4 a5 a6 a7 a8 a9 a10 a11 a12 a19 a23 a24 a25 a26 a27 a28 a29 a30 a31 a32 a33 a34 a37 a38 a39 a40 a41 a43 a44 a45 a46 a47 a52 a53 a56 a57 a59 a60 a61 (p0 &&& 65535) (p1 &&& 65535) (x_tym hs) (x_tym ht9) (x_np (by assumption)) (x_np (by assumption)) (x_m16 _) (x_m16 _)) (cwV 2 hts gX9_shared_X9_shared rfl rfl rfl (by decide +kernel) ⟨Nat.le_of_ble_eq_true rfl, Nat.le_of_ble_eq_true rfl⟩) (x_pV hN hK hPc (ci := 9) (q0 := 0) rfl rfl) rfl rfl hl.1 rfl (lv_room (Nat.le_of_ble_eq_true rfl)) dX9_shared_127 ⟨Nat.le_of_ble_eq_true rfl, Nat.le_of_ble_eq_true rfl⟩) hS x_nA (x_nf hA hS) (fun r_127 u t H1 locs ht hvm hw hB hz1 hk1 hS => ?_)
                have hP := x_kp hP hk1
                clear ht hvm hB hz1 hk1 t u hPc
                generalize H1 = H at hP hS ⊢
                obtain rfl := hw
                refine lv_ldc (v := 65536) hx hb hown k_2 dX9_shared_130 ?_
                refine lv_iload_n hx hb dX9_shared_132 rfl (lv_at hl 3 rfl) ?_
                refine lv_imul hx hb dX9_shared_133 ?_
                refine lv_iadd hx hb dX9_shared_134 ?_
                exact W.iret hx hb hr (fun t ht hW => ⟨⟨_, (), rfl, by rw [f_X9_shared, if_neg c_1, if_neg c_2, if_neg c_3, if_neg c_4, if_pos c_5, if_neg c_9, if_neg c_13], trivial⟩, hS.F ht⟩) hS.2.2 dX9_shared_135
        · skip
          refine lv_iconst (v := 0) hx hb dX9_shared_100 (by decide) ?_
          exact W.iret hx hb hr (fun t ht hW => ⟨⟨_, (), rfl, by rw [f_X9_shared, if_neg c_1, if_neg c_2, if_neg c_3, if_pos c_4], trivial⟩, hS.F ht⟩) hS.2.2 dX9_shared_101
    · skip
      refine lv_iload hx hb dX9_shared_34 (lv_at hl 2 rfl) ?_
      refine lv_if_ne (tgt := 91) hx hb dX9_shared_36 (by decide) (fun c_17 => ?_) (fun c_17 => ?_)
      · skip
        refine lv_iload_n hx hb dX9_shared_91 rfl (lv_at hl 3 rfl) ?_
        refine lv_if_eq (tgt := 100) hx hb dX9_shared_92 (by decide) (fun c_18 => ?_) (fun c_18 => ?_)
        · skip
          refine lv_iconst (v := 0) hx hb dX9_shared_100 (by decide) ?_
          exact W.iret hx hb hr (fun t ht hW => ⟨⟨_, (), rfl, by rw [f_X9_shared, if_neg c_1, if_pos c_2, if_neg c_17, if_pos c_18], trivial⟩, hS.F ht⟩) hS.2.2 dX9_shared_101
        · skip
          refine lv_iload hx hb dX9_shared_95 (lv_at hl 2 rfl) ?_
          refine lv_if_ne (tgt := 102) hx hb dX9_shared_97 (by decide) (fun c_19 => ?_) (fun c_19 => ?_)
          · skip
            refine lv_iload_n hx hb dX9_shared_102 rfl (lv_at hl 3 rfl) ?_
            refine lv_iload hx hb dX9_shared_103 (lv_at hl 2 rfl) ?_
            refine lv_icmp_ne (tgt := 136) hx hb dX9_shared_105 (by decide) (fun c_20 => ?_) (fun c_20 => ?_)
            · skip
              refine lv_ldc (v := 65536) hx hb hown k_2 dX9_shared_136 ?_
              refine lv_iload hx hb dX9_shared_138 (lv_at hl 1 rfl) ?_
              refine lv_ldc (v := 65528) hx hb hown k_3 dX9_shared_140 ?_
              refine lv_icmp_lt (tgt := 151) hx hb dX9_shared_142 (by decide) (fun c_21 => ?_) (fun c_21 => ?_)
              · skip
                refine lv_iload_n hx hb dX9_shared_151 rfl (lv_at hl 3 rfl) ?_
                refine lv_iload hx hb dX9_shared_152 (lv_at hl 0 rfl) ?_
                refine lv_ldc (v := 65528) hx hb hown k_3 dX9_shared_154 ?_
                refine lv_icmp_lt (tgt := 166) hx hb dX9_shared_156 (by decide) (fun c_22 => ?_) (fun c_22 => ?_)
                · skip
                  refine lv_iload hx hb dX9_shared_166 (lv_at hl 2 rfl) ?_
                  refine va_mmin hx hb (hml.trans hl.1.symm) hown k_4 k_5 k_6 k_7 (Nat.le_of_ble_eq_true rfl) (Nat.le_of_ble_eq_true rfl) (Nat.le_of_ble_eq_true rfl) (Nat.le_of_ble_eq_true rfl) dX9_shared_168 ?_
                  refine lv_imul hx hb dX9_shared_171 ?_
                  exact W.iret hx hb hr (fun t ht hW => ⟨⟨_, (), rfl, by rw [f_X9_shared, if_neg c_1, if_pos c_2, if_neg c_17, if_neg c_18, if_neg c_19, if_neg c_20, if_pos c_21, if_pos c_22], trivial⟩, hS.F ht⟩) hS.2.2 dX9_shared_172
                · skip
                  refine lv_iload hx hb dX9_shared_159 (lv_at hl 2 rfl) ?_
                  refine lv_iconst (v := 1) hx hb dX9_shared_161 (by decide) ?_
                  refine lv_isub hx hb dX9_shared_162 ?_
                  refine lv_goto (tgt := 168) hx hb dX9_shared_163 (by decide) ?_
                  refine va_mmin hx hb (hml.trans hl.1.symm) hown k_4 k_5 k_6 k_7 (Nat.le_of_ble_eq_true rfl) (Nat.le_of_ble_eq_true rfl) (Nat.le_of_ble_eq_true rfl) (Nat.le_of_ble_eq_true rfl) dX9_shared_168 ?_
                  refine lv_imul hx hb dX9_shared_171 ?_
                  exact W.iret hx hb hr (fun t ht hW => ⟨⟨_, (), rfl, by rw [f_X9_shared, if_neg c_1, if_pos c_2, if_neg c_17, if_neg c_18, if_neg c_19, if_neg c_20, if_pos c_21, if_neg c_22], trivial⟩, hS.F ht⟩) hS.2.2 dX9_shared_172
              · skip
                refine lv_iload_n hx hb dX9_shared_145 rfl (lv_at hl 3 rfl) ?_
                refine lv_iconst (v := 1) hx hb dX9_shared_146 (by decide) ?_
                refine lv_isub hx hb dX9_shared_147 ?_
                refine lv_goto (tgt := 152) hx hb dX9_shared_148 (by decide) ?_
                refine lv_iload hx hb dX9_shared_152 (lv_at hl 0 rfl) ?_
                refine lv_ldc (v := 65528) hx hb hown k_3 dX9_shared_154 ?_
                refine lv_icmp_lt (tgt := 166) hx hb dX9_shared_156 (by decide) (fun c_23 => ?_) (fun c_23 => ?_)
                · skip
                  refine lv_iload hx hb dX9_shared_166 (lv_at hl 2 rfl) ?_
                  refine va_mmin hx hb (hml.trans hl.1.symm) hown k_4 k_5 k_6 k_7 (Nat.le_of_ble_eq_true rfl) (Nat.le_of_ble_eq_true rfl) (Nat.le_of_ble_eq_true rfl) (Nat.le_of_ble_eq_true rfl) dX9_shared_168 ?_
                  refine lv_imul hx hb dX9_shared_171 ?_
                  exact W.iret hx hb hr (fun t ht hW => ⟨⟨_, (), rfl, by rw [f_X9_shared, if_neg c_1, if_pos c_2, if_neg c_17, if_neg c_18, if_neg c_19, if_neg c_20, if_neg c_21, if_pos c_23], trivial⟩, hS.F ht⟩) hS.2.2 dX9_shared_172
                · skip
                  refine lv_iload hx hb dX9_shared_159 (lv_at hl 2 rfl) ?_
                  refine lv_iconst (v := 1) hx hb dX9_shared_161 (by decide) ?_
                  refine lv_isub hx hb dX9_shared_162 ?_
                  refine lv_goto (tgt := 168) hx hb dX9_shared_163 (by decide) ?_
                  refine va_mmin hx hb (hml.trans hl.1.symm) hown k_4 k_5 k_6 k_7 (Nat.le_of_ble_eq_true rfl) (Nat.le_of_ble_eq_true rfl) (Nat.le_of_ble_eq_true rfl) (Nat.le_of_ble_eq_true rfl) dX9_shared_168 ?_
                  refine lv_imul hx hb dX9_shared_171 ?_
                  exact W.iret hx hb hr (fun t ht hW => ⟨⟨_, (), rfl, by rw [f_X9_shared, if_neg c_1, if_pos c_2, if_neg c_17, if_neg c_18, if_neg c_19, if_neg c_20, if_neg c_21, if_neg c_23], trivial⟩, hS.F ht⟩) hS.2.2 dX9_shared_172
            · skip
              refine lv_iload hx hb dX9_shared_108 (lv_at hl 1 rfl) ?_
              refine lv_ldc (v := 65528) hx hb hown k_3 dX9_shared_110 ?_
              refine lv_icmp_ge (tgt := 136) hx hb dX9_shared_112 (by decide) (fun c_24 => ?_) (fun c_24 => ?_)
              · skip
                refine lv_ldc (v := 65536) hx hb hown k_2 dX9_shared_136 ?_
                refine lv_iload hx hb dX9_shared_138 (lv_at hl 1 rfl) ?_
                refine lv_ldc (v := 65528) hx hb hown k_3 dX9_shared_140 ?_
                refine lv_icmp_lt (tgt := 151) hx hb dX9_shared_142 (by decide) (fun c_25 => ?_) (fun c_25 => ?_)
                · skip
                  refine lv_iload_n hx hb dX9_shared_151 rfl (lv_at hl 3 rfl) ?_
                  refine lv_iload hx hb dX9_shared_152 (lv_at hl 0 rfl) ?_
                  refine lv_ldc (v := 65528) hx hb hown k_3 dX9_shared_154 ?_
                  refine lv_icmp_lt (tgt := 166) hx hb dX9_shared_156 (by decide) (fun c_26 => ?_) (fun c_26 => ?_)
                  · skip
                    refine lv_iload hx hb dX9_shared_166 (lv_at hl 2 rfl) ?_
                    refine va_mmin hx hb (hml.trans hl.1.symm) hown k_4 k_5 k_6 k_7 (Nat.le_of_ble_eq_true rfl) (Nat.le_of_ble_eq_true rfl) (Nat.le_of_ble_eq_true rfl) (Nat.le_of_ble_eq_true rfl) dX9_shared_168 ?_
                    refine lv_imul hx hb dX9_shared_171 ?_
                    exact W.iret hx hb hr (fun t ht hW => ⟨⟨_, (), rfl, by rw [f_X9_shared, if_neg c_1, if_pos c_2, if_neg c_17, if_neg c_18, if_neg c_19, if_pos c_20, if_pos c_24, if_pos c_25, if_pos c_26], trivial⟩, hS.F ht⟩) hS.2.2 dX9_shared_172
                  · skip
                    refine lv_iload hx hb dX9_shared_159 (lv_at hl 2 rfl) ?_
                    refine lv_iconst (v := 1) hx hb dX9_shared_161 (by decide) ?_
                    refine lv_isub hx hb dX9_shared_162 ?_
                    refine lv_goto (tgt := 168) hx hb dX9_shared_163 (by decide) ?_
                    refine va_mmin hx hb (hml.trans hl.1.symm) hown k_4 k_5 k_6 k_7 (Nat.le_of_ble_eq_true rfl) (Nat.le_of_ble_eq_true rfl) (Nat.le_of_ble_eq_true rfl) (Nat.le_of_ble_eq_true rfl) dX9_shared_168 ?_
                    refine lv_imul hx hb dX9_shared_171 ?_
                    exact W.iret hx hb hr (fun t ht hW => ⟨⟨_, (), rfl, by rw [f_X9_shared, if_neg c_1, if_pos c_2, if_neg c_17, if_neg c_18, if_neg c_19, if_pos c_20, if_pos c_24, if_pos c_25, if_neg c_26], trivial⟩, hS.F ht⟩) hS.2.2 dX9_shared_172
                · skip
                  refine lv_iload_n hx hb dX9_shared_145 rfl (lv_at hl 3 rfl) ?_
                  refine lv_iconst (v := 1) hx hb dX9_shared_146 (by decide) ?_
                  refine lv_isub hx hb dX9_shared_147 ?_
                  refine lv_goto (tgt := 152) hx hb dX9_shared_148 (by decide) ?_
                  refine lv_iload hx hb dX9_shared_152 (lv_at hl 0 rfl) ?_
                  refine lv_ldc (v := 65528) hx hb hown k_3 dX9_shared_154 ?_
                  refine lv_icmp_lt (tgt := 166) hx hb dX9_shared_156 (by decide) (fun c_27 => ?_) (fun c_27 => ?_)
                  · skip
                    refine lv_iload hx hb dX9_shared_166 (lv_at hl 2 rfl) ?_
                    refine va_mmin hx hb (hml.trans hl.1.symm) hown k_4 k_5 k_6 k_7 (Nat.le_of_ble_eq_true rfl) (Nat.le_of_ble_eq_true rfl) (Nat.le_of_ble_eq_true rfl) (Nat.le_of_ble_eq_true rfl) dX9_shared_168 ?_
                    refine lv_imul hx hb dX9_shared_171 ?_
                    exact W.iret hx hb hr (fun t ht hW => ⟨⟨_, (), rfl, by rw [f_X9_shared, if_neg c_1, if_pos c_2, if_neg c_17, if_neg c_18, if_neg c_19, if_pos c_20, if_pos c_24, if_neg c_25, if_pos c_27], trivial⟩, hS.F ht⟩) hS.2.2 dX9_shared_172
                  · skip
                    refine lv_iload hx hb dX9_shared_159 (lv_at hl 2 rfl) ?_
                    refine lv_iconst (v := 1) hx hb dX9_shared_161 (by decide) ?_
                    refine lv_isub hx hb dX9_shared_162 ?_
                    refine lv_goto (tgt := 168) hx hb dX9_shared_163 (by decide) ?_
                    refine va_mmin hx hb (hml.trans hl.1.symm) hown k_4 k_5 k_6 k_7 (Nat.le_of_ble_eq_true rfl) (Nat.le_of_ble_eq_true rfl) (Nat.le_of_ble_eq_true rfl) (Nat.le_of_ble_eq_true rfl) dX9_shared_168 ?_
                    refine lv_imul hx hb dX9_shared_171 ?_
                    exact W.iret hx hb hr (fun t ht hW => ⟨⟨_, (), rfl, by rw [f_X9_shared, if_neg c_1, if_pos c_2, if_neg c_17, if_neg c_18, if_neg c_19, if_pos c_20, if_pos c_24, if_neg c_25, if_neg c_27], trivial⟩, hS.F ht⟩) hS.2.2 dX9_shared_172
              · skip
                refine lv_iload hx hb dX9_shared_115 (lv_at hl 0 rfl) ?_
                refine lv_ldc (v := 65528) hx hb hown k_3 dX9_shared_117 ?_
                refine lv_icmp_ge (tgt := 136) hx hb dX9_shared_119 (by decide) (fun c_28 => ?_) (fun c_28 => ?_)
                · skip
                  refine lv_ldc (v := 65536) hx hb hown k_2 dX9_shared_136 ?_
                  refine lv_iload hx hb dX9_shared_138 (lv_at hl 1 rfl) ?_
                  refine lv_ldc (v := 65528) hx hb hown k_3 dX9_shared_140 ?_
                  refine lv_icmp_lt (tgt := 151) hx hb dX9_shared_142 (by decide) (fun c_29 => ?_) (fun c_29 => ?_)
                  · skip
                    refine lv_iload_n hx hb dX9_shared_151 rfl (lv_at hl 3 rfl) ?_
                    refine lv_iload hx hb dX9_shared_152 (lv_at hl 0 rfl) ?_
                    refine lv_ldc (v := 65528) hx hb hown k_3 dX9_shared_154 ?_
                    refine lv_icmp_lt (tgt := 166) hx hb dX9_shared_156 (by decide) (fun c_30 => ?_) (fun c_30 => ?_)
                    · skip
                      refine lv_iload hx hb dX9_shared_166 (lv_at hl 2 rfl) ?_
                      refine va_mmin hx hb (hml.trans hl.1.symm) hown k_4 k_5 k_6 k_7 (Nat.le_of_ble_eq_true rfl) (Nat.le_of_ble_eq_true rfl) (Nat.le_of_ble_eq_true rfl) (Nat.le_of_ble_eq_true rfl) dX9_shared_168 ?_
                      refine lv_imul hx hb dX9_shared_171 ?_
                      exact W.iret hx hb hr (fun t ht hW => ⟨⟨_, (), rfl, by rw [f_X9_shared, if_neg c_1, if_pos c_2, if_neg c_17, if_neg c_18, if_neg c_19, if_pos c_20, if_neg c_24, if_pos c_28, if_pos c_29, if_pos c_30], trivial⟩, hS.F ht⟩) hS.2.2 dX9_shared_172
                    · skip
                      refine lv_iload hx hb dX9_shared_159 (lv_at hl 2 rfl) ?_
                      refine lv_iconst (v := 1) hx hb dX9_shared_161 (by decide) ?_
                      refine lv_isub hx hb dX9_shared_162 ?_
                      refine lv_goto (tgt := 168) hx hb dX9_shared_163 (by decide) ?_
                      refine va_mmin hx hb (hml.trans hl.1.symm) hown k_4 k_5 k_6 k_7 (Nat.le_of_ble_eq_true rfl) (Nat.le_of_ble_eq_true rfl) (Nat.le_of_ble_eq_true rfl) (Nat.le_of_ble_eq_true rfl) dX9_shared_168 ?_
                      refine lv_imul hx hb dX9_shared_171 ?_
                      exact W.iret hx hb hr (fun t ht hW => ⟨⟨_, (), rfl, by rw [f_X9_shared, if_neg c_1, if_pos c_2, if_neg c_17, if_neg c_18, if_neg c_19, if_pos c_20, if_neg c_24, if_pos c_28, if_pos c_29, if_neg c_30], trivial⟩, hS.F ht⟩) hS.2.2 dX9_shared_172
                  · skip
                    refine lv_iload_n hx hb dX9_shared_145 rfl (lv_at hl 3 rfl) ?_
                    refine lv_iconst (v := 1) hx hb dX9_shared_146 (by decide) ?_
                    refine lv_isub hx hb dX9_shared_147 ?_
                    refine lv_goto (tgt := 152) hx hb dX9_shared_148 (by decide) ?_
                    refine lv_iload hx hb dX9_shared_152 (lv_at hl 0 rfl) ?_
                    refine lv_ldc (v := 65528) hx hb hown k_3 dX9_shared_154 ?_
                    refine lv_icmp_lt (tgt := 166) hx hb dX9_shared_156 (by decide) (fun c_31 => ?_) (fun c_31 => ?_)
                    · skip
                      refine lv_iload hx hb dX9_shared_166 (lv_at hl 2 rfl) ?_
                      refine va_mmin hx hb (hml.trans hl.1.symm) hown k_4 k_5 k_6 k_7 (Nat.le_of_ble_eq_true rfl) (Nat.le_of_ble_eq_true rfl) (Nat.le_of_ble_eq_true rfl) (Nat.le_of_ble_eq_true rfl) dX9_shared_168 ?_
                      refine lv_imul hx hb dX9_shared_171 ?_
                      exact W.iret hx hb hr (fun t ht hW => ⟨⟨_, (), rfl, by rw [f_X9_shared, if_neg c_1, if_pos c_2, if_neg c_17, if_neg c_18, if_neg c_19, if_pos c_20, if_neg c_24, if_pos c_28, if_neg c_29, if_pos c_31], trivial⟩, hS.F ht⟩) hS.2.2 dX9_shared_172
                    · skip
                      refine lv_iload hx hb dX9_shared_159 (lv_at hl 2 rfl) ?_
                      refine lv_iconst (v := 1) hx hb dX9_shared_161 (by decide) ?_
                      refine lv_isub hx hb dX9_shared_162 ?_
                      refine lv_goto (tgt := 168) hx hb dX9_shared_163 (by decide) ?_
                      refine va_mmin hx hb (hml.trans hl.1.symm) hown k_4 k_5 k_6 k_7 (Nat.le_of_ble_eq_true rfl) (Nat.le_of_ble_eq_true rfl) (Nat.le_of_ble_eq_true rfl) (Nat.le_of_ble_eq_true rfl) dX9_shared_168 ?_
                      refine lv_imul hx hb dX9_shared_171 ?_
                      exact W.iret hx hb hr (fun t ht hW => ⟨⟨_, (), rfl, by rw [f_X9_shared, if_neg c_1, if_pos c_2, if_neg c_17, if_neg c_18, if_neg c_19, if_pos c_20, if_neg c_24, if_pos c_28, if_neg c_29, if_neg c_31], trivial⟩, hS.F ht⟩) hS.2.2 dX9_shared_172
                · skip
                  refine lv_aload_n hx hb dX9_shared_122 rfl (lv_at hl 4 rfl) ?_
                  refine lv_iload hx hb dX9_shared_123 (lv_at hl 1 rfl) ?_
                  refine lv_iload hx hb dX9_shared_125 (lv_at hl 0 rfl) ?_
                  have hPc := hP.sub (ws' := [(h0, .inr (9, [.int 0, .int 4, .int 0, .int 0, .ref a4, .ref a5, .ref a6, .ref a7, .ref a8, .ref a9, .ref a10, .ref a11, .ref a12, .int 0, .int 0, .int (-1), .int 0, .int 0, .int 0, .ref a19, .int 0, .int 0, .int 0, .ref a23, .ref a24, .ref a25, .ref a26, .ref a27, .ref a28, .ref a29, .ref a30, .ref a31, .ref a32, .ref a33, .ref a34, .int 0, .int 0, .ref a37, .ref a38, .ref a39, .ref a40, .ref a41, .int 0, .ref a43, .ref a44, .ref a45, .ref a46, .ref a47, .int 0, .int 0, .int 0, .int 0, .ref a52, .ref a53, .int 0, .int 0, .ref a56, .ref a57, .int 0, .ref a59, .ref a60, .ref a61])), (a4, .inl (cyI, 200, .inl x_up9)), (a5, .inl (cyZ, 200, .inl x_face))]) [0, 1, 2] rfl
                  refine va_calli (va_runV (As := [.int (p0 &&& 65535), .int (p1 &&& 65535)]) (rest := []) ⟨hx, hb, hml, hown, hts⟩ (c_X9_shared0 l dC dI cyI cyZ cyJ H.size h0 a4 a5 a6 a7 a8 a9 a10 a11 a12 a19 a23 a24 a25 a26 a27 a28 a29 a30 a31 a32 a33 a34 a37 a38 a39 a40 a41 a43 a44 a45 a46 a47 a52 a53 a56 a57 a59 a60 a61 (p0 &&& 65535) (p1 &&& 65535) (x_tym hs) (x_tym ht9) (x_np (by assumption)) (x_np (by assumption)) (x_m16 _) (x_m16 _)) (cwV 2 hts gX9_shared_X9_shared rfl rfl rfl (by decide +kernel) ⟨Nat.le_of_ble_eq_true rfl, Nat.le_of_ble_eq_true rfl⟩) (x_pV hN hK hPc (ci := 9) (q0 := 0) rfl rfl) rfl rfl hl.1 rfl (lv_room (Nat.le_of_ble_eq_true rfl)) dX9_shared_127 ⟨Nat.le_of_ble_eq_true rfl, Nat.le_of_ble_eq_true rfl⟩) hS x_nA (x_nf hA hS) (fun r_127 u t H1 locs ht hvm hw hB hz1 hk1 hS => ?_)
                  have hP := x_kp hP hk1
                  clear ht hvm hB hz1 hk1 t u hPc
                  generalize H1 = H at hP hS ⊢
                  obtain rfl := hw
                  refine lv_ldc (v := 65536) hx hb hown k_2 dX9_shared_130 ?_
                  refine lv_iload_n hx hb dX9_shared_132 rfl (lv_at hl 3 rfl) ?_
                  refine lv_imul hx hb dX9_shared_133 ?_
                  refine lv_iadd hx hb dX9_shared_134 ?_
                  exact W.iret hx hb hr (fun t ht hW => ⟨⟨_, (), rfl, by rw [f_X9_shared, if_neg c_1, if_pos c_2, if_neg c_17, if_neg c_18, if_neg c_19, if_pos c_20, if_neg c_24, if_neg c_28], trivial⟩, hS.F ht⟩) hS.2.2 dX9_shared_135
          · skip
            refine lv_iconst (v := 0) hx hb dX9_shared_100 (by decide) ?_
            exact W.iret hx hb hr (fun t ht hW => ⟨⟨_, (), rfl, by rw [f_X9_shared, if_neg c_1, if_pos c_2, if_neg c_17, if_neg c_18, if_pos c_19], trivial⟩, hS.F ht⟩) hS.2.2 dX9_shared_101
      · skip
        refine lv_aload_n hx hb dX9_shared_39 rfl (lv_at hl 4 rfl) ?_
        refine va_get (D := (dC, dI)) (ci := 9) (v := .ref a5) (C := RX9) (T := TX9) (N := 62) hx hb hts i_X9_shared_X9 hown hK hP 0 rfl rfl 5 (by decide) k_8 (fun _ h9 => h9) rfl dX9_shared_40 ?_
        refine lv_iload hx hb dX9_shared_43 (lv_at hl 1 rfl) ?_
        refine va_zald hx hb hK hP 2 1 rfl rfl (x_tyinm hs hp0 (by assumption)) dX9_shared_45 ?_
        refine lv_if_ne (tgt := 59) hx hb dX9_shared_46 (by decide) (fun c_32 => ?_) (fun c_32 => ?_)
        · skip
          refine lv_iconst (v := 0) hx hb dX9_shared_59 (by decide) ?_
          exact W.iret hx hb hr (fun t ht hW => ⟨⟨_, (), rfl, by rw [f_X9_shared, if_neg c_1, if_pos c_2, if_pos c_17, if_neg c_32], trivial⟩, hS.F ht⟩) hS.2.2 dX9_shared_60
        · skip
          refine lv_aload_n hx hb dX9_shared_49 rfl (lv_at hl 4 rfl) ?_
          refine va_get (D := (dC, dI)) (ci := 9) (v := .ref a5) (C := RX9) (T := TX9) (N := 62) hx hb hts i_X9_shared_X9 hown hK hP 0 rfl rfl 5 (by decide) k_8 (fun _ h9 => h9) rfl dX9_shared_50 ?_
          refine lv_iload hx hb dX9_shared_53 (lv_at hl 0 rfl) ?_
          refine va_zald hx hb hK hP 2 1 rfl rfl (x_tyinm ht9 hp1 (by assumption)) dX9_shared_55 ?_
          refine lv_if_eq (tgt := 61) hx hb dX9_shared_56 (by decide) (fun c_33 => ?_) (fun c_33 => ?_)
          · skip
            refine lv_iload hx hb dX9_shared_61 (lv_at hl 1 rfl) ?_
            refine lv_istore (lv' := [(7, .int (p0 &&& 65535)), (6, .int (p1 &&& 65535)), (5, .int (p0 &&& 65535)), (4, .int (p1 >>> (16 &&& 31))), (3, .int (p0 >>> (16 &&& 31))), (0, .ref h0), (1, .int p0), (2, .int p1)]) hx hb dX9_shared_63 hl (by decide) rfl (fun ls hl => ?_)
            refine lv_aload_n hx hb dX9_shared_65 rfl (lv_at hl 5 rfl) ?_
            refine lv_iload hx hb dX9_shared_66 (lv_at hl 1 rfl) ?_
            refine lv_iload hx hb dX9_shared_68 (lv_at hl 0 rfl) ?_
            have hPc := hP.sub (ws' := [(h0, .inr (9, [.int 0, .int 4, .int 0, .int 0, .ref a4, .ref a5, .ref a6, .ref a7, .ref a8, .ref a9, .ref a10, .ref a11, .ref a12, .int 0, .int 0, .int (-1), .int 0, .int 0, .int 0, .ref a19, .int 0, .int 0, .int 0, .ref a23, .ref a24, .ref a25, .ref a26, .ref a27, .ref a28, .ref a29, .ref a30, .ref a31, .ref a32, .ref a33, .ref a34, .int 0, .int 0, .ref a37, .ref a38, .ref a39, .ref a40, .ref a41, .int 0, .ref a43, .ref a44, .ref a45, .ref a46, .ref a47, .int 0, .int 0, .int 0, .int 0, .ref a52, .ref a53, .int 0, .int 0, .ref a56, .ref a57, .int 0, .ref a59, .ref a60, .ref a61])), (a4, .inl (cyI, 200, .inl x_up9))]) [0, 1] rfl
            refine va_calli (va_runV (As := [.int (p1 &&& 65535), .int (p0 &&& 65535)]) (rest := []) ⟨hx, hb, hml, hown, hts⟩ (c_X9_below l dC dI cyI cyZ cyJ H.size h0 a4 a5 a6 a7 a8 a9 a10 a11 a12 a19 a23 a24 a25 a26 a27 a28 a29 a30 a31 a32 a33 a34 a37 a38 a39 a40 a41 a43 a44 a45 a46 a47 a52 a53 a56 a57 a59 a60 a61 (p1 &&& 65535) (p0 &&& 65535) (x_tycm ht9 hp1 (by assumption)).1 (x_tycm ht9 hp1 (by assumption)).2) (cwV 2 hts gX9_shared_X9_below rfl rfl rfl (by decide +kernel) ⟨Nat.le_of_ble_eq_true rfl, Nat.le_of_ble_eq_true rfl⟩) (x_pV hN hK hPc (ci := 9) (q0 := 0) rfl rfl) rfl rfl hl.1 rfl (lv_room (Nat.le_of_ble_eq_true rfl)) dX9_shared_70 ⟨Nat.le_of_ble_eq_true rfl, Nat.le_of_ble_eq_true rfl⟩) hS x_nA (x_nf hA hS) (fun r_70 u t H1 locs ht hvm hw hB hz1 hk1 hS => ?_)
            have hP := x_kp hP hk1
            clear ht hvm hB hz1 hk1 t u hPc
            generalize H1 = H at hP hS ⊢
            obtain rfl := hw
            refine lv_if_ne (tgt := 88) hx hb dX9_shared_73 (by decide) (fun c_34 => ?_) (fun c_34 => ?_)
            · skip
              refine lv_iload hx hb dX9_shared_88 (lv_at hl 0 rfl) ?_
              exact W.iret hx hb hr (fun t ht hW => ⟨⟨_, (), rfl, by rw [f_X9_shared, if_neg c_1, if_pos c_2, if_pos c_17, if_pos c_32, if_pos c_33, if_neg c_34], trivial⟩, hS.F ht⟩) hS.2.2 dX9_shared_90
            · skip
              refine lv_aload_n hx hb dX9_shared_76 rfl (lv_at hl 5 rfl) ?_
              refine va_get (D := (dC, dI)) (ci := 9) (v := .ref a4) (C := RX9) (T := TX9) (N := 62) hx hb hts i_X9_shared_X9 hown hK hP 0 rfl rfl 4 (by decide) k_9 (fun _ h9 => h9) rfl dX9_shared_77 ?_
              refine lv_iload hx hb dX9_shared_80 (lv_at hl 0 rfl) ?_
              refine va_iald hx hb hK hP 1 0 rfl rfl (x_tyinm hs hp0 (by assumption)) dX9_shared_82 ?_
              refine lv_topi (fun z_35 ez_35 => ?_)
              rcases Classical.em ((p0 &&& 65535) = 0) with c_35 | c_35
              · exact absurd (by assumption) (show ¬ f_X9_below (p1 &&& 65535) (p0 &&& 65535) = 0 by rw [c_35]; exact x_bel0 (x_tycm ht9 hp1 (by assumption)).1 (x_tycm ht9 hp1 (by assumption)).2)
              obtain rfl : z_35 = 0 := ez_35.trans (x_up9n (x_tyinm hs hp0 (by assumption)) c_35)
              refine lv_istore (lv' := [(7, .int 0), (6, .int (p1 &&& 65535)), (5, .int (p0 &&& 65535)), (4, .int (p1 >>> (16 &&& 31))), (3, .int (p0 >>> (16 &&& 31))), (0, .ref h0), (1, .int p0), (2, .int p1)]) hx hb dX9_shared_83 hl (by decide) rfl (fun ls hl => ?_)
              refine lv_goto (tgt := 65) hx hb dX9_shared_85 (by decide) ?_
              refine lv_aload_n hx hb dX9_shared_65 rfl (lv_at hl 5 rfl) ?_
              refine lv_iload hx hb dX9_shared_66 (lv_at hl 1 rfl) ?_
              refine lv_iload hx hb dX9_shared_68 (lv_at hl 0 rfl) ?_
              have hPc := hP.sub (ws' := [(h0, .inr (9, [.int 0, .int 4, .int 0, .int 0, .ref a4, .ref a5, .ref a6, .ref a7, .ref a8, .ref a9, .ref a10, .ref a11, .ref a12, .int 0, .int 0, .int (-1), .int 0, .int 0, .int 0, .ref a19, .int 0, .int 0, .int 0, .ref a23, .ref a24, .ref a25, .ref a26, .ref a27, .ref a28, .ref a29, .ref a30, .ref a31, .ref a32, .ref a33, .ref a34, .int 0, .int 0, .ref a37, .ref a38, .ref a39, .ref a40, .ref a41, .int 0, .ref a43, .ref a44, .ref a45, .ref a46, .ref a47, .int 0, .int 0, .int 0, .int 0, .ref a52, .ref a53, .int 0, .int 0, .ref a56, .ref a57, .int 0, .ref a59, .ref a60, .ref a61])), (a4, .inl (cyI, 200, .inl x_up9))]) [0, 1] rfl
              refine va_calli (va_runV (As := [.int (p1 &&& 65535), .int 0]) (rest := []) ⟨hx, hb, hml, hown, hts⟩ (c_X9_below l dC dI cyI cyZ cyJ H.size h0 a4 a5 a6 a7 a8 a9 a10 a11 a12 a19 a23 a24 a25 a26 a27 a28 a29 a30 a31 a32 a33 a34 a37 a38 a39 a40 a41 a43 a44 a45 a46 a47 a52 a53 a56 a57 a59 a60 a61 (p1 &&& 65535) 0 (x_tycm ht9 hp1 (by assumption)).1 (x_tycm ht9 hp1 (by assumption)).2) (cwV 2 hts gX9_shared_X9_below rfl rfl rfl (by decide +kernel) ⟨Nat.le_of_ble_eq_true rfl, Nat.le_of_ble_eq_true rfl⟩) (x_pV hN hK hPc (ci := 9) (q0 := 0) rfl rfl) rfl rfl hl.1 rfl (lv_room (Nat.le_of_ble_eq_true rfl)) dX9_shared_70 ⟨Nat.le_of_ble_eq_true rfl, Nat.le_of_ble_eq_true rfl⟩) hS x_nA (x_nf hA hS) (fun r_70 u t H1 locs ht hvm hw hB hz1 hk1 hS => ?_)
              have hP := x_kp hP hk1
              clear ht hvm hB hz1 hk1 t u hPc
              generalize H1 = H at hP hS ⊢
              obtain rfl := hw
              refine lv_if_ne (tgt := 88) hx hb dX9_shared_73 (by decide) (fun c_36 => ?_) (fun c_36 => ?_)
              · skip
                refine lv_iload hx hb dX9_shared_88 (lv_at hl 0 rfl) ?_
                exact W.iret hx hb hr (fun t ht hW => ⟨⟨_, (), rfl, by rw [f_X9_shared, if_neg c_1, if_pos c_2, if_pos c_17, if_pos c_32, if_pos c_33, if_pos c_34], trivial⟩, hS.F ht⟩) hS.2.2 dX9_shared_90
              · exact absurd c_36 (x_bel0 (x_tycm ht9 hp1 (by assumption)).1 (x_tycm ht9 hp1 (by assumption)).2)
          · skip
            refine lv_iconst (v := 0) hx hb dX9_shared_59 (by decide) ?_
            exact W.iret hx hb hr (fun t ht hW => ⟨⟨_, (), rfl, by rw [f_X9_shared, if_neg c_1, if_pos c_2, if_pos c_17, if_pos c_32, if_neg c_33], trivial⟩, hS.F ht⟩) hS.2.2 dX9_shared_60
  · skip
    refine lv_iload_n hx hb dX9_shared_5 rfl (lv_at hl 1 rfl) ?_
    exact W.iret hx hb hr (fun t ht hW => ⟨⟨_, (), rfl, by rw [f_X9_shared, if_pos c_1], trivial⟩, hS.F ht⟩) hS.2.2 dX9_shared_6

def f_X9_add (p0 : Int32) (p1 : Int32) : Int32 × Int32 := if (f_X9_isClass p0) = (0 : Int32) then (1, 0) else if (x_face (Int32.toNatClampNeg p0)) = (0 : Int32) then if p1 = (0 : Int32) then (0, 4) else if p0 = (0 : Int32) then (0, 4) else (1, 0) else (1, 0)
theorem i_X9_add_X9 : ∀ w ∈ wsX90, w ∈ wsX9_add := by decide +kernel
set_option maxHeartbeats 4000000 in
set_option maxRecDepth 100000 in
theorem c_X9_add (l : Launch) (dC : Nat → ClassId) (dI : Nat → Nat → Nat) (cyI cyZ cyJ : ClassId) (sz : Nat) (h0 : Nat) (a4 : Nat) (a5 : Nat) (a6 : Nat) (a7 : Nat) (a8 : Nat) (a9 : Nat) (a10 : Nat) (a11 : Nat) (a12 : Nat) (a19 : Nat) (a23 : Nat) (a24 : Nat) (a25 : Nat) (a26 : Nat) (a27 : Nat) (a28 : Nat) (a29 : Nat) (a30 : Nat) (a31 : Nat) (a32 : Nat) (a33 : Nat) (a34 : Nat) (a37 : Nat) (a38 : Nat) (a39 : Nat) (a40 : Nat) (a41 : Nat) (a43 : Nat) (a44 : Nat) (a45 : Nat) (a46 : Nat) (a47 : Nat) (a52 : Nat) (a53 : Nat) (a56 : Nat) (a57 : Nat) (a59 : Nat) (a60 : Nat) (a61 : Nat) (p0 : Int32) (p1 : Int32) : Met l yX9_add wsX9_add ({ frames := 1, cells := 0, slots := 0, locals := 21 }) (va_Pc [.ref h0, .int p0, .int p1] (x_PreD (dC, dI) (x_T cyI cyZ cyJ) [(h0, .inr (9, [.int 0, .int 4, .int 0, .int 0, .ref a4, .ref a5, .ref a6, .ref a7, .ref a8, .ref a9, .ref a10, .ref a11, .ref a12, .int 0, .int 0, .int (-1), .int 0, .int 0, .int 0, .ref a19, .int 0, .int 0, .int 0, .ref a23, .ref a24, .ref a25, .ref a26, .ref a27, .ref a28, .ref a29, .ref a30, .ref a31, .ref a32, .ref a33, .ref a34, .int 0, .int 0, .ref a37, .ref a38, .ref a39, .ref a40, .ref a41, .int 0, .ref a43, .ref a44, .ref a45, .ref a46, .ref a47, .int 0, .int 0, .int 0, .int 0, .ref a52, .ref a53, .int 0, .int 0, .ref a56, .ref a57, .int 0, .ref a59, .ref a60, .ref a61])), (a4, .inl (cyI, 200, .inl x_up9)), (a5, .inl (cyZ, 200, .inl x_face))] sz)) (va_Qi (fun (r : Int32) (_ : Unit) => r = (f_X9_add p0 p1).2) (fun (_ : Unit) (t : State) => ∃ u : List Value, va_P (dC, dI) vwCl [(h0, .inr (9, .int (f_X9_add p0 p1).1 :: u))] t.heap ∧ va_K (dC, dI) vwCl (x_T cyI cyZ cyJ) t ∧ va_D (va_A [(h0, .inr (9, [.int 0, .int 4, .int 0, .int 0, .ref a4, .ref a5, .ref a6, .ref a7, .ref a8, .ref a9, .ref a10, .ref a11, .ref a12, .int 0, .int 0, .int (-1), .int 0, .int 0, .int 0, .ref a19, .int 0, .int 0, .int 0, .ref a23, .ref a24, .ref a25, .ref a26, .ref a27, .ref a28, .ref a29, .ref a30, .ref a31, .ref a32, .ref a33, .ref a34, .int 0, .int 0, .ref a37, .ref a38, .ref a39, .ref a40, .ref a41, .int 0, .ref a43, .ref a44, .ref a45, .ref a46, .ref a47, .int 0, .int 0, .int 0, .int 0, .ref a52, .ref a53, .int 0, .int 0, .ref a56, .ref a57, .int 0, .ref a59, .ref a60, .ref a61])), (a4, .inl (cyI, 200, .inl x_up9)), (a5, .inl (cyZ, 200, .inl x_face))] sz) [(h0, .inr (9, .int (f_X9_add p0 p1).1 :: u))]) (va_A [(h0, .inr (9, [.int 0, .int 4, .int 0, .int 0, .ref a4, .ref a5, .ref a6, .ref a7, .ref a8, .ref a9, .ref a10, .ref a11, .ref a12, .int 0, .int 0, .int (-1), .int 0, .int 0, .int 0, .ref a19, .int 0, .int 0, .int 0, .ref a23, .ref a24, .ref a25, .ref a26, .ref a27, .ref a28, .ref a29, .ref a30, .ref a31, .ref a32, .ref a33, .ref a34, .int 0, .int 0, .ref a37, .ref a38, .ref a39, .ref a40, .ref a41, .int 0, .ref a43, .ref a44, .ref a45, .ref a46, .ref a47, .int 0, .int 0, .int 0, .int 0, .ref a52, .ref a53, .int 0, .int 0, .ref a56, .ref a57, .int 0, .ref a59, .ref a60, .ref a61])), (a4, .inl (cyI, 200, .inl x_up9)), (a5, .inl (cyZ, 200, .inl x_face))] sz)) 0 0 (va_A [(h0, .inr (9, [.int 0, .int 4, .int 0, .int 0, .ref a4, .ref a5, .ref a6, .ref a7, .ref a8, .ref a9, .ref a10, .ref a11, .ref a12, .int 0, .int 0, .int (-1), .int 0, .int 0, .int 0, .ref a19, .int 0, .int 0, .int 0, .ref a23, .ref a24, .ref a25, .ref a26, .ref a27, .ref a28, .ref a29, .ref a30, .ref a31, .ref a32, .ref a33, .ref a34, .int 0, .int 0, .ref a37, .ref a38, .ref a39, .ref a40, .ref a41, .int 0, .ref a43, .ref a44, .ref a45, .ref a46, .ref a47, .int 0, .int 0, .int 0, .int 0, .ref a52, .ref a53, .int 0, .int 0, .ref a56, .ref a57, .int 0, .ref a59, .ref a60, .ref a61])), (a4, .inl (cyI, 200, .inl x_up9)), (a5, .inl (cyZ, 200, .inl x_face))] sz) := by
  refine Met.ofW (cc := cX9_add) (maxL := 3) (ret := (some .int)) (by decide) rfl ?_
  intro p e s m args below meth c s₁ B hml hv
  obtain ⟨rfl, ⟨hsz, hP, hK, hN⟩, hD0⟩ := hv
  have hx := B.exec
  have hb := B.bytes
  have hr := B.returns
  have hts := atoms_spec (ws := wsX9_add) B.pre
  have hown : s.vm.findClass RX9 = some m.cls := findClass_of_methodNamed B.named
  have hlocks := B.notSynchronized
  have k_1 := hts (.fieldLink RX9 1 "FlowJudgeModel" "thrown" "I") (by decide +kernel)
  have k_2 := hts (.fieldLink RX9 20 "FlowJudgeModel" "face" "[Z") (by decide +kernel)
  have k_3 := hts (.fieldLink RX9 13 "FlowJudgeModel" "classes" "I") (by decide +kernel)
  have k_4 := hts (.fieldLink RX9 16 "FlowJudgeModel" "up" "[I") (by decide +kernel)
  subst hsz
  have hD := hD0.self (sz := s.heap.size)
  generalize hAe : va_A [(h0, .inr (9, [.int 0, .int 4, .int 0, .int 0, .ref a4, .ref a5, .ref a6, .ref a7, .ref a8, .ref a9, .ref a10, .ref a11, .ref a12, .int 0, .int 0, .int (-1), .int 0, .int 0, .int 0, .ref a19, .int 0, .int 0, .int 0, .ref a23, .ref a24, .ref a25, .ref a26, .ref a27, .ref a28, .ref a29, .ref a30, .ref a31, .ref a32, .ref a33, .ref a34, .int 0, .int 0, .ref a37, .ref a38, .ref a39, .ref a40, .ref a41, .int 0, .ref a43, .ref a44, .ref a45, .ref a46, .ref a47, .int 0, .int 0, .int 0, .int 0, .ref a52, .ref a53, .int 0, .int 0, .ref a56, .ref a57, .int 0, .ref a59, .ref a60, .ref a61])), (a4, .inl (cyI, 200, .inl x_up9)), (a5, .inl (cyZ, 200, .inl x_face))] s.heap.size = A at hD ⊢
  have hA : ∀ q : Nat, s.heap.size ≤ q → A q := fun q h => by rw [← hAe]; exact Or.inr h
  have hS : va_S A s.heap s.heap [] := va_S.rf
  have hP : va_P (dC, dI) vwCl [(h0, .inr (9, [.int 0, .int 4, .int 0, .int 0, .ref a4, .ref a5, .ref a6, .ref a7, .ref a8, .ref a9, .ref a10, .ref a11, .ref a12, .int 0, .int 0, .int (-1), .int 0, .int 0, .int 0, .ref a19, .int 0, .int 0, .int 0, .ref a23, .ref a24, .ref a25, .ref a26, .ref a27, .ref a28, .ref a29, .ref a30, .ref a31, .ref a32, .ref a33, .ref a34, .int 0, .int 0, .ref a37, .ref a38, .ref a39, .ref a40, .ref a41, .int 0, .ref a43, .ref a44, .ref a45, .ref a46, .ref a47, .int 0, .int 0, .int 0, .int 0, .ref a52, .ref a53, .int 0, .int 0, .ref a56, .ref a57, .int 0, .ref a59, .ref a60, .ref a61])), (a4, .inl (cyI, 200, .inl x_up9)), (a5, .inl (cyZ, 200, .inl x_face))] s.heap := hP
  have hl := lv_entry ([.ref h0, .int p0, .int p1]) (n := 3) (Nat.le_of_ble_eq_true rfl)
  rw [lg_entry_eq]
  generalize (lg_sl ([.ref h0, .int p0, .int p1]) ++ List.replicate (3 - (lg_sl ([.ref h0, .int p0, .int p1])).length) Slot.unset).toArray = ls at hl ⊢
  have hl : lv_has ls 3 [(0, .ref h0), (1, .int p0), (2, .int p1)] := hl
  obtain ⟨H, hH⟩ : ∃ z, z = s.heap := ⟨_, rfl⟩
  refine x_here hH ?_
  have hP : va_P (dC, dI) vwCl [(h0, .inr (9, [.int 0, .int 4, .int 0, .int 0, .ref a4, .ref a5, .ref a6, .ref a7, .ref a8, .ref a9, .ref a10, .ref a11, .ref a12, .int 0, .int 0, .int (-1), .int 0, .int 0, .int 0, .ref a19, .int 0, .int 0, .int 0, .ref a23, .ref a24, .ref a25, .ref a26, .ref a27, .ref a28, .ref a29, .ref a30, .ref a31, .ref a32, .ref a33, .ref a34, .int 0, .int 0, .ref a37, .ref a38, .ref a39, .ref a40, .ref a41, .int 0, .ref a43, .ref a44, .ref a45, .ref a46, .ref a47, .int 0, .int 0, .int 0, .int 0, .ref a52, .ref a53, .int 0, .int 0, .ref a56, .ref a57, .int 0, .ref a59, .ref a60, .ref a61])), (a4, .inl (cyI, 200, .inl x_up9)), (a5, .inl (cyZ, 200, .inl x_face))] H := by rw [hH]; exact hP
  have hS : va_S A s.heap H [] := by rw [hH]; exact va_S.rf
  clear hH
  refine lv_aload_n hx hb dX9_add_0 rfl (lv_at hl 0 rfl) ?_
  refine lv_iconst (v := 0) hx hb dX9_add_1 (by decide) ?_
  refine va_put (D := (dC, dI)) (ci := 9) (v := .int 0) (ty := .int) (C := RX9) (T := TX9) (N := 62) hx hb hts i_X9_add_X9 tyX9 tyX9_ok nmX9 hown hK hP hD hS 0 rfl rfl 0 (by decide) k_1 (fun _ h9 => h9) rfl (by decide +kernel) rfl rfl (Nat.le_of_ble_eq_true rfl) dX9_add_2 (fun H locs hP hD hS => ?_)
  have hP : va_P (dC, dI) vwCl [(h0, .inr (9, [.int 0, .int 4, .int 0, .int 0, .ref a4, .ref a5, .ref a6, .ref a7, .ref a8, .ref a9, .ref a10, .ref a11, .ref a12, .int 0, .int 0, .int (-1), .int 0, .int 0, .int 0, .ref a19, .int 0, .int 0, .int 0, .ref a23, .ref a24, .ref a25, .ref a26, .ref a27, .ref a28, .ref a29, .ref a30, .ref a31, .ref a32, .ref a33, .ref a34, .int 0, .int 0, .ref a37, .ref a38, .ref a39, .ref a40, .ref a41, .int 0, .ref a43, .ref a44, .ref a45, .ref a46, .ref a47, .int 0, .int 0, .int 0, .int 0, .ref a52, .ref a53, .int 0, .int 0, .ref a56, .ref a57, .int 0, .ref a59, .ref a60, .ref a61])), (a4, .inl (cyI, 200, .inl x_up9)), (a5, .inl (cyZ, 200, .inl x_face))] H := hP
  have hD : va_D A [(h0, .inr (9, [.int 0, .int 4, .int 0, .int 0, .ref a4, .ref a5, .ref a6, .ref a7, .ref a8, .ref a9, .ref a10, .ref a11, .ref a12, .int 0, .int 0, .int (-1), .int 0, .int 0, .int 0, .ref a19, .int 0, .int 0, .int 0, .ref a23, .ref a24, .ref a25, .ref a26, .ref a27, .ref a28, .ref a29, .ref a30, .ref a31, .ref a32, .ref a33, .ref a34, .int 0, .int 0, .ref a37, .ref a38, .ref a39, .ref a40, .ref a41, .int 0, .ref a43, .ref a44, .ref a45, .ref a46, .ref a47, .int 0, .int 0, .int 0, .int 0, .ref a52, .ref a53, .int 0, .int 0, .ref a56, .ref a57, .int 0, .ref a59, .ref a60, .ref a61])), (a4, .inl (cyI, 200, .inl x_up9)), (a5, .inl (cyZ, 200, .inl x_face))] := hD
  refine lv_aload_n hx hb dX9_add_5 rfl (lv_at hl 0 rfl) ?_
  refine lv_iload_n hx hb dX9_add_6 rfl (lv_at hl 1 rfl) ?_
  have hPc := hP.sub (ws' := [(h0, .inr (9, [.int 0, .int 4, .int 0, .int 0, .ref a4, .ref a5, .ref a6, .ref a7, .ref a8, .ref a9, .ref a10, .ref a11, .ref a12, .int 0, .int 0, .int (-1), .int 0, .int 0, .int 0, .ref a19, .int 0, .int 0, .int 0, .ref a23, .ref a24, .ref a25, .ref a26, .ref a27, .ref a28, .ref a29, .ref a30, .ref a31, .ref a32, .ref a33, .ref a34, .int 0, .int 0, .ref a37, .ref a38, .ref a39, .ref a40, .ref a41, .int 0, .ref a43, .ref a44, .ref a45, .ref a46, .ref a47, .int 0, .int 0, .int 0, .int 0, .ref a52, .ref a53, .int 0, .int 0, .ref a56, .ref a57, .int 0, .ref a59, .ref a60, .ref a61]))]) [0] rfl
  refine va_calli (va_runV (As := [.int p0]) (rest := []) ⟨hx, hb, hml, hown, hts⟩ (c_X9_isClass l dC dI cyI cyZ cyJ H.size h0 a4 a5 a6 a7 a8 a9 a10 a11 a12 a19 a23 a24 a25 a26 a27 a28 a29 a30 a31 a32 a33 a34 a37 a38 a39 a40 a41 a43 a44 a45 a46 a47 a52 a53 a56 a57 a59 a60 a61 p0) (cwV 1 hts gX9_add_X9_isClass rfl rfl rfl (by decide +kernel) ⟨Nat.le_of_ble_eq_true rfl, Nat.le_of_ble_eq_true rfl⟩) (x_pV hN hK hPc (ci := 9) (q0 := 0) rfl rfl) rfl rfl hl.1 rfl (lv_room (Nat.le_of_ble_eq_true rfl)) dX9_add_7 ⟨Nat.le_of_ble_eq_true rfl, Nat.le_of_ble_eq_true rfl⟩) hS x_nA (x_nf hA hS) (fun r_7 u t H1 locs ht hvm hw hB hz1 hk1 hS => ?_)
  have hP := x_kp hP hk1
  clear ht hvm hB hz1 hk1 t u hPc
  generalize H1 = H at hP hS ⊢
  obtain rfl := hw
  refine lv_if_eq (tgt := 30) hx hb dX9_add_10 (by decide) (fun c_1 => ?_) (fun c_1 => ?_)
  · skip
    refine lv_aload_n hx hb dX9_add_30 rfl (lv_at hl 0 rfl) ?_
    have hPc := hP.sub (ws' := [(h0, .inr (9, [.int 0, .int 4, .int 0, .int 0, .ref a4, .ref a5, .ref a6, .ref a7, .ref a8, .ref a9, .ref a10, .ref a11, .ref a12, .int 0, .int 0, .int (-1), .int 0, .int 0, .int 0, .ref a19, .int 0, .int 0, .int 0, .ref a23, .ref a24, .ref a25, .ref a26, .ref a27, .ref a28, .ref a29, .ref a30, .ref a31, .ref a32, .ref a33, .ref a34, .int 0, .int 0, .ref a37, .ref a38, .ref a39, .ref a40, .ref a41, .int 0, .ref a43, .ref a44, .ref a45, .ref a46, .ref a47, .int 0, .int 0, .int 0, .int 0, .ref a52, .ref a53, .int 0, .int 0, .ref a56, .ref a57, .int 0, .ref a59, .ref a60, .ref a61]))]) [0] rfl
    have hDc := hD.sub (ws' := [(h0, .inr (9, [.int 0, .int 4, .int 0, .int 0, .ref a4, .ref a5, .ref a6, .ref a7, .ref a8, .ref a9, .ref a10, .ref a11, .ref a12, .int 0, .int 0, .int (-1), .int 0, .int 0, .int 0, .ref a19, .int 0, .int 0, .int 0, .ref a23, .ref a24, .ref a25, .ref a26, .ref a27, .ref a28, .ref a29, .ref a30, .ref a31, .ref a32, .ref a33, .ref a34, .int 0, .int 0, .ref a37, .ref a38, .ref a39, .ref a40, .ref a41, .int 0, .ref a43, .ref a44, .ref a45, .ref a46, .ref a47, .int 0, .int 0, .int 0, .int 0, .ref a52, .ref a53, .int 0, .int 0, .ref a56, .ref a57, .int 0, .ref a59, .ref a60, .ref a61]))]) [0] (by decide) rfl
    have hFc := va_free (wc := [(h0, .inr (9, [.int 0, .int 4, .int 0, .int 0, .ref a4, .ref a5, .ref a6, .ref a7, .ref a8, .ref a9, .ref a10, .ref a11, .ref a12, .int 0, .int 0, .int (-1), .int 0, .int 0, .int 0, .ref a19, .int 0, .int 0, .int 0, .ref a23, .ref a24, .ref a25, .ref a26, .ref a27, .ref a28, .ref a29, .ref a30, .ref a31, .ref a32, .ref a33, .ref a34, .int 0, .int 0, .ref a37, .ref a38, .ref a39, .ref a40, .ref a41, .int 0, .ref a43, .ref a44, .ref a45, .ref a46, .ref a47, .int 0, .int 0, .int 0, .int 0, .ref a52, .ref a53, .int 0, .int 0, .ref a56, .ref a57, .int 0, .ref a59, .ref a60, .ref a61]))]) hD hS hA [0] rfl
    refine va_calli (va_runV (As := []) (rest := []) ⟨hx, hb, hml, hown, hts⟩ (c_X9_bad l dC dI cyI cyZ cyJ H.size h0 a4 a5 a6 a7 a8 a9 a10 a11 a12 a19 a23 a24 a25 a26 a27 a28 a29 a30 a31 a32 a33 a34 a37 a38 a39 a40 a41 a43 a44 a45 a46 a47 a52 a53 a56 a57 a59 a60 a61) (cwV 0 hts gX9_add_X9_bad rfl rfl rfl (by decide +kernel) ⟨Nat.le_of_ble_eq_true rfl, Nat.le_of_ble_eq_true rfl⟩) (x_pVD hN hK hPc hDc (ci := 9) (q0 := 0) rfl rfl) rfl rfl hl.1 rfl (lv_room (Nat.le_of_ble_eq_true rfl)) dX9_add_31 ⟨Nat.le_of_ble_eq_true rfl, Nat.le_of_ble_eq_true rfl⟩) hS (fun q _ h => hFc q h) hFc (fun r_31 u t H1 locs ht hvm hw hB hz1 hk1 hS => ?_)
    obtain ⟨hP1, hK1, hD1⟩ := hB
    rw [ht] at hP1
    obtain ⟨hP, hD⟩ := va_join (wr := [(a4, .inl (cyI, 200, .inl x_up9)), (a5, .inl (cyZ, 200, .inl x_face))]) (w1 := [(h0, .inr (9, [.int 1, .int 4, .int 0, .int 0, .ref a4, .ref a5, .ref a6, .ref a7, .ref a8, .ref a9, .ref a10, .ref a11, .ref a12, .int 0, .int 0, .int (-1), .int 0, .int 0, .int 0, .ref a19, .int 0, .int 0, .int 0, .ref a23, .ref a24, .ref a25, .ref a26, .ref a27, .ref a28, .ref a29, .ref a30, .ref a31, .ref a32, .ref a33, .ref a34, .int 0, .int 0, .ref a37, .ref a38, .ref a39, .ref a40, .ref a41, .int 0, .ref a43, .ref a44, .ref a45, .ref a46, .ref a47, .int 0, .int 0, .int 0, .int 0, .ref a52, .ref a53, .int 0, .int 0, .ref a56, .ref a57, .int 0, .ref a59, .ref a60, .ref a61]))]) hP hD [0] [1, 2] rfl rfl (by decide) (by decide) hk1 hFc hP1 hD1
    clear hz1 hk1 hPc hDc hFc hP1 hK1 hD1 ht hvm t u
    generalize H1 = H at hP hS ⊢
    have hP : va_P (dC, dI) vwCl [(a4, .inl (cyI, 200, .inl x_up9)), (a5, .inl (cyZ, 200, .inl x_face)), (h0, .inr (9, [.int 1, .int 4, .int 0, .int 0, .ref a4, .ref a5, .ref a6, .ref a7, .ref a8, .ref a9, .ref a10, .ref a11, .ref a12, .int 0, .int 0, .int (-1), .int 0, .int 0, .int 0, .ref a19, .int 0, .int 0, .int 0, .ref a23, .ref a24, .ref a25, .ref a26, .ref a27, .ref a28, .ref a29, .ref a30, .ref a31, .ref a32, .ref a33, .ref a34, .int 0, .int 0, .ref a37, .ref a38, .ref a39, .ref a40, .ref a41, .int 0, .ref a43, .ref a44, .ref a45, .ref a46, .ref a47, .int 0, .int 0, .int 0, .int 0, .ref a52, .ref a53, .int 0, .int 0, .ref a56, .ref a57, .int 0, .ref a59, .ref a60, .ref a61]))] H := hP
    have hD : va_D A [(a4, .inl (cyI, 200, .inl x_up9)), (a5, .inl (cyZ, 200, .inl x_face)), (h0, .inr (9, [.int 1, .int 4, .int 0, .int 0, .ref a4, .ref a5, .ref a6, .ref a7, .ref a8, .ref a9, .ref a10, .ref a11, .ref a12, .int 0, .int 0, .int (-1), .int 0, .int 0, .int 0, .ref a19, .int 0, .int 0, .int 0, .ref a23, .ref a24, .ref a25, .ref a26, .ref a27, .ref a28, .ref a29, .ref a30, .ref a31, .ref a32, .ref a33, .ref a34, .int 0, .int 0, .ref a37, .ref a38, .ref a39, .ref a40, .ref a41, .int 0, .ref a43, .ref a44, .ref a45, .ref a46, .ref a47, .int 0, .int 0, .int 0, .int 0, .ref a52, .ref a53, .int 0, .int 0, .ref a56, .ref a57, .int 0, .ref a59, .ref a60, .ref a61]))] := hD
    obtain rfl := hw
    have e9 : f_X9_add p0 p1 = (1, 0) := by rw [f_X9_add, if_pos c_1]
    have hP9 := hP.sub (ws' := [(h0, .inr (9, [.int 1, .int 4, .int 0, .int 0, .ref a4, .ref a5, .ref a6, .ref a7, .ref a8, .ref a9, .ref a10, .ref a11, .ref a12, .int 0, .int 0, .int (-1), .int 0, .int 0, .int 0, .ref a19, .int 0, .int 0, .int 0, .ref a23, .ref a24, .ref a25, .ref a26, .ref a27, .ref a28, .ref a29, .ref a30, .ref a31, .ref a32, .ref a33, .ref a34, .int 0, .int 0, .ref a37, .ref a38, .ref a39, .ref a40, .ref a41, .int 0, .ref a43, .ref a44, .ref a45, .ref a46, .ref a47, .int 0, .int 0, .int 0, .int 0, .ref a52, .ref a53, .int 0, .int 0, .ref a56, .ref a57, .int 0, .ref a59, .ref a60, .ref a61]))]) [2] rfl
    have hD9 := hD.sub (ws' := [(h0, .inr (9, [.int 1, .int 4, .int 0, .int 0, .ref a4, .ref a5, .ref a6, .ref a7, .ref a8, .ref a9, .ref a10, .ref a11, .ref a12, .int 0, .int 0, .int (-1), .int 0, .int 0, .int 0, .ref a19, .int 0, .int 0, .int 0, .ref a23, .ref a24, .ref a25, .ref a26, .ref a27, .ref a28, .ref a29, .ref a30, .ref a31, .ref a32, .ref a33, .ref a34, .int 0, .int 0, .ref a37, .ref a38, .ref a39, .ref a40, .ref a41, .int 0, .ref a43, .ref a44, .ref a45, .ref a46, .ref a47, .int 0, .int 0, .int 0, .int 0, .ref a52, .ref a53, .int 0, .int 0, .ref a56, .ref a57, .int 0, .ref a59, .ref a60, .ref a61]))]) [2] (by decide) rfl
    exact W.iret hx hb hr (fun t ht hW => ⟨⟨_, (), rfl, by rw [e9], [.int 4, .int 0, .int 0, .ref a4, .ref a5, .ref a6, .ref a7, .ref a8, .ref a9, .ref a10, .ref a11, .ref a12, .int 0, .int 0, .int (-1), .int 0, .int 0, .int 0, .ref a19, .int 0, .int 0, .int 0, .ref a23, .ref a24, .ref a25, .ref a26, .ref a27, .ref a28, .ref a29, .ref a30, .ref a31, .ref a32, .ref a33, .ref a34, .int 0, .int 0, .ref a37, .ref a38, .ref a39, .ref a40, .ref a41, .int 0, .ref a43, .ref a44, .ref a45, .ref a46, .ref a47, .int 0, .int 0, .int 0, .int 0, .ref a52, .ref a53, .int 0, .int 0, .ref a56, .ref a57, .int 0, .ref a59, .ref a60, .ref a61], by rw [ht, e9]; exact hP9, va_K.moved hW.alike hK, by rw [e9]; exact hD9⟩, hS.F ht⟩) hS.2.2 dX9_add_34
  · skip
    refine lv_aload_n hx hb dX9_add_13 rfl (lv_at hl 0 rfl) ?_
    refine va_get (D := (dC, dI)) (ci := 9) (v := .ref a5) (C := RX9) (T := TX9) (N := 62) hx hb hts i_X9_add_X9 hown hK hP 0 rfl rfl 5 (by decide) k_2 (fun _ h9 => h9) rfl dX9_add_14 ?_
    refine lv_iload_n hx hb dX9_add_17 rfl (lv_at hl 1 rfl) ?_
    refine va_zald hx hb hK hP 2 1 rfl rfl (x_cls9 (by assumption)) dX9_add_18 ?_
    refine lv_if_ne (tgt := 30) hx hb dX9_add_19 (by decide) (fun c_2 => ?_) (fun c_2 => ?_)
    · skip
      refine lv_aload_n hx hb dX9_add_30 rfl (lv_at hl 0 rfl) ?_
      have hPc := hP.sub (ws' := [(h0, .inr (9, [.int 0, .int 4, .int 0, .int 0, .ref a4, .ref a5, .ref a6, .ref a7, .ref a8, .ref a9, .ref a10, .ref a11, .ref a12, .int 0, .int 0, .int (-1), .int 0, .int 0, .int 0, .ref a19, .int 0, .int 0, .int 0, .ref a23, .ref a24, .ref a25, .ref a26, .ref a27, .ref a28, .ref a29, .ref a30, .ref a31, .ref a32, .ref a33, .ref a34, .int 0, .int 0, .ref a37, .ref a38, .ref a39, .ref a40, .ref a41, .int 0, .ref a43, .ref a44, .ref a45, .ref a46, .ref a47, .int 0, .int 0, .int 0, .int 0, .ref a52, .ref a53, .int 0, .int 0, .ref a56, .ref a57, .int 0, .ref a59, .ref a60, .ref a61]))]) [0] rfl
      have hDc := hD.sub (ws' := [(h0, .inr (9, [.int 0, .int 4, .int 0, .int 0, .ref a4, .ref a5, .ref a6, .ref a7, .ref a8, .ref a9, .ref a10, .ref a11, .ref a12, .int 0, .int 0, .int (-1), .int 0, .int 0, .int 0, .ref a19, .int 0, .int 0, .int 0, .ref a23, .ref a24, .ref a25, .ref a26, .ref a27, .ref a28, .ref a29, .ref a30, .ref a31, .ref a32, .ref a33, .ref a34, .int 0, .int 0, .ref a37, .ref a38, .ref a39, .ref a40, .ref a41, .int 0, .ref a43, .ref a44, .ref a45, .ref a46, .ref a47, .int 0, .int 0, .int 0, .int 0, .ref a52, .ref a53, .int 0, .int 0, .ref a56, .ref a57, .int 0, .ref a59, .ref a60, .ref a61]))]) [0] (by decide) rfl
      have hFc := va_free (wc := [(h0, .inr (9, [.int 0, .int 4, .int 0, .int 0, .ref a4, .ref a5, .ref a6, .ref a7, .ref a8, .ref a9, .ref a10, .ref a11, .ref a12, .int 0, .int 0, .int (-1), .int 0, .int 0, .int 0, .ref a19, .int 0, .int 0, .int 0, .ref a23, .ref a24, .ref a25, .ref a26, .ref a27, .ref a28, .ref a29, .ref a30, .ref a31, .ref a32, .ref a33, .ref a34, .int 0, .int 0, .ref a37, .ref a38, .ref a39, .ref a40, .ref a41, .int 0, .ref a43, .ref a44, .ref a45, .ref a46, .ref a47, .int 0, .int 0, .int 0, .int 0, .ref a52, .ref a53, .int 0, .int 0, .ref a56, .ref a57, .int 0, .ref a59, .ref a60, .ref a61]))]) hD hS hA [0] rfl
      refine va_calli (va_runV (As := []) (rest := []) ⟨hx, hb, hml, hown, hts⟩ (c_X9_bad l dC dI cyI cyZ cyJ H.size h0 a4 a5 a6 a7 a8 a9 a10 a11 a12 a19 a23 a24 a25 a26 a27 a28 a29 a30 a31 a32 a33 a34 a37 a38 a39 a40 a41 a43 a44 a45 a46 a47 a52 a53 a56 a57 a59 a60 a61) (cwV 0 hts gX9_add_X9_bad rfl rfl rfl (by decide +kernel) ⟨Nat.le_of_ble_eq_true rfl, Nat.le_of_ble_eq_true rfl⟩) (x_pVD hN hK hPc hDc (ci := 9) (q0 := 0) rfl rfl) rfl rfl hl.1 rfl (lv_room (Nat.le_of_ble_eq_true rfl)) dX9_add_31 ⟨Nat.le_of_ble_eq_true rfl, Nat.le_of_ble_eq_true rfl⟩) hS (fun q _ h => hFc q h) hFc (fun r_31 u t H1 locs ht hvm hw hB hz1 hk1 hS => ?_)
      obtain ⟨hP1, hK1, hD1⟩ := hB
      rw [ht] at hP1
      obtain ⟨hP, hD⟩ := va_join (wr := [(a4, .inl (cyI, 200, .inl x_up9)), (a5, .inl (cyZ, 200, .inl x_face))]) (w1 := [(h0, .inr (9, [.int 1, .int 4, .int 0, .int 0, .ref a4, .ref a5, .ref a6, .ref a7, .ref a8, .ref a9, .ref a10, .ref a11, .ref a12, .int 0, .int 0, .int (-1), .int 0, .int 0, .int 0, .ref a19, .int 0, .int 0, .int 0, .ref a23, .ref a24, .ref a25, .ref a26, .ref a27, .ref a28, .ref a29, .ref a30, .ref a31, .ref a32, .ref a33, .ref a34, .int 0, .int 0, .ref a37, .ref a38, .ref a39, .ref a40, .ref a41, .int 0, .ref a43, .ref a44, .ref a45, .ref a46, .ref a47, .int 0, .int 0, .int 0, .int 0, .ref a52, .ref a53, .int 0, .int 0, .ref a56, .ref a57, .int 0, .ref a59, .ref a60, .ref a61]))]) hP hD [0] [1, 2] rfl rfl (by decide) (by decide) hk1 hFc hP1 hD1
      clear hz1 hk1 hPc hDc hFc hP1 hK1 hD1 ht hvm t u
      generalize H1 = H at hP hS ⊢
      have hP : va_P (dC, dI) vwCl [(a4, .inl (cyI, 200, .inl x_up9)), (a5, .inl (cyZ, 200, .inl x_face)), (h0, .inr (9, [.int 1, .int 4, .int 0, .int 0, .ref a4, .ref a5, .ref a6, .ref a7, .ref a8, .ref a9, .ref a10, .ref a11, .ref a12, .int 0, .int 0, .int (-1), .int 0, .int 0, .int 0, .ref a19, .int 0, .int 0, .int 0, .ref a23, .ref a24, .ref a25, .ref a26, .ref a27, .ref a28, .ref a29, .ref a30, .ref a31, .ref a32, .ref a33, .ref a34, .int 0, .int 0, .ref a37, .ref a38, .ref a39, .ref a40, .ref a41, .int 0, .ref a43, .ref a44, .ref a45, .ref a46, .ref a47, .int 0, .int 0, .int 0, .int 0, .ref a52, .ref a53, .int 0, .int 0, .ref a56, .ref a57, .int 0, .ref a59, .ref a60, .ref a61]))] H := hP
      have hD : va_D A [(a4, .inl (cyI, 200, .inl x_up9)), (a5, .inl (cyZ, 200, .inl x_face)), (h0, .inr (9, [.int 1, .int 4, .int 0, .int 0, .ref a4, .ref a5, .ref a6, .ref a7, .ref a8, .ref a9, .ref a10, .ref a11, .ref a12, .int 0, .int 0, .int (-1), .int 0, .int 0, .int 0, .ref a19, .int 0, .int 0, .int 0, .ref a23, .ref a24, .ref a25, .ref a26, .ref a27, .ref a28, .ref a29, .ref a30, .ref a31, .ref a32, .ref a33, .ref a34, .int 0, .int 0, .ref a37, .ref a38, .ref a39, .ref a40, .ref a41, .int 0, .ref a43, .ref a44, .ref a45, .ref a46, .ref a47, .int 0, .int 0, .int 0, .int 0, .ref a52, .ref a53, .int 0, .int 0, .ref a56, .ref a57, .int 0, .ref a59, .ref a60, .ref a61]))] := hD
      obtain rfl := hw
      have e9 : f_X9_add p0 p1 = (1, 0) := by rw [f_X9_add, if_neg c_1, if_neg c_2]
      have hP9 := hP.sub (ws' := [(h0, .inr (9, [.int 1, .int 4, .int 0, .int 0, .ref a4, .ref a5, .ref a6, .ref a7, .ref a8, .ref a9, .ref a10, .ref a11, .ref a12, .int 0, .int 0, .int (-1), .int 0, .int 0, .int 0, .ref a19, .int 0, .int 0, .int 0, .ref a23, .ref a24, .ref a25, .ref a26, .ref a27, .ref a28, .ref a29, .ref a30, .ref a31, .ref a32, .ref a33, .ref a34, .int 0, .int 0, .ref a37, .ref a38, .ref a39, .ref a40, .ref a41, .int 0, .ref a43, .ref a44, .ref a45, .ref a46, .ref a47, .int 0, .int 0, .int 0, .int 0, .ref a52, .ref a53, .int 0, .int 0, .ref a56, .ref a57, .int 0, .ref a59, .ref a60, .ref a61]))]) [2] rfl
      have hD9 := hD.sub (ws' := [(h0, .inr (9, [.int 1, .int 4, .int 0, .int 0, .ref a4, .ref a5, .ref a6, .ref a7, .ref a8, .ref a9, .ref a10, .ref a11, .ref a12, .int 0, .int 0, .int (-1), .int 0, .int 0, .int 0, .ref a19, .int 0, .int 0, .int 0, .ref a23, .ref a24, .ref a25, .ref a26, .ref a27, .ref a28, .ref a29, .ref a30, .ref a31, .ref a32, .ref a33, .ref a34, .int 0, .int 0, .ref a37, .ref a38, .ref a39, .ref a40, .ref a41, .int 0, .ref a43, .ref a44, .ref a45, .ref a46, .ref a47, .int 0, .int 0, .int 0, .int 0, .ref a52, .ref a53, .int 0, .int 0, .ref a56, .ref a57, .int 0, .ref a59, .ref a60, .ref a61]))]) [2] (by decide) rfl
      exact W.iret hx hb hr (fun t ht hW => ⟨⟨_, (), rfl, by rw [e9], [.int 4, .int 0, .int 0, .ref a4, .ref a5, .ref a6, .ref a7, .ref a8, .ref a9, .ref a10, .ref a11, .ref a12, .int 0, .int 0, .int (-1), .int 0, .int 0, .int 0, .ref a19, .int 0, .int 0, .int 0, .ref a23, .ref a24, .ref a25, .ref a26, .ref a27, .ref a28, .ref a29, .ref a30, .ref a31, .ref a32, .ref a33, .ref a34, .int 0, .int 0, .ref a37, .ref a38, .ref a39, .ref a40, .ref a41, .int 0, .ref a43, .ref a44, .ref a45, .ref a46, .ref a47, .int 0, .int 0, .int 0, .int 0, .ref a52, .ref a53, .int 0, .int 0, .ref a56, .ref a57, .int 0, .ref a59, .ref a60, .ref a61], by rw [ht, e9]; exact hP9, va_K.moved hW.alike hK, by rw [e9]; exact hD9⟩, hS.F ht⟩) hS.2.2 dX9_add_34
    · skip
      refine lv_iload_n hx hb dX9_add_22 rfl (lv_at hl 2 rfl) ?_
      refine lv_if_eq (tgt := 35) hx hb dX9_add_23 (by decide) (fun c_3 => ?_) (fun c_3 => ?_)
      · skip
        refine lv_aload_n hx hb dX9_add_35 rfl (lv_at hl 0 rfl) ?_
        refine va_get (D := (dC, dI)) (ci := 9) (v := .int 4) (C := RX9) (T := TX9) (N := 62) hx hb hts i_X9_add_X9 hown hK hP 0 rfl rfl 1 (by decide) k_3 (fun _ h9 => h9) rfl dX9_add_36 ?_
        refine lv_sipush (v := 200) hx hb dX9_add_39 (by decide) ?_
        refine lv_icmp_ne (tgt := 50) hx hb dX9_add_42 (by decide) (fun _ => ?_) (fun c_4 => absurd c_4 (by decide))
        refine lv_aload_n hx hb dX9_add_50 rfl (lv_at hl 0 rfl) ?_
        refine va_get (D := (dC, dI)) (ci := 9) (v := .ref a4) (C := RX9) (T := TX9) (N := 62) hx hb hts i_X9_add_X9 hown hK hP 0 rfl rfl 4 (by decide) k_4 (fun _ h9 => h9) rfl dX9_add_51 ?_
        refine lv_aload_n hx hb dX9_add_54 rfl (lv_at hl 0 rfl) ?_
        refine va_get (D := (dC, dI)) (ci := 9) (v := .int 4) (C := RX9) (T := TX9) (N := 62) hx hb hts i_X9_add_X9 hown hK hP 0 rfl rfl 1 (by decide) k_3 (fun _ h9 => h9) rfl dX9_add_55 ?_
        refine lv_iload_n hx hb dX9_add_58 rfl (lv_at hl 1 rfl) ?_
        refine va_iast hx hb hK hP hD hS 1 0 rfl rfl (x_lit _ _ (by decide)) dX9_add_59 (fun H locs hP hD hS => ?_)
        have hP : va_P (dC, dI) vwCl [(h0, .inr (9, [.int 0, .int 4, .int 0, .int 0, .ref a4, .ref a5, .ref a6, .ref a7, .ref a8, .ref a9, .ref a10, .ref a11, .ref a12, .int 0, .int 0, .int (-1), .int 0, .int 0, .int 0, .ref a19, .int 0, .int 0, .int 0, .ref a23, .ref a24, .ref a25, .ref a26, .ref a27, .ref a28, .ref a29, .ref a30, .ref a31, .ref a32, .ref a33, .ref a34, .int 0, .int 0, .ref a37, .ref a38, .ref a39, .ref a40, .ref a41, .int 0, .ref a43, .ref a44, .ref a45, .ref a46, .ref a47, .int 0, .int 0, .int 0, .int 0, .ref a52, .ref a53, .int 0, .int 0, .ref a56, .ref a57, .int 0, .ref a59, .ref a60, .ref a61])), (a4, .inl (cyI, 200, .inl (upd x_up9 (Int32.toNatClampNeg 4) p0))), (a5, .inl (cyZ, 200, .inl x_face))] H := hP
        have hD : va_D A [(h0, .inr (9, [.int 0, .int 4, .int 0, .int 0, .ref a4, .ref a5, .ref a6, .ref a7, .ref a8, .ref a9, .ref a10, .ref a11, .ref a12, .int 0, .int 0, .int (-1), .int 0, .int 0, .int 0, .ref a19, .int 0, .int 0, .int 0, .ref a23, .ref a24, .ref a25, .ref a26, .ref a27, .ref a28, .ref a29, .ref a30, .ref a31, .ref a32, .ref a33, .ref a34, .int 0, .int 0, .ref a37, .ref a38, .ref a39, .ref a40, .ref a41, .int 0, .ref a43, .ref a44, .ref a45, .ref a46, .ref a47, .int 0, .int 0, .int 0, .int 0, .ref a52, .ref a53, .int 0, .int 0, .ref a56, .ref a57, .int 0, .ref a59, .ref a60, .ref a61])), (a4, .inl (cyI, 200, .inl (upd x_up9 (Int32.toNatClampNeg 4) p0))), (a5, .inl (cyZ, 200, .inl x_face))] := hD
        refine lv_aload_n hx hb dX9_add_60 rfl (lv_at hl 0 rfl) ?_
        refine va_get (D := (dC, dI)) (ci := 9) (v := .ref a5) (C := RX9) (T := TX9) (N := 62) hx hb hts i_X9_add_X9 hown hK hP 0 rfl rfl 5 (by decide) k_2 (fun _ h9 => h9) rfl dX9_add_61 ?_
        refine lv_aload_n hx hb dX9_add_64 rfl (lv_at hl 0 rfl) ?_
        refine va_get (D := (dC, dI)) (ci := 9) (v := .int 4) (C := RX9) (T := TX9) (N := 62) hx hb hts i_X9_add_X9 hown hK hP 0 rfl rfl 1 (by decide) k_3 (fun _ h9 => h9) rfl dX9_add_65 ?_
        refine lv_iload_n hx hb dX9_add_68 rfl (lv_at hl 2 rfl) ?_
        refine va_zast hx hb hK hP hD hS 2 1 rfl rfl (x_lit _ _ (by decide)) dX9_add_69 (fun H locs hP hD hS => ?_)
        have hP : va_P (dC, dI) vwCl [(h0, .inr (9, [.int 0, .int 4, .int 0, .int 0, .ref a4, .ref a5, .ref a6, .ref a7, .ref a8, .ref a9, .ref a10, .ref a11, .ref a12, .int 0, .int 0, .int (-1), .int 0, .int 0, .int 0, .ref a19, .int 0, .int 0, .int 0, .ref a23, .ref a24, .ref a25, .ref a26, .ref a27, .ref a28, .ref a29, .ref a30, .ref a31, .ref a32, .ref a33, .ref a34, .int 0, .int 0, .ref a37, .ref a38, .ref a39, .ref a40, .ref a41, .int 0, .ref a43, .ref a44, .ref a45, .ref a46, .ref a47, .int 0, .int 0, .int 0, .int 0, .ref a52, .ref a53, .int 0, .int 0, .ref a56, .ref a57, .int 0, .ref a59, .ref a60, .ref a61])), (a4, .inl (cyI, 200, .inl (upd x_up9 (Int32.toNatClampNeg 4) p0))), (a5, .inl (cyZ, 200, .inl (upd x_face (Int32.toNatClampNeg 4) (vp_nar .boolean p1))))] H := hP
        have hD : va_D A [(h0, .inr (9, [.int 0, .int 4, .int 0, .int 0, .ref a4, .ref a5, .ref a6, .ref a7, .ref a8, .ref a9, .ref a10, .ref a11, .ref a12, .int 0, .int 0, .int (-1), .int 0, .int 0, .int 0, .ref a19, .int 0, .int 0, .int 0, .ref a23, .ref a24, .ref a25, .ref a26, .ref a27, .ref a28, .ref a29, .ref a30, .ref a31, .ref a32, .ref a33, .ref a34, .int 0, .int 0, .ref a37, .ref a38, .ref a39, .ref a40, .ref a41, .int 0, .ref a43, .ref a44, .ref a45, .ref a46, .ref a47, .int 0, .int 0, .int 0, .int 0, .ref a52, .ref a53, .int 0, .int 0, .ref a56, .ref a57, .int 0, .ref a59, .ref a60, .ref a61])), (a4, .inl (cyI, 200, .inl (upd x_up9 (Int32.toNatClampNeg 4) p0))), (a5, .inl (cyZ, 200, .inl (upd x_face (Int32.toNatClampNeg 4) (vp_nar .boolean p1))))] := hD
        refine lv_aload_n hx hb dX9_add_70 rfl (lv_at hl 0 rfl) ?_
        refine lv_dup hx hb dX9_add_71 rfl ?_
        refine va_get (D := (dC, dI)) (ci := 9) (v := .int 4) (C := RX9) (T := TX9) (N := 62) hx hb hts i_X9_add_X9 hown hK hP 0 rfl rfl 1 (by decide) k_3 (fun _ h9 => h9) rfl dX9_add_72 ?_
        refine lv_dup_x1 hx hb dX9_add_75 rfl rfl ?_
        refine lv_iconst (v := 1) hx hb dX9_add_76 (by decide) ?_
        refine lv_iadd hx hb dX9_add_77 ?_
        refine lv_topi (fun z_5 ez_5 => ?_)
        obtain rfl : z_5 = 5 := ez_5.trans (by decide)
        refine va_put (D := (dC, dI)) (ci := 9) (v := .int 5) (ty := .int) (C := RX9) (T := TX9) (N := 62) hx hb hts i_X9_add_X9 tyX9 tyX9_ok nmX9 hown hK hP hD hS 0 rfl rfl 1 (by decide) k_3 (fun _ h9 => h9) rfl (by decide +kernel) rfl rfl (Nat.le_of_ble_eq_true rfl) dX9_add_78 (fun H locs hP hD hS => ?_)
        have hP : va_P (dC, dI) vwCl [(h0, .inr (9, [.int 0, .int 5, .int 0, .int 0, .ref a4, .ref a5, .ref a6, .ref a7, .ref a8, .ref a9, .ref a10, .ref a11, .ref a12, .int 0, .int 0, .int (-1), .int 0, .int 0, .int 0, .ref a19, .int 0, .int 0, .int 0, .ref a23, .ref a24, .ref a25, .ref a26, .ref a27, .ref a28, .ref a29, .ref a30, .ref a31, .ref a32, .ref a33, .ref a34, .int 0, .int 0, .ref a37, .ref a38, .ref a39, .ref a40, .ref a41, .int 0, .ref a43, .ref a44, .ref a45, .ref a46, .ref a47, .int 0, .int 0, .int 0, .int 0, .ref a52, .ref a53, .int 0, .int 0, .ref a56, .ref a57, .int 0, .ref a59, .ref a60, .ref a61])), (a4, .inl (cyI, 200, .inl (upd x_up9 (Int32.toNatClampNeg 4) p0))), (a5, .inl (cyZ, 200, .inl (upd x_face (Int32.toNatClampNeg 4) (vp_nar .boolean p1))))] H := hP
        have hD : va_D A [(h0, .inr (9, [.int 0, .int 5, .int 0, .int 0, .ref a4, .ref a5, .ref a6, .ref a7, .ref a8, .ref a9, .ref a10, .ref a11, .ref a12, .int 0, .int 0, .int (-1), .int 0, .int 0, .int 0, .ref a19, .int 0, .int 0, .int 0, .ref a23, .ref a24, .ref a25, .ref a26, .ref a27, .ref a28, .ref a29, .ref a30, .ref a31, .ref a32, .ref a33, .ref a34, .int 0, .int 0, .ref a37, .ref a38, .ref a39, .ref a40, .ref a41, .int 0, .ref a43, .ref a44, .ref a45, .ref a46, .ref a47, .int 0, .int 0, .int 0, .int 0, .ref a52, .ref a53, .int 0, .int 0, .ref a56, .ref a57, .int 0, .ref a59, .ref a60, .ref a61])), (a4, .inl (cyI, 200, .inl (upd x_up9 (Int32.toNatClampNeg 4) p0))), (a5, .inl (cyZ, 200, .inl (upd x_face (Int32.toNatClampNeg 4) (vp_nar .boolean p1))))] := hD
        have e9 : f_X9_add p0 p1 = (0, 4) := by rw [f_X9_add, if_neg c_1, if_pos c_2, if_pos c_3]
        have hP9 := hP.sub (ws' := [(h0, .inr (9, [.int 0, .int 5, .int 0, .int 0, .ref a4, .ref a5, .ref a6, .ref a7, .ref a8, .ref a9, .ref a10, .ref a11, .ref a12, .int 0, .int 0, .int (-1), .int 0, .int 0, .int 0, .ref a19, .int 0, .int 0, .int 0, .ref a23, .ref a24, .ref a25, .ref a26, .ref a27, .ref a28, .ref a29, .ref a30, .ref a31, .ref a32, .ref a33, .ref a34, .int 0, .int 0, .ref a37, .ref a38, .ref a39, .ref a40, .ref a41, .int 0, .ref a43, .ref a44, .ref a45, .ref a46, .ref a47, .int 0, .int 0, .int 0, .int 0, .ref a52, .ref a53, .int 0, .int 0, .ref a56, .ref a57, .int 0, .ref a59, .ref a60, .ref a61]))]) [0] rfl
        have hD9 := hD.sub (ws' := [(h0, .inr (9, [.int 0, .int 5, .int 0, .int 0, .ref a4, .ref a5, .ref a6, .ref a7, .ref a8, .ref a9, .ref a10, .ref a11, .ref a12, .int 0, .int 0, .int (-1), .int 0, .int 0, .int 0, .ref a19, .int 0, .int 0, .int 0, .ref a23, .ref a24, .ref a25, .ref a26, .ref a27, .ref a28, .ref a29, .ref a30, .ref a31, .ref a32, .ref a33, .ref a34, .int 0, .int 0, .ref a37, .ref a38, .ref a39, .ref a40, .ref a41, .int 0, .ref a43, .ref a44, .ref a45, .ref a46, .ref a47, .int 0, .int 0, .int 0, .int 0, .ref a52, .ref a53, .int 0, .int 0, .ref a56, .ref a57, .int 0, .ref a59, .ref a60, .ref a61]))]) [0] (by decide) rfl
        exact W.iret hx hb hr (fun t ht hW => ⟨⟨_, (), rfl, by rw [e9], [.int 5, .int 0, .int 0, .ref a4, .ref a5, .ref a6, .ref a7, .ref a8, .ref a9, .ref a10, .ref a11, .ref a12, .int 0, .int 0, .int (-1), .int 0, .int 0, .int 0, .ref a19, .int 0, .int 0, .int 0, .ref a23, .ref a24, .ref a25, .ref a26, .ref a27, .ref a28, .ref a29, .ref a30, .ref a31, .ref a32, .ref a33, .ref a34, .int 0, .int 0, .ref a37, .ref a38, .ref a39, .ref a40, .ref a41, .int 0, .ref a43, .ref a44, .ref a45, .ref a46, .ref a47, .int 0, .int 0, .int 0, .int 0, .ref a52, .ref a53, .int 0, .int 0, .ref a56, .ref a57, .int 0, .ref a59, .ref a60, .ref a61], by rw [ht, e9]; exact hP9, va_K.moved hW.alike hK, by rw [e9]; exact hD9⟩, hS.F ht⟩) hS.2.2 dX9_add_81
      · skip
        refine lv_iload_n hx hb dX9_add_26 rfl (lv_at hl 1 rfl) ?_
        refine lv_if_eq (tgt := 35) hx hb dX9_add_27 (by decide) (fun c_6 => ?_) (fun c_6 => ?_)
        · skip
          refine lv_aload_n hx hb dX9_add_35 rfl (lv_at hl 0 rfl) ?_
          refine va_get (D := (dC, dI)) (ci := 9) (v := .int 4) (C := RX9) (T := TX9) (N := 62) hx hb hts i_X9_add_X9 hown hK hP 0 rfl rfl 1 (by decide) k_3 (fun _ h9 => h9) rfl dX9_add_36 ?_
          refine lv_sipush (v := 200) hx hb dX9_add_39 (by decide) ?_
          refine lv_icmp_ne (tgt := 50) hx hb dX9_add_42 (by decide) (fun _ => ?_) (fun c_7 => absurd c_7 (by decide))
          refine lv_aload_n hx hb dX9_add_50 rfl (lv_at hl 0 rfl) ?_
          refine va_get (D := (dC, dI)) (ci := 9) (v := .ref a4) (C := RX9) (T := TX9) (N := 62) hx hb hts i_X9_add_X9 hown hK hP 0 rfl rfl 4 (by decide) k_4 (fun _ h9 => h9) rfl dX9_add_51 ?_
          refine lv_aload_n hx hb dX9_add_54 rfl (lv_at hl 0 rfl) ?_
          refine va_get (D := (dC, dI)) (ci := 9) (v := .int 4) (C := RX9) (T := TX9) (N := 62) hx hb hts i_X9_add_X9 hown hK hP 0 rfl rfl 1 (by decide) k_3 (fun _ h9 => h9) rfl dX9_add_55 ?_
          refine lv_iload_n hx hb dX9_add_58 rfl (lv_at hl 1 rfl) ?_
          refine va_iast hx hb hK hP hD hS 1 0 rfl rfl (x_lit _ _ (by decide)) dX9_add_59 (fun H locs hP hD hS => ?_)
          have hP : va_P (dC, dI) vwCl [(h0, .inr (9, [.int 0, .int 4, .int 0, .int 0, .ref a4, .ref a5, .ref a6, .ref a7, .ref a8, .ref a9, .ref a10, .ref a11, .ref a12, .int 0, .int 0, .int (-1), .int 0, .int 0, .int 0, .ref a19, .int 0, .int 0, .int 0, .ref a23, .ref a24, .ref a25, .ref a26, .ref a27, .ref a28, .ref a29, .ref a30, .ref a31, .ref a32, .ref a33, .ref a34, .int 0, .int 0, .ref a37, .ref a38, .ref a39, .ref a40, .ref a41, .int 0, .ref a43, .ref a44, .ref a45, .ref a46, .ref a47, .int 0, .int 0, .int 0, .int 0, .ref a52, .ref a53, .int 0, .int 0, .ref a56, .ref a57, .int 0, .ref a59, .ref a60, .ref a61])), (a4, .inl (cyI, 200, .inl (upd x_up9 (Int32.toNatClampNeg 4) p0))), (a5, .inl (cyZ, 200, .inl x_face))] H := hP
          have hD : va_D A [(h0, .inr (9, [.int 0, .int 4, .int 0, .int 0, .ref a4, .ref a5, .ref a6, .ref a7, .ref a8, .ref a9, .ref a10, .ref a11, .ref a12, .int 0, .int 0, .int (-1), .int 0, .int 0, .int 0, .ref a19, .int 0, .int 0, .int 0, .ref a23, .ref a24, .ref a25, .ref a26, .ref a27, .ref a28, .ref a29, .ref a30, .ref a31, .ref a32, .ref a33, .ref a34, .int 0, .int 0, .ref a37, .ref a38, .ref a39, .ref a40, .ref a41, .int 0, .ref a43, .ref a44, .ref a45, .ref a46, .ref a47, .int 0, .int 0, .int 0, .int 0, .ref a52, .ref a53, .int 0, .int 0, .ref a56, .ref a57, .int 0, .ref a59, .ref a60, .ref a61])), (a4, .inl (cyI, 200, .inl (upd x_up9 (Int32.toNatClampNeg 4) p0))), (a5, .inl (cyZ, 200, .inl x_face))] := hD
          refine lv_aload_n hx hb dX9_add_60 rfl (lv_at hl 0 rfl) ?_
          refine va_get (D := (dC, dI)) (ci := 9) (v := .ref a5) (C := RX9) (T := TX9) (N := 62) hx hb hts i_X9_add_X9 hown hK hP 0 rfl rfl 5 (by decide) k_2 (fun _ h9 => h9) rfl dX9_add_61 ?_
          refine lv_aload_n hx hb dX9_add_64 rfl (lv_at hl 0 rfl) ?_
          refine va_get (D := (dC, dI)) (ci := 9) (v := .int 4) (C := RX9) (T := TX9) (N := 62) hx hb hts i_X9_add_X9 hown hK hP 0 rfl rfl 1 (by decide) k_3 (fun _ h9 => h9) rfl dX9_add_65 ?_
          refine lv_iload_n hx hb dX9_add_68 rfl (lv_at hl 2 rfl) ?_
          refine va_zast hx hb hK hP hD hS 2 1 rfl rfl (x_lit _ _ (by decide)) dX9_add_69 (fun H locs hP hD hS => ?_)
          have hP : va_P (dC, dI) vwCl [(h0, .inr (9, [.int 0, .int 4, .int 0, .int 0, .ref a4, .ref a5, .ref a6, .ref a7, .ref a8, .ref a9, .ref a10, .ref a11, .ref a12, .int 0, .int 0, .int (-1), .int 0, .int 0, .int 0, .ref a19, .int 0, .int 0, .int 0, .ref a23, .ref a24, .ref a25, .ref a26, .ref a27, .ref a28, .ref a29, .ref a30, .ref a31, .ref a32, .ref a33, .ref a34, .int 0, .int 0, .ref a37, .ref a38, .ref a39, .ref a40, .ref a41, .int 0, .ref a43, .ref a44, .ref a45, .ref a46, .ref a47, .int 0, .int 0, .int 0, .int 0, .ref a52, .ref a53, .int 0, .int 0, .ref a56, .ref a57, .int 0, .ref a59, .ref a60, .ref a61])), (a4, .inl (cyI, 200, .inl (upd x_up9 (Int32.toNatClampNeg 4) p0))), (a5, .inl (cyZ, 200, .inl (upd x_face (Int32.toNatClampNeg 4) (vp_nar .boolean p1))))] H := hP
          have hD : va_D A [(h0, .inr (9, [.int 0, .int 4, .int 0, .int 0, .ref a4, .ref a5, .ref a6, .ref a7, .ref a8, .ref a9, .ref a10, .ref a11, .ref a12, .int 0, .int 0, .int (-1), .int 0, .int 0, .int 0, .ref a19, .int 0, .int 0, .int 0, .ref a23, .ref a24, .ref a25, .ref a26, .ref a27, .ref a28, .ref a29, .ref a30, .ref a31, .ref a32, .ref a33, .ref a34, .int 0, .int 0, .ref a37, .ref a38, .ref a39, .ref a40, .ref a41, .int 0, .ref a43, .ref a44, .ref a45, .ref a46, .ref a47, .int 0, .int 0, .int 0, .int 0, .ref a52, .ref a53, .int 0, .int 0, .ref a56, .ref a57, .int 0, .ref a59, .ref a60, .ref a61])), (a4, .inl (cyI, 200, .inl (upd x_up9 (Int32.toNatClampNeg 4) p0))), (a5, .inl (cyZ, 200, .inl (upd x_face (Int32.toNatClampNeg 4) (vp_nar .boolean p1))))] := hD
          refine lv_aload_n hx hb dX9_add_70 rfl (lv_at hl 0 rfl) ?_
          refine lv_dup hx hb dX9_add_71 rfl ?_
          refine va_get (D := (dC, dI)) (ci := 9) (v := .int 4) (C := RX9) (T := TX9) (N := 62) hx hb hts i_X9_add_X9 hown hK hP 0 rfl rfl 1 (by decide) k_3 (fun _ h9 => h9) rfl dX9_add_72 ?_
          refine lv_dup_x1 hx hb dX9_add_75 rfl rfl ?_
          refine lv_iconst (v := 1) hx hb dX9_add_76 (by decide) ?_
          refine lv_iadd hx hb dX9_add_77 ?_
          refine lv_topi (fun z_8 ez_8 => ?_)
          obtain rfl : z_8 = 5 := ez_8.trans (by decide)
          refine va_put (D := (dC, dI)) (ci := 9) (v := .int 5) (ty := .int) (C := RX9) (T := TX9) (N := 62) hx hb hts i_X9_add_X9 tyX9 tyX9_ok nmX9 hown hK hP hD hS 0 rfl rfl 1 (by decide) k_3 (fun _ h9 => h9) rfl (by decide +kernel) rfl rfl (Nat.le_of_ble_eq_true rfl) dX9_add_78 (fun H locs hP hD hS => ?_)
          have hP : va_P (dC, dI) vwCl [(h0, .inr (9, [.int 0, .int 5, .int 0, .int 0, .ref a4, .ref a5, .ref a6, .ref a7, .ref a8, .ref a9, .ref a10, .ref a11, .ref a12, .int 0, .int 0, .int (-1), .int 0, .int 0, .int 0, .ref a19, .int 0, .int 0, .int 0, .ref a23, .ref a24, .ref a25, .ref a26, .ref a27, .ref a28, .ref a29, .ref a30, .ref a31, .ref a32, .ref a33, .ref a34, .int 0, .int 0, .ref a37, .ref a38, .ref a39, .ref a40, .ref a41, .int 0, .ref a43, .ref a44, .ref a45, .ref a46, .ref a47, .int 0, .int 0, .int 0, .int 0, .ref a52, .ref a53, .int 0, .int 0, .ref a56, .ref a57, .int 0, .ref a59, .ref a60, .ref a61])), (a4, .inl (cyI, 200, .inl (upd x_up9 (Int32.toNatClampNeg 4) p0))), (a5, .inl (cyZ, 200, .inl (upd x_face (Int32.toNatClampNeg 4) (vp_nar .boolean p1))))] H := hP
          have hD : va_D A [(h0, .inr (9, [.int 0, .int 5, .int 0, .int 0, .ref a4, .ref a5, .ref a6, .ref a7, .ref a8, .ref a9, .ref a10, .ref a11, .ref a12, .int 0, .int 0, .int (-1), .int 0, .int 0, .int 0, .ref a19, .int 0, .int 0, .int 0, .ref a23, .ref a24, .ref a25, .ref a26, .ref a27, .ref a28, .ref a29, .ref a30, .ref a31, .ref a32, .ref a33, .ref a34, .int 0, .int 0, .ref a37, .ref a38, .ref a39, .ref a40, .ref a41, .int 0, .ref a43, .ref a44, .ref a45, .ref a46, .ref a47, .int 0, .int 0, .int 0, .int 0, .ref a52, .ref a53, .int 0, .int 0, .ref a56, .ref a57, .int 0, .ref a59, .ref a60, .ref a61])), (a4, .inl (cyI, 200, .inl (upd x_up9 (Int32.toNatClampNeg 4) p0))), (a5, .inl (cyZ, 200, .inl (upd x_face (Int32.toNatClampNeg 4) (vp_nar .boolean p1))))] := hD
          have e9 : f_X9_add p0 p1 = (0, 4) := by rw [f_X9_add, if_neg c_1, if_pos c_2, if_neg c_3, if_pos c_6]
          have hP9 := hP.sub (ws' := [(h0, .inr (9, [.int 0, .int 5, .int 0, .int 0, .ref a4, .ref a5, .ref a6, .ref a7, .ref a8, .ref a9, .ref a10, .ref a11, .ref a12, .int 0, .int 0, .int (-1), .int 0, .int 0, .int 0, .ref a19, .int 0, .int 0, .int 0, .ref a23, .ref a24, .ref a25, .ref a26, .ref a27, .ref a28, .ref a29, .ref a30, .ref a31, .ref a32, .ref a33, .ref a34, .int 0, .int 0, .ref a37, .ref a38, .ref a39, .ref a40, .ref a41, .int 0, .ref a43, .ref a44, .ref a45, .ref a46, .ref a47, .int 0, .int 0, .int 0, .int 0, .ref a52, .ref a53, .int 0, .int 0, .ref a56, .ref a57, .int 0, .ref a59, .ref a60, .ref a61]))]) [0] rfl
          have hD9 := hD.sub (ws' := [(h0, .inr (9, [.int 0, .int 5, .int 0, .int 0, .ref a4, .ref a5, .ref a6, .ref a7, .ref a8, .ref a9, .ref a10, .ref a11, .ref a12, .int 0, .int 0, .int (-1), .int 0, .int 0, .int 0, .ref a19, .int 0, .int 0, .int 0, .ref a23, .ref a24, .ref a25, .ref a26, .ref a27, .ref a28, .ref a29, .ref a30, .ref a31, .ref a32, .ref a33, .ref a34, .int 0, .int 0, .ref a37, .ref a38, .ref a39, .ref a40, .ref a41, .int 0, .ref a43, .ref a44, .ref a45, .ref a46, .ref a47, .int 0, .int 0, .int 0, .int 0, .ref a52, .ref a53, .int 0, .int 0, .ref a56, .ref a57, .int 0, .ref a59, .ref a60, .ref a61]))]) [0] (by decide) rfl
          exact W.iret hx hb hr (fun t ht hW => ⟨⟨_, (), rfl, by rw [e9], [.int 5, .int 0, .int 0, .ref a4, .ref a5, .ref a6, .ref a7, .ref a8, .ref a9, .ref a10, .ref a11, .ref a12, .int 0, .int 0, .int (-1), .int 0, .int 0, .int 0, .ref a19, .int 0, .int 0, .int 0, .ref a23, .ref a24, .ref a25, .ref a26, .ref a27, .ref a28, .ref a29, .ref a30, .ref a31, .ref a32, .ref a33, .ref a34, .int 0, .int 0, .ref a37, .ref a38, .ref a39, .ref a40, .ref a41, .int 0, .ref a43, .ref a44, .ref a45, .ref a46, .ref a47, .int 0, .int 0, .int 0, .int 0, .ref a52, .ref a53, .int 0, .int 0, .ref a56, .ref a57, .int 0, .ref a59, .ref a60, .ref a61], by rw [ht, e9]; exact hP9, va_K.moved hW.alike hK, by rw [e9]; exact hD9⟩, hS.F ht⟩) hS.2.2 dX9_add_81
        · skip
          refine lv_aload_n hx hb dX9_add_30 rfl (lv_at hl 0 rfl) ?_
          have hPc := hP.sub (ws' := [(h0, .inr (9, [.int 0, .int 4, .int 0, .int 0, .ref a4, .ref a5, .ref a6, .ref a7, .ref a8, .ref a9, .ref a10, .ref a11, .ref a12, .int 0, .int 0, .int (-1), .int 0, .int 0, .int 0, .ref a19, .int 0, .int 0, .int 0, .ref a23, .ref a24, .ref a25, .ref a26, .ref a27, .ref a28, .ref a29, .ref a30, .ref a31, .ref a32, .ref a33, .ref a34, .int 0, .int 0, .ref a37, .ref a38, .ref a39, .ref a40, .ref a41, .int 0, .ref a43, .ref a44, .ref a45, .ref a46, .ref a47, .int 0, .int 0, .int 0, .int 0, .ref a52, .ref a53, .int 0, .int 0, .ref a56, .ref a57, .int 0, .ref a59, .ref a60, .ref a61]))]) [0] rfl
          have hDc := hD.sub (ws' := [(h0, .inr (9, [.int 0, .int 4, .int 0, .int 0, .ref a4, .ref a5, .ref a6, .ref a7, .ref a8, .ref a9, .ref a10, .ref a11, .ref a12, .int 0, .int 0, .int (-1), .int 0, .int 0, .int 0, .ref a19, .int 0, .int 0, .int 0, .ref a23, .ref a24, .ref a25, .ref a26, .ref a27, .ref a28, .ref a29, .ref a30, .ref a31, .ref a32, .ref a33, .ref a34, .int 0, .int 0, .ref a37, .ref a38, .ref a39, .ref a40, .ref a41, .int 0, .ref a43, .ref a44, .ref a45, .ref a46, .ref a47, .int 0, .int 0, .int 0, .int 0, .ref a52, .ref a53, .int 0, .int 0, .ref a56, .ref a57, .int 0, .ref a59, .ref a60, .ref a61]))]) [0] (by decide) rfl
          have hFc := va_free (wc := [(h0, .inr (9, [.int 0, .int 4, .int 0, .int 0, .ref a4, .ref a5, .ref a6, .ref a7, .ref a8, .ref a9, .ref a10, .ref a11, .ref a12, .int 0, .int 0, .int (-1), .int 0, .int 0, .int 0, .ref a19, .int 0, .int 0, .int 0, .ref a23, .ref a24, .ref a25, .ref a26, .ref a27, .ref a28, .ref a29, .ref a30, .ref a31, .ref a32, .ref a33, .ref a34, .int 0, .int 0, .ref a37, .ref a38, .ref a39, .ref a40, .ref a41, .int 0, .ref a43, .ref a44, .ref a45, .ref a46, .ref a47, .int 0, .int 0, .int 0, .int 0, .ref a52, .ref a53, .int 0, .int 0, .ref a56, .ref a57, .int 0, .ref a59, .ref a60, .ref a61]))]) hD hS hA [0] rfl
          refine va_calli (va_runV (As := []) (rest := []) ⟨hx, hb, hml, hown, hts⟩ (c_X9_bad l dC dI cyI cyZ cyJ H.size h0 a4 a5 a6 a7 a8 a9 a10 a11 a12 a19 a23 a24 a25 a26 a27 a28 a29 a30 a31 a32 a33 a34 a37 a38 a39 a40 a41 a43 a44 a45 a46 a47 a52 a53 a56 a57 a59 a60 a61) (cwV 0 hts gX9_add_X9_bad rfl rfl rfl (by decide +kernel) ⟨Nat.le_of_ble_eq_true rfl, Nat.le_of_ble_eq_true rfl⟩) (x_pVD hN hK hPc hDc (ci := 9) (q0 := 0) rfl rfl) rfl rfl hl.1 rfl (lv_room (Nat.le_of_ble_eq_true rfl)) dX9_add_31 ⟨Nat.le_of_ble_eq_true rfl, Nat.le_of_ble_eq_true rfl⟩) hS (fun q _ h => hFc q h) hFc (fun r_31 u t H1 locs ht hvm hw hB hz1 hk1 hS => ?_)
          obtain ⟨hP1, hK1, hD1⟩ := hB
          rw [ht] at hP1
          obtain ⟨hP, hD⟩ := va_join (wr := [(a4, .inl (cyI, 200, .inl x_up9)), (a5, .inl (cyZ, 200, .inl x_face))]) (w1 := [(h0, .inr (9, [.int 1, .int 4, .int 0, .int 0, .ref a4, .ref a5, .ref a6, .ref a7, .ref a8, .ref a9, .ref a10, .ref a11, .ref a12, .int 0, .int 0, .int (-1), .int 0, .int 0, .int 0, .ref a19, .int 0, .int 0, .int 0, .ref a23, .ref a24, .ref a25, .ref a26, .ref a27, .ref a28, .ref a29, .ref a30, .ref a31, .ref a32, .ref a33, .ref a34, .int 0, .int 0, .ref a37, .ref a38, .ref a39, .ref a40, .ref a41, .int 0, .ref a43, .ref a44, .ref a45, .ref a46, .ref a47, .int 0, .int 0, .int 0, .int 0, .ref a52, .ref a53, .int 0, .int 0, .ref a56, .ref a57, .int 0, .ref a59, .ref a60, .ref a61]))]) hP hD [0] [1, 2] rfl rfl (by decide) (by decide) hk1 hFc hP1 hD1
          clear hz1 hk1 hPc hDc hFc hP1 hK1 hD1 ht hvm t u
          generalize H1 = H at hP hS ⊢
          have hP : va_P (dC, dI) vwCl [(a4, .inl (cyI, 200, .inl x_up9)), (a5, .inl (cyZ, 200, .inl x_face)), (h0, .inr (9, [.int 1, .int 4, .int 0, .int 0, .ref a4, .ref a5, .ref a6, .ref a7, .ref a8, .ref a9, .ref a10, .ref a11, .ref a12, .int 0, .int 0, .int (-1), .int 0, .int 0, .int 0, .ref a19, .int 0, .int 0, .int 0, .ref a23, .ref a24, .ref a25, .ref a26, .ref a27, .ref a28, .ref a29, .ref a30, .ref a31, .ref a32, .ref a33, .ref a34, .int 0, .int 0, .ref a37, .ref a38, .ref a39, .ref a40, .ref a41, .int 0, .ref a43, .ref a44, .ref a45, .ref a46, .ref a47, .int 0, .int 0, .int 0, .int 0, .ref a52, .ref a53, .int 0, .int 0, .ref a56, .ref a57, .int 0, .ref a59, .ref a60, .ref a61]))] H := hP
          have hD : va_D A [(a4, .inl (cyI, 200, .inl x_up9)), (a5, .inl (cyZ, 200, .inl x_face)), (h0, .inr (9, [.int 1, .int 4, .int 0, .int 0, .ref a4, .ref a5, .ref a6, .ref a7, .ref a8, .ref a9, .ref a10, .ref a11, .ref a12, .int 0, .int 0, .int (-1), .int 0, .int 0, .int 0, .ref a19, .int 0, .int 0, .int 0, .ref a23, .ref a24, .ref a25, .ref a26, .ref a27, .ref a28, .ref a29, .ref a30, .ref a31, .ref a32, .ref a33, .ref a34, .int 0, .int 0, .ref a37, .ref a38, .ref a39, .ref a40, .ref a41, .int 0, .ref a43, .ref a44, .ref a45, .ref a46, .ref a47, .int 0, .int 0, .int 0, .int 0, .ref a52, .ref a53, .int 0, .int 0, .ref a56, .ref a57, .int 0, .ref a59, .ref a60, .ref a61]))] := hD
          obtain rfl := hw
          have e9 : f_X9_add p0 p1 = (1, 0) := by rw [f_X9_add, if_neg c_1, if_pos c_2, if_neg c_3, if_neg c_6]
          have hP9 := hP.sub (ws' := [(h0, .inr (9, [.int 1, .int 4, .int 0, .int 0, .ref a4, .ref a5, .ref a6, .ref a7, .ref a8, .ref a9, .ref a10, .ref a11, .ref a12, .int 0, .int 0, .int (-1), .int 0, .int 0, .int 0, .ref a19, .int 0, .int 0, .int 0, .ref a23, .ref a24, .ref a25, .ref a26, .ref a27, .ref a28, .ref a29, .ref a30, .ref a31, .ref a32, .ref a33, .ref a34, .int 0, .int 0, .ref a37, .ref a38, .ref a39, .ref a40, .ref a41, .int 0, .ref a43, .ref a44, .ref a45, .ref a46, .ref a47, .int 0, .int 0, .int 0, .int 0, .ref a52, .ref a53, .int 0, .int 0, .ref a56, .ref a57, .int 0, .ref a59, .ref a60, .ref a61]))]) [2] rfl
          have hD9 := hD.sub (ws' := [(h0, .inr (9, [.int 1, .int 4, .int 0, .int 0, .ref a4, .ref a5, .ref a6, .ref a7, .ref a8, .ref a9, .ref a10, .ref a11, .ref a12, .int 0, .int 0, .int (-1), .int 0, .int 0, .int 0, .ref a19, .int 0, .int 0, .int 0, .ref a23, .ref a24, .ref a25, .ref a26, .ref a27, .ref a28, .ref a29, .ref a30, .ref a31, .ref a32, .ref a33, .ref a34, .int 0, .int 0, .ref a37, .ref a38, .ref a39, .ref a40, .ref a41, .int 0, .ref a43, .ref a44, .ref a45, .ref a46, .ref a47, .int 0, .int 0, .int 0, .int 0, .ref a52, .ref a53, .int 0, .int 0, .ref a56, .ref a57, .int 0, .ref a59, .ref a60, .ref a61]))]) [2] (by decide) rfl
          exact W.iret hx hb hr (fun t ht hW => ⟨⟨_, (), rfl, by rw [e9], [.int 4, .int 0, .int 0, .ref a4, .ref a5, .ref a6, .ref a7, .ref a8, .ref a9, .ref a10, .ref a11, .ref a12, .int 0, .int 0, .int (-1), .int 0, .int 0, .int 0, .ref a19, .int 0, .int 0, .int 0, .ref a23, .ref a24, .ref a25, .ref a26, .ref a27, .ref a28, .ref a29, .ref a30, .ref a31, .ref a32, .ref a33, .ref a34, .int 0, .int 0, .ref a37, .ref a38, .ref a39, .ref a40, .ref a41, .int 0, .ref a43, .ref a44, .ref a45, .ref a46, .ref a47, .int 0, .int 0, .int 0, .int 0, .ref a52, .ref a53, .int 0, .int 0, .ref a56, .ref a57, .int 0, .ref a59, .ref a60, .ref a61], by rw [ht, e9]; exact hP9, va_K.moved hW.alike hK, by rw [e9]; exact hD9⟩, hS.F ht⟩) hS.2.2 dX9_add_34
